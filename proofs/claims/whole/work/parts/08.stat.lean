set_option maxRecDepth 100000 in
set_option maxHeartbeats 4000000 in
theorem c_C_isPlace {l : Launch} {D : va_G} (kI kZ : ClassId) (x : Nat → Nat) (a : Int) (ha : (-2147483648 ≤ a ∧ a < 2147483648)) : Dt l D (ty2 kI kZ) y_C_isPlace w_C_isPlace { frames := 0, cells := 0, slots := 0, locals := 0 } [.int (iI (a))] ([]) (some (.int (iI (bP a)))) ([]) := by
  refine Met.toJ (own := R_C) (QD D (some (.int (iI (bP a)))) ([])) mk_C_isPlace rfl (Nat.le_of_ble_eq_true rfl) ?_
  intro p e s m args below meth c A C hr hlk hnm
  show JJ p l e { frames := 0, cells := 0, slots := 0, locals := 0 } s m args below meth c D A 1 (MQ below (QD D (some (.int (iI (bP a)))) ([]) A) args s 0 0 A) 0 0 0 [(0, .int (iI (a)))] [] ([])
  refine j_iload_n (q := 1) C 0 rfl d_C_isPlace_0 rfl ?_
  refine j_if_lt C 14 4 d_C_isPlace_1 rfl rfl (by omega) (fun c1 => ?_) (fun c1 => ?_)
  · refine j_iconst (q := 15) C d_C_isPlace_14 rfl ?_
    exact j_zret C hr hlk (by omega) d_C_isPlace_15 (congrArg (fun z => some (Value.int (iI z))) (show (bP a) = (0) from by unfold bP; split <;> omega)) rfl
  · refine j_iload_n (q := 5) C 0 rfl d_C_isPlace_4 rfl ?_
    refine j_bipush (q := 7) C d_C_isPlace_5 rfl rfl ?_
    refine j_icmp_ge C 14 10 d_C_isPlace_7 rfl rfl (by omega) (by omega) (fun c2 => ?_) (fun c2 => ?_)
    · refine j_iconst (q := 15) C d_C_isPlace_14 rfl ?_
      first | (exfalso; omega) | exact j_zret C hr hlk (by omega) d_C_isPlace_15 (congrArg (fun z => some (Value.int (iI z))) (show (bP a) = (0) from by unfold bP; split <;> omega)) rfl
    · refine j_iconst (q := 11) C d_C_isPlace_10 rfl ?_
      refine j_goto C 15 d_C_isPlace_11 rfl ?_
      first | (exfalso; omega) | exact j_zret C hr hlk (by omega) d_C_isPlace_15 (congrArg (fun z => some (Value.int (iI z))) (show (bP a) = (1) from by unfold bP; split <;> omega)) rfl
set_option maxRecDepth 100000 in
set_option maxHeartbeats 4000000 in
theorem c_C_isNumber {l : Launch} {D : va_G} (kI kZ : ClassId) (x : Nat → Nat) (a : Int) (ha : (-2147483648 ≤ a ∧ a < 2147483648)) : Dt l D (ty2 kI kZ) y_C_isNumber w_C_isNumber { frames := 0, cells := 0, slots := 0, locals := 0 } [.int (iI (a))] ([]) (some (.int (iI (bP a)))) ([]) := by
  refine Met.toJ (own := R_C) (QD D (some (.int (iI (bP a)))) ([])) mk_C_isNumber rfl (Nat.le_of_ble_eq_true rfl) ?_
  intro p e s m args below meth c A C hr hlk hnm
  show JJ p l e { frames := 0, cells := 0, slots := 0, locals := 0 } s m args below meth c D A 1 (MQ below (QD D (some (.int (iI (bP a)))) ([]) A) args s 0 0 A) 0 0 0 [(0, .int (iI (a)))] [] ([])
  refine j_iload_n (q := 1) C 0 rfl d_C_isNumber_0 rfl ?_
  refine j_if_lt C 14 4 d_C_isNumber_1 rfl rfl (by omega) (fun c1 => ?_) (fun c1 => ?_)
  · refine j_iconst (q := 15) C d_C_isNumber_14 rfl ?_
    exact j_zret C hr hlk (by omega) d_C_isNumber_15 (congrArg (fun z => some (Value.int (iI z))) (show (bP a) = (0) from by unfold bP; split <;> omega)) rfl
  · refine j_iload_n (q := 5) C 0 rfl d_C_isNumber_4 rfl ?_
    refine j_bipush (q := 7) C d_C_isNumber_5 rfl rfl ?_
    refine j_icmp_ge C 14 10 d_C_isNumber_7 rfl rfl (by omega) (by omega) (fun c2 => ?_) (fun c2 => ?_)
    · refine j_iconst (q := 15) C d_C_isNumber_14 rfl ?_
      first | (exfalso; omega) | exact j_zret C hr hlk (by omega) d_C_isNumber_15 (congrArg (fun z => some (Value.int (iI z))) (show (bP a) = (0) from by unfold bP; split <;> omega)) rfl
    · refine j_iconst (q := 11) C d_C_isNumber_10 rfl ?_
      refine j_goto C 15 d_C_isNumber_11 rfl ?_
      first | (exfalso; omega) | exact j_zret C hr hlk (by omega) d_C_isNumber_15 (congrArg (fun z => some (Value.int (iI z))) (show (bP a) = (1) from by unfold bP; split <;> omega)) rfl
set_option maxRecDepth 100000 in
set_option maxHeartbeats 4000000 in
theorem c_C_placeOf {l : Launch} {D : va_G} (kI kZ : ClassId) (x : Nat → Nat) (a : Int) (ha : (-2147483648 ≤ a ∧ a < 2147483648)) : Dt l D (ty2 kI kZ) y_C_placeOf w_C_placeOf { frames := 0, cells := 0, slots := 0, locals := 0 } [.int (iI (a))] ([]) (some (.int (iI (plOf a)))) ([]) := by
  refine Met.toJ (own := R_C) (QD D (some (.int (iI (plOf a)))) ([])) mk_C_placeOf rfl (Nat.le_of_ble_eq_true rfl) ?_
  intro p e s m args below meth c A C hr hlk hnm
  show JJ p l e { frames := 0, cells := 0, slots := 0, locals := 0 } s m args below meth c D A 2 (MQ below (QD D (some (.int (iI (plOf a)))) ([]) A) args s 0 0 A) 0 0 0 [(0, .int (iI (a)))] [] ([])
  refine j_iload_n (q := 1) C 0 rfl d_C_placeOf_0 rfl ?_
  refine j_bipush (q := 3) C d_C_placeOf_1 rfl rfl ?_
  refine j_icmp_lt C 16 6 d_C_placeOf_3 rfl rfl (by omega) (by omega) (fun c1 => ?_) (fun c1 => ?_)
  · refine j_iconst (q := 17) C d_C_placeOf_16 rfl ?_
    refine j_istore_n (q := 18) C [(0, .int (iI (a))), (1, .int (iI (0)))] rfl (by decide) d_C_placeOf_17 rfl ?_
    refine j_iload_n (q := 19) C 1 rfl d_C_placeOf_18 rfl ?_
    refine j_if_eq C 29 22 d_C_placeOf_19 rfl rfl (by omega) (fun c2 => ?_) (fun c2 => ?_)
    · refine j_iconst (q := 30) C d_C_placeOf_29 rfl ?_
      first | (exfalso; omega) | exact j_iret C hr hlk d_C_placeOf_30 (congrArg (fun z => some (Value.int (iI z))) (show (plOf a) = (-1) from by unfold plOf; split <;> omega)) rfl
    · exfalso; omega
  · refine j_iload_n (q := 7) C 0 rfl d_C_placeOf_6 rfl ?_
    refine j_bipush (q := 9) C d_C_placeOf_7 rfl rfl ?_
    refine j_icmp_ge C 16 12 d_C_placeOf_9 rfl rfl (by omega) (by omega) (fun c3 => ?_) (fun c3 => ?_)
    · refine j_iconst (q := 17) C d_C_placeOf_16 rfl ?_
      refine j_istore_n (q := 18) C [(0, .int (iI (a))), (1, .int (iI (0)))] rfl (by decide) d_C_placeOf_17 rfl ?_
      refine j_iload_n (q := 19) C 1 rfl d_C_placeOf_18 rfl ?_
      refine j_if_eq C 29 22 d_C_placeOf_19 rfl rfl (by omega) (fun c4 => ?_) (fun c4 => ?_)
      · refine j_iconst (q := 30) C d_C_placeOf_29 rfl ?_
        first | (exfalso; omega) | exact j_iret C hr hlk d_C_placeOf_30 (congrArg (fun z => some (Value.int (iI z))) (show (plOf a) = (-1) from by unfold plOf; split <;> omega)) rfl
      · exfalso; omega
    · refine j_iconst (q := 13) C d_C_placeOf_12 rfl ?_
      refine j_goto C 17 d_C_placeOf_13 rfl ?_
      refine j_istore_n (q := 18) C [(0, .int (iI (a))), (1, .int (iI (1)))] rfl (by decide) d_C_placeOf_17 rfl ?_
      refine j_iload_n (q := 19) C 1 rfl d_C_placeOf_18 rfl ?_
      refine j_if_eq C 29 22 d_C_placeOf_19 rfl rfl (by omega) (fun c5 => ?_) (fun c5 => ?_)
      · exfalso; omega
      · refine j_iload_n (q := 23) C 0 rfl d_C_placeOf_22 rfl ?_
        refine j_bipush (q := 25) C d_C_placeOf_23 rfl rfl ?_
        refine j_isub (q := 26) C d_C_placeOf_25 rfl ?_
        refine j_goto C 30 d_C_placeOf_26 rfl ?_
        first | (exfalso; omega) | exact j_iret C hr hlk d_C_placeOf_30 (congrArg (fun z => some (Value.int (iI z))) (show (plOf a) = (a - 97) from by unfold plOf; split <;> omega)) rfl
set_option maxRecDepth 100000 in
set_option maxHeartbeats 4000000 in
theorem c_C_letterOf {l : Launch} {D : va_G} (kI kZ : ClassId) (x : Nat → Nat) (a : Int) (ha : (-2147483648 ≤ a ∧ a < 2147483648)) : Dt l D (ty2 kI kZ) y_C_letterOf w_C_letterOf { frames := 1, cells := 0, slots := 0, locals := 20 } [.int (iI (a))] ([]) (some (.int (iI (leOf a)))) ([]) := by
  refine Met.toJ (own := R_C) (QD D (some (.int (iI (leOf a)))) ([])) mk_C_letterOf rfl (Nat.le_of_ble_eq_true rfl) ?_
  intro p e s m args below meth c A C hr hlk hnm
  show JJ p l e { frames := 1, cells := 0, slots := 0, locals := 20 } s m args below meth c D A 1 (MQ below (QD D (some (.int (iI (leOf a)))) ([]) A) args s 0 0 A) 0 0 0 [(0, .int (iI (a)))] [] ([])
  refine j_iload_n (q := 1) C 0 rfl d_C_letterOf_0 rfl ?_
  have e1 := bP_r a
  refine j_callS (q := 4) (wr := []) C [.int (iI (a))] [] (c_C_isPlace kI kZ x a (by omega)) ml_C_168 mk_C_isPlace st_C_isPlace [] [] [] rfl (by decide) rfl (by decide) (by decide) ([]) rfl (by decide) rfl rfl rfl (Nat.le_of_ble_eq_true rfl) ⟨Nat.le_of_ble_eq_true rfl, Nat.le_of_ble_eq_true rfl⟩ ⟨Nat.le_of_ble_eq_true rfl, Nat.le_of_ble_eq_true rfl⟩ d_C_letterOf_1 rfl ?_
  refine j_if_eq C 14 7 d_C_letterOf_4 rfl rfl (by omega) (fun c1 => ?_) (fun c1 => ?_)
  · have c1 := bP_0 c1
    refine j_iconst (q := 15) C d_C_letterOf_14 rfl ?_
    exact j_iret C hr hlk d_C_letterOf_15 (congrArg (fun z => some (Value.int (iI z))) (show (leOf a) = (-1) from by unfold leOf; split <;> omega)) rfl
  · have c1 := bP_1 c1
    refine j_iload_n (q := 8) C 0 rfl d_C_letterOf_7 rfl ?_
    refine j_bipush (q := 10) C d_C_letterOf_8 rfl rfl ?_
    refine j_iadd (q := 11) C d_C_letterOf_10 rfl ?_
    refine j_goto C 15 d_C_letterOf_11 rfl ?_
    exact j_iret C hr hlk d_C_letterOf_15 (congrArg (fun z => some (Value.int (iI z))) (show (leOf a) = (a + 97) from by unfold leOf; split <;> omega)) rfl
set_option maxRecDepth 100000 in
set_option maxHeartbeats 4000000 in
theorem c_C_shiftedPlace {l : Launch} {D : va_G} (kI kZ : ClassId) (x : Nat → Nat) (a b : Int) (ha : 0 ≤ a ∧ a < 26) (hb : 0 ≤ b ∧ b < 26) : Dt l D (ty2 kI kZ) y_C_shiftedPlace w_C_shiftedPlace { frames := 0, cells := 0, slots := 0, locals := 0 } [.int (iI (a)), .int (iI (b))] ([]) (some (.int (iI ((a + b) % 26)))) ([]) := by
  refine Met.toJ (own := R_C) (QD D (some (.int (iI ((a + b) % 26)))) ([])) mk_C_shiftedPlace rfl (Nat.le_of_ble_eq_true rfl) ?_
  intro p e s m args below meth c A C hr hlk hnm
  show JJ p l e { frames := 0, cells := 0, slots := 0, locals := 0 } s m args below meth c D A 2 (MQ below (QD D (some (.int (iI ((a + b) % 26)))) ([]) A) args s 0 0 A) 0 0 0 [(0, .int (iI (a))), (1, .int (iI (b)))] [] ([])
  refine j_iload_n (q := 1) C 0 rfl d_C_shiftedPlace_0 rfl ?_
  refine j_iload_n (q := 2) C 1 rfl d_C_shiftedPlace_1 rfl ?_
  refine j_iadd (q := 3) C d_C_shiftedPlace_2 rfl ?_
  refine j_bipush (q := 5) C d_C_shiftedPlace_3 rfl rfl ?_
  refine j_irem (q := 6) C (by omega) (by omega) d_C_shiftedPlace_5 rfl ?_
  exact j_iret C hr hlk d_C_shiftedPlace_6 rfl rfl
set_option maxRecDepth 100000 in
set_option maxHeartbeats 4000000 in
theorem c_C_shiftedLetter {l : Launch} {D : va_G} (kI kZ : ClassId) (x : Nat → Nat) (a b : Int) (ha : -1 ≤ a ∧ a < 26) (hb : 0 ≤ b ∧ b < 26) : Dt l D (ty2 kI kZ) y_C_shiftedLetter w_C_shiftedLetter { frames := 2, cells := 0, slots := 0, locals := 40 } [.int (iI (a)), .int (iI (b))] ([]) (some (.int (iI (shL a b)))) ([]) := by
  refine Met.toJ (own := R_C) (QD D (some (.int (iI (shL a b)))) ([])) mk_C_shiftedLetter rfl (Nat.le_of_ble_eq_true rfl) ?_
  intro p e s m args below meth c A C hr hlk hnm
  show JJ p l e { frames := 2, cells := 0, slots := 0, locals := 40 } s m args below meth c D A 2 (MQ below (QD D (some (.int (iI (shL a b)))) ([]) A) args s 0 0 A) 0 0 0 [(0, .int (iI (a))), (1, .int (iI (b)))] [] ([])
  refine j_iload_n (q := 1) C 0 rfl d_C_shiftedLetter_0 rfl ?_
  refine j_iconst (q := 2) C d_C_shiftedLetter_1 rfl ?_
  refine j_icmp_ne C 9 5 d_C_shiftedLetter_2 rfl rfl (by omega) (by omega) (fun c1 => ?_) (fun c1 => ?_)
  · refine j_iload_n (q := 10) C 0 rfl d_C_shiftedLetter_9 rfl ?_
    refine j_iload_n (q := 11) C 1 rfl d_C_shiftedLetter_10 rfl ?_
    have e11 : 0 ≤ (a + b) % 26 ∧ (a + b) % 26 < 26 := by omega
    refine j_callS (q := 14) (wr := []) C [.int (iI (a)), .int (iI (b))] [] (c_C_shiftedPlace kI kZ x a b (by omega) (by omega)) ml_C_165 mk_C_shiftedPlace st_C_shiftedPlace [] [] [] rfl (by decide) rfl (by decide) (by decide) ([]) rfl (by decide) rfl rfl rfl (Nat.le_of_ble_eq_true rfl) ⟨Nat.le_of_ble_eq_true rfl, Nat.le_of_ble_eq_true rfl⟩ ⟨Nat.le_of_ble_eq_true rfl, Nat.le_of_ble_eq_true rfl⟩ d_C_shiftedLetter_11 rfl ?_
    have e14 : -1 ≤ leOf ((a + b) % 26) ∧ leOf ((a + b) % 26) < 123 := by unfold leOf; split <;> omega
    refine j_callS (q := 17) (wr := []) C [.int (iI ((a + b) % 26))] [] (c_C_letterOf kI kZ x ((a + b) % 26) (by omega)) ml_C_102 mk_C_letterOf st_C_letterOf [] [] [] rfl (by decide) rfl (by decide) (by decide) ([]) rfl (by decide) rfl rfl rfl (Nat.le_of_ble_eq_true rfl) ⟨Nat.le_of_ble_eq_true rfl, Nat.le_of_ble_eq_true rfl⟩ ⟨Nat.le_of_ble_eq_true rfl, Nat.le_of_ble_eq_true rfl⟩ d_C_shiftedLetter_14 rfl ?_
    exact j_iret C hr hlk d_C_shiftedLetter_17 (congrArg (fun z => some (Value.int (iI z))) (show (shL a b) = (leOf ((a + b) % 26)) from by unfold shL; split <;> first | rfl | omega)) rfl
  · refine j_iconst (q := 6) C d_C_shiftedLetter_5 rfl ?_
    refine j_goto C 17 d_C_shiftedLetter_6 rfl ?_
    exact j_iret C hr hlk d_C_shiftedLetter_17 (congrArg (fun z => some (Value.int (iI z))) (show (shL a b) = (-1) from by unfold shL; split <;> first | rfl | omega)) rfl
