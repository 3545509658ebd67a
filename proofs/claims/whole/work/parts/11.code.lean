def IK (KS KB KE KZ KV : Nat → Int) (kn kw : Int) : Prop := (0 ≤ kn ∧ kn ≤ 60) ∧ (0 ≤ kw ∧ kw ≤ 30) ∧ (∀ j, -1 ≤ KS j ∧ KS j < 26) ∧ (∀ j, 0 ≤ KB j ∧ KB j < 60) ∧ (∀ j, 0 ≤ KE j ∧ KE j ≤ 60) ∧ (∀ j, 0 ≤ KZ j ∧ KZ j ≤ 1) ∧ ∀ j, -1 ≤ KV j ∧ KV j < 26
theorem lnK_r {KE : Nat → Int} (h : ∀ j, 0 ≤ KE j ∧ KE j ≤ 60) (n a : Int) : 0 ≤ lnOf KE n a ∧ lnOf KE n a ≤ 60 := by
  have := h a.toNat
  unfold lnOf
  split <;> omega
def ctK (KZ : Nat → Int) (a : Int) : Int := if (0 ≤ a ∧ a < 26) ∧ ¬ KZ a.toNat = 0 then 1 else 0
theorem ctK_r (KZ : Nat → Int) (a : Int) : 0 ≤ ctK KZ a ∧ ctK KZ a ≤ 1 := by unfold ctK; split <;> omega
def nmAt (KS KB KE : Nat → Int) (kn kw a i : Int) : Int := if 0 ≤ i ∧ i < lnOf KE kw a then sgAt KS kn (KB a.toNat + i) else -1
theorem nmAt_r {KS KB KE : Nat → Int} (h : ∀ j, -1 ≤ KS j ∧ KS j < 26) (kn kw a i : Int) : -1 ≤ nmAt KS KB KE kn kw a i ∧ nmAt KS KB KE kn kw a i < 26 := by
  have := sgAt_r h kn (KB a.toNat + i)
  unfold nmAt
  split <;> omega
def kpAt (KV : Nat → Int) (a : Int) : Int := if 0 ≤ a ∧ a < 26 then KV a.toNat else -1
theorem kpAt_r {KV : Nat → Int} (h : ∀ j, -1 ≤ KV j ∧ KV j < 26) (a : Int) : -1 ≤ kpAt KV a ∧ kpAt KV a < 26 := by
  have := h a.toNat
  unfold kpAt
  split <;> omega
/-- a codeword begins with the sign that comes -/
def gB (KS : Nat → Int) (kn kw : Int) : Prop := sgAt KS kn (kn - 1) = -1 ∧ kw < 30

set_option maxRecDepth 100000 in
set_option maxHeartbeats 4000000 in
theorem c_K_size {l : Launch} {D : va_G} (kI kZ : ClassId) (x : Nat → Nat) (KS KB KE KZ KV : Nat → Int) (kn kw : Int) (hK : IK KS KB KE KZ KV kn kw) : Dt l D (ty2 kI kZ) y_K_size w_K_size { frames := 0, cells := 0, slots := 0, locals := 0 } [.ref (x 5)] (wK kI kZ x KS KB KE KZ KV kn kw) (some (.int (iI (kn)))) (wK kI kZ x KS KB KE KZ KV kn kw) := by
  refine Met.toJ (own := R_K) (QD D (some (.int (iI (kn)))) (wK kI kZ x KS KB KE KZ KV kn kw)) mk_K_size rfl (Nat.le_of_ble_eq_true rfl) ?_
  intro p e s m args below meth c A C hr hlk hnm
  show JJ p l e { frames := 0, cells := 0, slots := 0, locals := 0 } s m args below meth c D A 1 (MQ below (QD D (some (.int (iI (kn)))) (wK kI kZ x KS KB KE KZ KV kn kw) A) args s 0 0 A) 0 0 0 [(0, .ref (x 5))] [] (wK kI kZ x KS KB KE KZ KV kn kw)
  refine j_aload_n (q := 1) C 0 rfl d_K_size_0 rfl ?_
  refine j_get (q := 4) C i_K rfl 0 rfl 5 (by decide) rfl rfl fl_K_28 d_K_size_1 rfl ?_
  exact j_iret C hr hlk d_K_size_4 rfl rfl
set_option maxRecDepth 100000 in
set_option maxHeartbeats 4000000 in
theorem c_K_codewordCount {l : Launch} {D : va_G} (kI kZ : ClassId) (x : Nat → Nat) (KS KB KE KZ KV : Nat → Int) (kn kw : Int) (hK : IK KS KB KE KZ KV kn kw) : Dt l D (ty2 kI kZ) y_K_codewordCount w_K_codewordCount { frames := 0, cells := 0, slots := 0, locals := 0 } [.ref (x 5)] (wK kI kZ x KS KB KE KZ KV kn kw) (some (.int (iI (kw)))) (wK kI kZ x KS KB KE KZ KV kn kw) := by
  refine Met.toJ (own := R_K) (QD D (some (.int (iI (kw)))) (wK kI kZ x KS KB KE KZ KV kn kw)) mk_K_codewordCount rfl (Nat.le_of_ble_eq_true rfl) ?_
  intro p e s m args below meth c A C hr hlk hnm
  show JJ p l e { frames := 0, cells := 0, slots := 0, locals := 0 } s m args below meth c D A 1 (MQ below (QD D (some (.int (iI (kw)))) (wK kI kZ x KS KB KE KZ KV kn kw) A) args s 0 0 A) 0 0 0 [(0, .ref (x 5))] [] (wK kI kZ x KS KB KE KZ KV kn kw)
  refine j_aload_n (q := 1) C 0 rfl d_K_codewordCount_0 rfl ?_
  refine j_get (q := 4) C i_K rfl 0 rfl 6 (by decide) rfl rfl fl_K_32 d_K_codewordCount_1 rfl ?_
  exact j_iret C hr hlk d_K_codewordCount_4 rfl rfl
set_option maxRecDepth 100000 in
set_option maxHeartbeats 4000000 in
theorem c_K_signAt {l : Launch} {D : va_G} (kI kZ : ClassId) (x : Nat → Nat) (KS KB KE KZ KV : Nat → Int) (kn kw : Int) (hK : IK KS KB KE KZ KV kn kw) (a : Int) (ha : (-2147483648 ≤ a ∧ a < 2147483648)) : Dt l D (ty2 kI kZ) y_K_signAt w_K_signAt { frames := 0, cells := 0, slots := 0, locals := 0 } [.ref (x 5), .int (iI (a))] (wK kI kZ x KS KB KE KZ KV kn kw) (some (.int (iI (sgAt KS kn a)))) (wK kI kZ x KS KB KE KZ KV kn kw) := by
  refine Met.toJ (own := R_K) (QD D (some (.int (iI (sgAt KS kn a)))) (wK kI kZ x KS KB KE KZ KV kn kw)) mk_K_signAt rfl (Nat.le_of_ble_eq_true rfl) ?_
  intro p e s m args below meth c A C hr hlk hnm
  show JJ p l e { frames := 0, cells := 0, slots := 0, locals := 0 } s m args below meth c D A 2 (MQ below (QD D (some (.int (iI (sgAt KS kn a)))) (wK kI kZ x KS KB KE KZ KV kn kw) A) args s 0 0 A) 0 0 0 [(0, .ref (x 5)), (1, .int (iI (a)))] [] (wK kI kZ x KS KB KE KZ KV kn kw)
  obtain ⟨hkn, hkw, hKS, hKB, hKE, hKZ, hKV⟩ := id hK
  refine j_iload_n (q := 1) C 1 rfl d_K_signAt_0 rfl ?_
  refine j_if_lt C 21 4 d_K_signAt_1 rfl rfl (by omega) (fun c1 => ?_) (fun c1 => ?_)
  · refine j_iconst (q := 22) C d_K_signAt_21 rfl ?_
    exact j_iret C hr hlk d_K_signAt_22 (congrArg (fun z => some (Value.int (iI z))) (show (sgAt KS kn a) = (-1) from by unfold sgAt; split <;> first | rfl | omega)) rfl
  · refine j_iload_n (q := 5) C 1 rfl d_K_signAt_4 rfl ?_
    refine j_aload_n (q := 6) C 0 rfl d_K_signAt_5 rfl ?_
    refine j_get (q := 9) C i_K rfl 0 rfl 5 (by decide) rfl rfl fl_K_28 d_K_signAt_6 rfl ?_
    refine j_icmp_ge C 21 12 d_K_signAt_9 rfl rfl (by omega) (by omega) (fun c2 => ?_) (fun c2 => ?_)
    · refine j_iconst (q := 22) C d_K_signAt_21 rfl ?_
      first | (exfalso; omega) | exact j_iret C hr hlk d_K_signAt_22 (congrArg (fun z => some (Value.int (iI z))) (show (sgAt KS kn a) = (-1) from by unfold sgAt; split <;> first | rfl | omega)) rfl
    · refine j_aload_n (q := 13) C 0 rfl d_K_signAt_12 rfl ?_
      refine j_get (q := 16) C i_K rfl 0 rfl 0 (by decide) rfl rfl fl_K_9 d_K_signAt_13 rfl ?_
      refine j_iload_n (q := 17) C 1 rfl d_K_signAt_16 rfl ?_
      refine j_iald (q := 18) C 1 0 rfl rfl (by decide) (by omega) d_K_signAt_17 rfl ?_
      have h17 := hKS a.toNat
      refine j_goto C 22 d_K_signAt_18 rfl ?_
      first | (exfalso; omega) | exact j_iret C hr hlk d_K_signAt_22 (congrArg (fun z => some (Value.int (iI z))) (show (sgAt KS kn a) = (KS a.toNat) from by unfold sgAt; split <;> first | rfl | omega)) rfl
set_option maxRecDepth 100000 in
set_option maxHeartbeats 4000000 in
theorem c_K_contains {l : Launch} {D : va_G} (kI kZ : ClassId) (x : Nat → Nat) (KS KB KE KZ KV : Nat → Int) (kn kw : Int) (hK : IK KS KB KE KZ KV kn kw) (a : Int) (ha : (-2147483648 ≤ a ∧ a < 2147483648)) : Dt l D (ty2 kI kZ) y_K_contains w_K_contains { frames := 1, cells := 0, slots := 0, locals := 20 } [.ref (x 5), .int (iI (a))] (wK kI kZ x KS KB KE KZ KV kn kw) (some (.int (iI (ctK KZ a)))) (wK kI kZ x KS KB KE KZ KV kn kw) := by
  refine Met.toJ (own := R_K) (QD D (some (.int (iI (ctK KZ a)))) (wK kI kZ x KS KB KE KZ KV kn kw)) mk_K_contains rfl (Nat.le_of_ble_eq_true rfl) ?_
  intro p e s m args below meth c A C hr hlk hnm
  show JJ p l e { frames := 1, cells := 0, slots := 0, locals := 20 } s m args below meth c D A 2 (MQ below (QD D (some (.int (iI (ctK KZ a)))) (wK kI kZ x KS KB KE KZ KV kn kw) A) args s 0 0 A) 0 0 0 [(0, .ref (x 5)), (1, .int (iI (a)))] [] (wK kI kZ x KS KB KE KZ KV kn kw)
  obtain ⟨hkn, hkw, hKS, hKB, hKE, hKZ, hKV⟩ := id hK
  refine j_iload_n (q := 1) C 1 rfl d_K_contains_0 rfl ?_
  have e1 := bP_r a
  refine j_callN (q := 4) (wr := wK kI kZ x KS KB KE KZ KV kn kw) C [.int (iI (a))] [] (c_C_isNumber kI kZ x a (by omega)) nl_K_41 mk_C_isNumber st_C_isNumber [] [0, 1, 2, 3, 4, 5] [0, 1, 2, 3, 4, 5] rfl (by decide) rfl (by decide) (by decide) (wK kI kZ x KS KB KE KZ KV kn kw) rfl (by decide) rfl rfl rfl (Nat.le_of_ble_eq_true rfl) ⟨Nat.le_of_ble_eq_true rfl, Nat.le_of_ble_eq_true rfl⟩ ⟨Nat.le_of_ble_eq_true rfl, Nat.le_of_ble_eq_true rfl⟩ d_K_contains_1 rfl ?_
  refine j_if_eq C 20 7 d_K_contains_4 rfl rfl (by omega) (fun c1 => ?_) (fun c1 => ?_)
  · have c1 := bP_0 c1
    refine j_iconst (q := 21) C d_K_contains_20 rfl ?_
    exact j_zret C hr hlk (by omega) d_K_contains_21 (congrArg (fun z => some (Value.int (iI z))) (show (ctK KZ a) = (0) from by unfold ctK; split <;> omega)) rfl
  · have c1 := bP_1 c1
    refine j_aload_n (q := 8) C 0 rfl d_K_contains_7 rfl ?_
    refine j_get (q := 11) C i_K rfl 0 rfl 3 (by decide) rfl rfl fl_K_21 d_K_contains_8 rfl ?_
    refine j_iload_n (q := 12) C 1 rfl d_K_contains_11 rfl ?_
    refine j_zald (q := 13) C 4 1 rfl rfl (by decide) (by omega) d_K_contains_12 rfl ?_
    have h12 := hKZ a.toNat
    refine j_if_eq C 20 16 d_K_contains_13 rfl rfl (by omega) (fun c2 => ?_) (fun c2 => ?_)
    · refine j_iconst (q := 21) C d_K_contains_20 rfl ?_
      first | (exfalso; omega) | exact j_zret C hr hlk (by omega) d_K_contains_21 (congrArg (fun z => some (Value.int (iI z))) (show (ctK KZ a) = (0) from by unfold ctK; split <;> omega)) rfl
    · refine j_iconst (q := 17) C d_K_contains_16 rfl ?_
      refine j_goto C 21 d_K_contains_17 rfl ?_
      first | (exfalso; omega) | exact j_zret C hr hlk (by omega) d_K_contains_21 (congrArg (fun z => some (Value.int (iI z))) (show (ctK KZ a) = (1) from by unfold ctK; split <;> omega)) rfl
set_option maxRecDepth 100000 in
set_option maxHeartbeats 4000000 in
theorem c_K_codewordLength {l : Launch} {D : va_G} (kI kZ : ClassId) (x : Nat → Nat) (KS KB KE KZ KV : Nat → Int) (kn kw : Int) (hK : IK KS KB KE KZ KV kn kw) (a : Int) (ha : (-2147483648 ≤ a ∧ a < 2147483648)) : Dt l D (ty2 kI kZ) y_K_codewordLength w_K_codewordLength { frames := 0, cells := 0, slots := 0, locals := 0 } [.ref (x 5), .int (iI (a))] (wK kI kZ x KS KB KE KZ KV kn kw) (some (.int (iI (lnOf KE kw a)))) (wK kI kZ x KS KB KE KZ KV kn kw) := by
  refine Met.toJ (own := R_K) (QD D (some (.int (iI (lnOf KE kw a)))) (wK kI kZ x KS KB KE KZ KV kn kw)) mk_K_codewordLength rfl (Nat.le_of_ble_eq_true rfl) ?_
  intro p e s m args below meth c A C hr hlk hnm
  show JJ p l e { frames := 0, cells := 0, slots := 0, locals := 0 } s m args below meth c D A 2 (MQ below (QD D (some (.int (iI (lnOf KE kw a)))) (wK kI kZ x KS KB KE KZ KV kn kw) A) args s 0 0 A) 0 0 0 [(0, .ref (x 5)), (1, .int (iI (a)))] [] (wK kI kZ x KS KB KE KZ KV kn kw)
  obtain ⟨hkn, hkw, hKS, hKB, hKE, hKZ, hKV⟩ := id hK
  refine j_iload_n (q := 1) C 1 rfl d_K_codewordLength_0 rfl ?_
  refine j_if_lt C 21 4 d_K_codewordLength_1 rfl rfl (by omega) (fun c1 => ?_) (fun c1 => ?_)
  · refine j_iconst (q := 22) C d_K_codewordLength_21 rfl ?_
    exact j_iret C hr hlk d_K_codewordLength_22 (congrArg (fun z => some (Value.int (iI z))) (show (lnOf KE kw a) = (0) from by unfold lnOf; split <;> first | rfl | omega)) rfl
  · refine j_iload_n (q := 5) C 1 rfl d_K_codewordLength_4 rfl ?_
    refine j_aload_n (q := 6) C 0 rfl d_K_codewordLength_5 rfl ?_
    refine j_get (q := 9) C i_K rfl 0 rfl 6 (by decide) rfl rfl fl_K_32 d_K_codewordLength_6 rfl ?_
    refine j_icmp_ge C 21 12 d_K_codewordLength_9 rfl rfl (by omega) (by omega) (fun c2 => ?_) (fun c2 => ?_)
    · refine j_iconst (q := 22) C d_K_codewordLength_21 rfl ?_
      first | (exfalso; omega) | exact j_iret C hr hlk d_K_codewordLength_22 (congrArg (fun z => some (Value.int (iI z))) (show (lnOf KE kw a) = (0) from by unfold lnOf; split <;> first | rfl | omega)) rfl
    · refine j_aload_n (q := 13) C 0 rfl d_K_codewordLength_12 rfl ?_
      refine j_get (q := 16) C i_K rfl 0 rfl 2 (by decide) rfl rfl fl_K_18 d_K_codewordLength_13 rfl ?_
      refine j_iload_n (q := 17) C 1 rfl d_K_codewordLength_16 rfl ?_
      refine j_iald (q := 18) C 3 0 rfl rfl (by decide) (by omega) d_K_codewordLength_17 rfl ?_
      have h17 := hKE a.toNat
      refine j_goto C 22 d_K_codewordLength_18 rfl ?_
      first | (exfalso; omega) | exact j_iret C hr hlk d_K_codewordLength_22 (congrArg (fun z => some (Value.int (iI z))) (show (lnOf KE kw a) = (KE a.toNat) from by unfold lnOf; split <;> first | rfl | omega)) rfl
set_option maxRecDepth 100000 in
set_option maxHeartbeats 4000000 in
theorem c_K_numberAt {l : Launch} {D : va_G} (kI kZ : ClassId) (x : Nat → Nat) (KS KB KE KZ KV : Nat → Int) (kn kw : Int) (hK : IK KS KB KE KZ KV kn kw) (a i : Int) (ha : (-2147483648 ≤ a ∧ a < 2147483648)) (hi : (-2147483648 ≤ i ∧ i < 2147483648)) : Dt l D (ty2 kI kZ) y_K_numberAt w_K_numberAt { frames := 1, cells := 0, slots := 0, locals := 21 } [.ref (x 5), .int (iI (a)), .int (iI (i))] (wK kI kZ x KS KB KE KZ KV kn kw) (some (.int (iI (nmAt KS KB KE kn kw a i)))) (wK kI kZ x KS KB KE KZ KV kn kw) := by
  refine Met.toJ (own := R_K) (QD D (some (.int (iI (nmAt KS KB KE kn kw a i)))) (wK kI kZ x KS KB KE KZ KV kn kw)) mk_K_numberAt rfl (Nat.le_of_ble_eq_true rfl) ?_
  intro p e s m args below meth c A C hr hlk hnm
  show JJ p l e { frames := 1, cells := 0, slots := 0, locals := 21 } s m args below meth c D A 3 (MQ below (QD D (some (.int (iI (nmAt KS KB KE kn kw a i)))) (wK kI kZ x KS KB KE KZ KV kn kw) A) args s 0 0 A) 0 0 0 [(0, .ref (x 5)), (1, .int (iI (a))), (2, .int (iI (i)))] [] (wK kI kZ x KS KB KE KZ KV kn kw)
  obtain ⟨hkn, hkw, hKS, hKB, hKE, hKZ, hKV⟩ := id hK
  refine j_iload_n (q := 1) C 2 rfl d_K_numberAt_0 rfl ?_
  refine j_if_lt C 28 4 d_K_numberAt_1 rfl rfl (by omega) (fun c1 => ?_) (fun c1 => ?_)
  · refine j_iconst (q := 29) C d_K_numberAt_28 rfl ?_
    exact j_iret C hr hlk d_K_numberAt_29 (congrArg (fun z => some (Value.int (iI z))) (show (nmAt KS KB KE kn kw a i) = (-1) from by unfold nmAt; split <;> first | rfl | omega)) rfl
  · refine j_iload_n (q := 5) C 2 rfl d_K_numberAt_4 rfl ?_
    refine j_aload_n (q := 6) C 0 rfl d_K_numberAt_5 rfl ?_
    refine j_iload_n (q := 7) C 1 rfl d_K_numberAt_6 rfl ?_
    have e7 := lnK_r hKE kw a
    refine j_callV (q := 10) (wr := []) C [.int (iI (a))] [.int (iI (i))] (c_K_codewordLength kI kZ x KS KB KE KZ KV kn kw hK a (by omega)) ml_K_48 mk_K_codewordLength in_K_codewordLength se_K_codewordLength rfl rfl rfl [0, 1, 2, 3, 4, 5] [] [0, 1, 2, 3, 4, 5] rfl (by decide) rfl (by decide) (by decide) (wK kI kZ x KS KB KE KZ KV kn kw) rfl (by decide) rfl rfl rfl (Nat.le_of_ble_eq_true rfl) ⟨Nat.le_of_ble_eq_true rfl, Nat.le_of_ble_eq_true rfl⟩ ⟨Nat.le_of_ble_eq_true rfl, Nat.le_of_ble_eq_true rfl⟩ d_K_numberAt_7 rfl ?_
    refine j_icmp_ge C 28 13 d_K_numberAt_10 rfl rfl (by omega) (by omega) (fun c2 => ?_) (fun c2 => ?_)
    · refine j_iconst (q := 29) C d_K_numberAt_28 rfl ?_
      first | (exfalso; omega) | exact j_iret C hr hlk d_K_numberAt_29 (congrArg (fun z => some (Value.int (iI z))) (show (nmAt KS KB KE kn kw a i) = (-1) from by unfold nmAt; split <;> first | rfl | omega)) rfl
    · have k10 := lnOf_in (WL := KE) (wn := kw) (a := a) (by omega)
      refine j_aload_n (q := 14) C 0 rfl d_K_numberAt_13 rfl ?_
      refine j_aload_n (q := 15) C 0 rfl d_K_numberAt_14 rfl ?_
      refine j_get (q := 18) C i_K rfl 0 rfl 1 (by decide) rfl rfl fl_K_15 d_K_numberAt_15 rfl ?_
      refine j_iload_n (q := 19) C 1 rfl d_K_numberAt_18 rfl ?_
      refine j_iald (q := 20) C 2 0 rfl rfl (by decide) (by omega) d_K_numberAt_19 rfl ?_
      have h19 := hKB a.toNat
      refine j_iload_n (q := 21) C 2 rfl d_K_numberAt_20 rfl ?_
      refine j_iadd (q := 22) C d_K_numberAt_21 rfl ?_
      have e22 := sgAt_r hKS kn ((KB a.toNat) + i)
      refine j_callV (q := 25) (wr := []) C [.int (iI ((KB a.toNat) + i))] [] (c_K_signAt kI kZ x KS KB KE KZ KV kn kw hK ((KB a.toNat) + i) (by omega)) ml_K_52 mk_K_signAt in_K_signAt se_K_signAt rfl rfl rfl [0, 1, 2, 3, 4, 5] [] [0, 1, 2, 3, 4, 5] rfl (by decide) rfl (by decide) (by decide) (wK kI kZ x KS KB KE KZ KV kn kw) rfl (by decide) rfl rfl rfl (Nat.le_of_ble_eq_true rfl) ⟨Nat.le_of_ble_eq_true rfl, Nat.le_of_ble_eq_true rfl⟩ ⟨Nat.le_of_ble_eq_true rfl, Nat.le_of_ble_eq_true rfl⟩ d_K_numberAt_22 rfl ?_
      refine j_goto C 29 d_K_numberAt_25 rfl ?_
      first | (exfalso; omega) | exact j_iret C hr hlk d_K_numberAt_29 (congrArg (fun z => some (Value.int (iI z))) (show (nmAt KS KB KE kn kw a i) = (sgAt KS kn ((KB a.toNat) + i)) from by unfold nmAt; split <;> first | rfl | omega)) rfl
set_option maxRecDepth 100000 in
set_option maxHeartbeats 4000000 in
theorem c_K_keepPlace {l : Launch} {D : va_G} (kI kZ : ClassId) (x : Nat → Nat) (KS KB KE KZ KV : Nat → Int) (kn kw : Int) (hK : IK KS KB KE KZ KV kn kw) (a v : Int) (ha : (-2147483648 ≤ a ∧ a < 2147483648)) (hv : (-2147483648 ≤ v ∧ v < 2147483648)) : Dt l D (ty2 kI kZ) y_K_keepPlace w_K_keepPlace { frames := 1, cells := 0, slots := 0, locals := 20 } [.ref (x 5), .int (iI (a)), .int (iI (v))] (wK kI kZ x KS KB KE KZ KV kn kw) none (wK kI kZ x KS KB KE KZ (if 0 ≤ a ∧ a < 26 then uI KV a.toNat v else KV) kn kw) := by
  refine Met.toJ (own := R_K) (QD D none (wK kI kZ x KS KB KE KZ (if 0 ≤ a ∧ a < 26 then uI KV a.toNat v else KV) kn kw)) mk_K_keepPlace rfl (Nat.le_of_ble_eq_true rfl) ?_
  intro p e s m args below meth c A C hr hlk hnm
  show JJ p l e { frames := 1, cells := 0, slots := 0, locals := 20 } s m args below meth c D A 3 (MQ below (QD D none (wK kI kZ x KS KB KE KZ (if 0 ≤ a ∧ a < 26 then uI KV a.toNat v else KV) kn kw) A) args s 0 0 A) 0 0 0 [(0, .ref (x 5)), (1, .int (iI (a))), (2, .int (iI (v)))] [] (wK kI kZ x KS KB KE KZ KV kn kw)
  obtain ⟨hkn, hkw, hKS, hKB, hKE, hKZ, hKV⟩ := id hK
  refine j_iload_n (q := 1) C 1 rfl d_K_keepPlace_0 rfl ?_
  have e1 := bP_r a
  refine j_callN (q := 4) (wr := wK kI kZ x KS KB KE KZ KV kn kw) C [.int (iI (a))] [] (c_C_isNumber kI kZ x a (by omega)) nl_K_41 mk_C_isNumber st_C_isNumber [] [0, 1, 2, 3, 4, 5] [0, 1, 2, 3, 4, 5] rfl (by decide) rfl (by decide) (by decide) (wK kI kZ x KS KB KE KZ KV kn kw) rfl (by decide) rfl rfl rfl (Nat.le_of_ble_eq_true rfl) ⟨Nat.le_of_ble_eq_true rfl, Nat.le_of_ble_eq_true rfl⟩ ⟨Nat.le_of_ble_eq_true rfl, Nat.le_of_ble_eq_true rfl⟩ d_K_keepPlace_1 rfl ?_
  refine j_if_eq C 14 7 d_K_keepPlace_4 rfl rfl (by omega) (fun c1 => ?_) (fun c1 => ?_)
  · have c1 := bP_0 c1
    exact j_vret C hr hlk d_K_keepPlace_14 (by repeat (first | rfl | (rw [if_pos (by omega)]) | (rw [if_neg (by omega)])))
  · have c1 := bP_1 c1
    refine j_aload_n (q := 8) C 0 rfl d_K_keepPlace_7 rfl ?_
    refine j_get (q := 11) C i_K rfl 0 rfl 4 (by decide) rfl rfl fl_K_25 d_K_keepPlace_8 rfl ?_
    refine j_iload_n (q := 12) C 1 rfl d_K_keepPlace_11 rfl ?_
    refine j_iload_n (q := 13) C 2 rfl d_K_keepPlace_12 rfl ?_
    refine j_iast (q := 14) C 5 0 rfl rfl (by decide) (by omega) (wK kI kZ x KS KB KE KZ (uI KV a.toNat v) kn kw) rfl d_K_keepPlace_13 rfl ?_
    exact j_vret C hr hlk d_K_keepPlace_14 (by repeat (first | rfl | (rw [if_pos (by omega)]) | (rw [if_neg (by omega)])))
set_option maxRecDepth 100000 in
set_option maxHeartbeats 4000000 in
theorem c_K_keptPlace {l : Launch} {D : va_G} (kI kZ : ClassId) (x : Nat → Nat) (KS KB KE KZ KV : Nat → Int) (kn kw : Int) (hK : IK KS KB KE KZ KV kn kw) (a : Int) (ha : (-2147483648 ≤ a ∧ a < 2147483648)) : Dt l D (ty2 kI kZ) y_K_keptPlace w_K_keptPlace { frames := 1, cells := 0, slots := 0, locals := 20 } [.ref (x 5), .int (iI (a))] (wK kI kZ x KS KB KE KZ KV kn kw) (some (.int (iI (kpAt KV a)))) (wK kI kZ x KS KB KE KZ KV kn kw) := by
  refine Met.toJ (own := R_K) (QD D (some (.int (iI (kpAt KV a)))) (wK kI kZ x KS KB KE KZ KV kn kw)) mk_K_keptPlace rfl (Nat.le_of_ble_eq_true rfl) ?_
  intro p e s m args below meth c A C hr hlk hnm
  show JJ p l e { frames := 1, cells := 0, slots := 0, locals := 20 } s m args below meth c D A 2 (MQ below (QD D (some (.int (iI (kpAt KV a)))) (wK kI kZ x KS KB KE KZ KV kn kw) A) args s 0 0 A) 0 0 0 [(0, .ref (x 5)), (1, .int (iI (a)))] [] (wK kI kZ x KS KB KE KZ KV kn kw)
  obtain ⟨hkn, hkw, hKS, hKB, hKE, hKZ, hKV⟩ := id hK
  refine j_iload_n (q := 1) C 1 rfl d_K_keptPlace_0 rfl ?_
  have e1 := bP_r a
  refine j_callN (q := 4) (wr := wK kI kZ x KS KB KE KZ KV kn kw) C [.int (iI (a))] [] (c_C_isNumber kI kZ x a (by omega)) nl_K_41 mk_C_isNumber st_C_isNumber [] [0, 1, 2, 3, 4, 5] [0, 1, 2, 3, 4, 5] rfl (by decide) rfl (by decide) (by decide) (wK kI kZ x KS KB KE KZ KV kn kw) rfl (by decide) rfl rfl rfl (Nat.le_of_ble_eq_true rfl) ⟨Nat.le_of_ble_eq_true rfl, Nat.le_of_ble_eq_true rfl⟩ ⟨Nat.le_of_ble_eq_true rfl, Nat.le_of_ble_eq_true rfl⟩ d_K_keptPlace_1 rfl ?_
  refine j_if_eq C 16 7 d_K_keptPlace_4 rfl rfl (by omega) (fun c1 => ?_) (fun c1 => ?_)
  · have c1 := bP_0 c1
    refine j_iconst (q := 17) C d_K_keptPlace_16 rfl ?_
    exact j_iret C hr hlk d_K_keptPlace_17 (congrArg (fun z => some (Value.int (iI z))) (show (kpAt KV a) = (-1) from by unfold kpAt; split <;> first | rfl | omega)) rfl
  · have c1 := bP_1 c1
    refine j_aload_n (q := 8) C 0 rfl d_K_keptPlace_7 rfl ?_
    refine j_get (q := 11) C i_K rfl 0 rfl 4 (by decide) rfl rfl fl_K_25 d_K_keptPlace_8 rfl ?_
    refine j_iload_n (q := 12) C 1 rfl d_K_keptPlace_11 rfl ?_
    refine j_iald (q := 13) C 5 0 rfl rfl (by decide) (by omega) d_K_keptPlace_12 rfl ?_
    have h12 := hKV a.toNat
    refine j_goto C 17 d_K_keptPlace_13 rfl ?_
    exact j_iret C hr hlk d_K_keptPlace_17 (congrArg (fun z => some (Value.int (iI z))) (show (kpAt KV a) = (KV a.toNat) from by unfold kpAt; split <;> first | rfl | omega)) rfl
def kwG (KS : Nat → Int) (kn kw : Int) : Int := if sgAt KS kn (kn - 1) = -1 ∧ kw < 30 then kw + 1 else kw
def kbG (KS KB : Nat → Int) (kn kw : Int) : Nat → Int := if sgAt KS kn (kn - 1) = -1 ∧ kw < 30 then uI KB kw.toNat kn else KB
def keH (KS KE : Nat → Int) (kn kw : Int) : Nat → Int := if sgAt KS kn (kn - 1) = -1 ∧ kw < 30 then uI KE kw.toNat 0 else KE
def keG (KS KE : Nat → Int) (kn kw : Int) : Nat → Int := if 0 < kwG KS kn kw then uI (keH KS KE kn kw) (kwG KS kn kw - 1).toNat (keH KS KE kn kw (kwG KS kn kw - 1).toNat + 1) else keH KS KE kn kw

set_option maxRecDepth 100000 in
set_option maxHeartbeats 4000000 in
theorem c_K_growCodeword {l : Launch} {D : va_G} (kI kZ : ClassId) (x : Nat → Nat) (KS KB KE KZ KV : Nat → Int) (kn kw : Int) (hK : IK KS KB KE KZ KV kn kw) : Dt l D (ty2 kI kZ) y_K_growCodeword w_K_growCodeword { frames := 1, cells := 0, slots := 0, locals := 21 } [.ref (x 5)] (wK kI kZ x KS KB KE KZ KV kn kw) none (wK kI kZ x KS (kbG KS KB kn kw) (keG KS KE kn kw) KZ KV kn (kwG KS kn kw)) := by
  refine Met.toJ (own := R_K) (QD D none (wK kI kZ x KS (kbG KS KB kn kw) (keG KS KE kn kw) KZ KV kn (kwG KS kn kw))) mk_K_growCodeword rfl (Nat.le_of_ble_eq_true rfl) ?_
  intro p e s m args below meth c A C hr hlk hnm
  show JJ p l e { frames := 1, cells := 0, slots := 0, locals := 21 } s m args below meth c D A 2 (MQ below (QD D none (wK kI kZ x KS (kbG KS KB kn kw) (keG KS KE kn kw) KZ KV kn (kwG KS kn kw)) A) args s 0 0 A) 0 0 0 [(0, .ref (x 5))] [] (wK kI kZ x KS KB KE KZ KV kn kw)
  obtain ⟨hkn, hkw, hKS, hKB, hKE, hKZ, hKV⟩ := id hK
  refine j_aload_n (q := 1) C 0 rfl d_K_growCodeword_0 rfl ?_
  refine j_aload_n (q := 2) C 0 rfl d_K_growCodeword_1 rfl ?_
  refine j_get (q := 5) C i_K rfl 0 rfl 5 (by decide) rfl rfl fl_K_28 d_K_growCodeword_2 rfl ?_
  refine j_iconst (q := 6) C d_K_growCodeword_5 rfl ?_
  refine j_isub (q := 7) C d_K_growCodeword_6 rfl ?_
  have e7 := sgAt_r hKS kn (kn - 1)
  refine j_callV (q := 10) (wr := []) C [.int (iI (kn - 1))] [] (c_K_signAt kI kZ x KS KB KE KZ KV kn kw hK (kn - 1) (by omega)) ml_K_52 mk_K_signAt in_K_signAt se_K_signAt rfl rfl rfl [0, 1, 2, 3, 4, 5] [] [0, 1, 2, 3, 4, 5] rfl (by decide) rfl (by decide) (by decide) (wK kI kZ x KS KB KE KZ KV kn kw) rfl (by decide) rfl rfl rfl (Nat.le_of_ble_eq_true rfl) ⟨Nat.le_of_ble_eq_true rfl, Nat.le_of_ble_eq_true rfl⟩ ⟨Nat.le_of_ble_eq_true rfl, Nat.le_of_ble_eq_true rfl⟩ d_K_growCodeword_7 rfl ?_
  refine j_iconst (q := 11) C d_K_growCodeword_10 rfl ?_
  refine j_icmp_ne C 18 14 d_K_growCodeword_11 rfl rfl (by omega) (by omega) (fun c1 => ?_) (fun c1 => ?_)
  · refine j_iconst (q := 19) C d_K_growCodeword_18 rfl ?_
    refine j_istore_n (q := 20) C [(0, .ref (x 5)), (1, .int (iI (0)))] rfl (by decide) d_K_growCodeword_19 rfl ?_
    refine j_iload_n (q := 21) C 1 rfl d_K_growCodeword_20 rfl ?_
    refine j_if_eq C 66 24 d_K_growCodeword_21 rfl rfl (by omega) (fun c2 => ?_) (fun c2 => ?_)
    · refine j_aload_n (q := 67) C 0 rfl d_K_growCodeword_66 rfl ?_
      refine j_get (q := 70) C i_K rfl 0 rfl 6 (by decide) rfl rfl fl_K_32 d_K_growCodeword_67 rfl ?_
      refine j_if_le C 88 73 d_K_growCodeword_70 rfl rfl (by omega) (fun c3 => ?_) (fun c3 => ?_)
      · first | (exfalso; omega) | exact j_vret C hr hlk d_K_growCodeword_88 (by have k1 : kwG KS kn kw = kw := (by unfold kwG; split <;> omega); have k2 : kbG KS KB kn kw = KB := (by unfold kbG; first | rw [if_pos (by omega)] | rw [if_neg (by omega)]); have k3 : keH KS KE kn kw = KE := (by unfold keH; first | rw [if_pos (by omega)] | rw [if_neg (by omega)]); unfold keG; rw [k1, k2, k3]; first | rw [if_pos (by omega)] | rw [if_neg (by omega)])
      · refine j_aload_n (q := 74) C 0 rfl d_K_growCodeword_73 rfl ?_
        refine j_get (q := 77) C i_K rfl 0 rfl 2 (by decide) rfl rfl fl_K_18 d_K_growCodeword_74 rfl ?_
        refine j_aload_n (q := 78) C 0 rfl d_K_growCodeword_77 rfl ?_
        refine j_get (q := 81) C i_K rfl 0 rfl 6 (by decide) rfl rfl fl_K_32 d_K_growCodeword_78 rfl ?_
        refine j_iconst (q := 82) C d_K_growCodeword_81 rfl ?_
        refine j_isub (q := 83) C d_K_growCodeword_82 rfl ?_
        refine j_dup2 (q := 84) C rfl rfl d_K_growCodeword_83 rfl ?_
        refine j_iald (q := 85) C 3 0 rfl rfl (by decide) (by omega) d_K_growCodeword_84 rfl ?_
        have h84 := hKE (kw - 1).toNat
        refine j_iconst (q := 86) C d_K_growCodeword_85 rfl ?_
        refine j_iadd (q := 87) C d_K_growCodeword_86 rfl ?_
        refine j_iast (q := 88) C 3 0 rfl rfl (by decide) (by omega) (wK kI kZ x KS KB (uI KE (kw - 1).toNat ((KE (kw - 1).toNat) + 1)) KZ KV kn kw) rfl d_K_growCodeword_87 rfl ?_
        first | (exfalso; omega) | exact j_vret C hr hlk d_K_growCodeword_88 (by have k1 : kwG KS kn kw = kw := (by unfold kwG; split <;> omega); have k2 : kbG KS KB kn kw = KB := (by unfold kbG; first | rw [if_pos (by omega)] | rw [if_neg (by omega)]); have k3 : keH KS KE kn kw = KE := (by unfold keH; first | rw [if_pos (by omega)] | rw [if_neg (by omega)]); unfold keG; rw [k1, k2, k3]; first | rw [if_pos (by omega)] | rw [if_neg (by omega)])
    · exfalso; omega
  · refine j_iconst (q := 15) C d_K_growCodeword_14 rfl ?_
    refine j_goto C 19 d_K_growCodeword_15 rfl ?_
    refine j_istore_n (q := 20) C [(0, .ref (x 5)), (1, .int (iI (1)))] rfl (by decide) d_K_growCodeword_19 rfl ?_
    refine j_iload_n (q := 21) C 1 rfl d_K_growCodeword_20 rfl ?_
    refine j_if_eq C 66 24 d_K_growCodeword_21 rfl rfl (by omega) (fun c4 => ?_) (fun c4 => ?_)
    · exfalso; omega
    · refine j_aload_n (q := 25) C 0 rfl d_K_growCodeword_24 rfl ?_
      refine j_get (q := 28) C i_K rfl 0 rfl 6 (by decide) rfl rfl fl_K_32 d_K_growCodeword_25 rfl ?_
      refine j_bipush (q := 30) C d_K_growCodeword_28 rfl rfl ?_
      refine j_icmp_ge C 66 33 d_K_growCodeword_30 rfl rfl (by omega) (by omega) (fun c5 => ?_) (fun c5 => ?_)
      · refine j_aload_n (q := 67) C 0 rfl d_K_growCodeword_66 rfl ?_
        refine j_get (q := 70) C i_K rfl 0 rfl 6 (by decide) rfl rfl fl_K_32 d_K_growCodeword_67 rfl ?_
        refine j_if_le C 88 73 d_K_growCodeword_70 rfl rfl (by omega) (fun c6 => ?_) (fun c6 => ?_)
        · first | (exfalso; omega) | exact j_vret C hr hlk d_K_growCodeword_88 (by have k1 : kwG KS kn kw = kw := (by unfold kwG; split <;> omega); have k2 : kbG KS KB kn kw = KB := (by unfold kbG; first | rw [if_pos (by omega)] | rw [if_neg (by omega)]); have k3 : keH KS KE kn kw = KE := (by unfold keH; first | rw [if_pos (by omega)] | rw [if_neg (by omega)]); unfold keG; rw [k1, k2, k3]; first | rw [if_pos (by omega)] | rw [if_neg (by omega)])
        · refine j_aload_n (q := 74) C 0 rfl d_K_growCodeword_73 rfl ?_
          refine j_get (q := 77) C i_K rfl 0 rfl 2 (by decide) rfl rfl fl_K_18 d_K_growCodeword_74 rfl ?_
          refine j_aload_n (q := 78) C 0 rfl d_K_growCodeword_77 rfl ?_
          refine j_get (q := 81) C i_K rfl 0 rfl 6 (by decide) rfl rfl fl_K_32 d_K_growCodeword_78 rfl ?_
          refine j_iconst (q := 82) C d_K_growCodeword_81 rfl ?_
          refine j_isub (q := 83) C d_K_growCodeword_82 rfl ?_
          refine j_dup2 (q := 84) C rfl rfl d_K_growCodeword_83 rfl ?_
          refine j_iald (q := 85) C 3 0 rfl rfl (by decide) (by omega) d_K_growCodeword_84 rfl ?_
          have h84 := hKE (kw - 1).toNat
          refine j_iconst (q := 86) C d_K_growCodeword_85 rfl ?_
          refine j_iadd (q := 87) C d_K_growCodeword_86 rfl ?_
          refine j_iast (q := 88) C 3 0 rfl rfl (by decide) (by omega) (wK kI kZ x KS KB (uI KE (kw - 1).toNat ((KE (kw - 1).toNat) + 1)) KZ KV kn kw) rfl d_K_growCodeword_87 rfl ?_
          first | (exfalso; omega) | exact j_vret C hr hlk d_K_growCodeword_88 (by have k1 : kwG KS kn kw = kw := (by unfold kwG; split <;> omega); have k2 : kbG KS KB kn kw = KB := (by unfold kbG; first | rw [if_pos (by omega)] | rw [if_neg (by omega)]); have k3 : keH KS KE kn kw = KE := (by unfold keH; first | rw [if_pos (by omega)] | rw [if_neg (by omega)]); unfold keG; rw [k1, k2, k3]; first | rw [if_pos (by omega)] | rw [if_neg (by omega)])
      · refine j_aload_n (q := 34) C 0 rfl d_K_growCodeword_33 rfl ?_
        refine j_get (q := 37) C i_K rfl 0 rfl 1 (by decide) rfl rfl fl_K_15 d_K_growCodeword_34 rfl ?_
        refine j_aload_n (q := 38) C 0 rfl d_K_growCodeword_37 rfl ?_
        refine j_get (q := 41) C i_K rfl 0 rfl 6 (by decide) rfl rfl fl_K_32 d_K_growCodeword_38 rfl ?_
        refine j_aload_n (q := 42) C 0 rfl d_K_growCodeword_41 rfl ?_
        refine j_get (q := 45) C i_K rfl 0 rfl 5 (by decide) rfl rfl fl_K_28 d_K_growCodeword_42 rfl ?_
        refine j_iast (q := 46) C 2 0 rfl rfl (by decide) (by omega) (wK kI kZ x KS (uI KB kw.toNat kn) KE KZ KV kn kw) rfl d_K_growCodeword_45 rfl ?_
        refine j_aload_n (q := 47) C 0 rfl d_K_growCodeword_46 rfl ?_
        refine j_get (q := 50) C i_K rfl 0 rfl 2 (by decide) rfl rfl fl_K_18 d_K_growCodeword_47 rfl ?_
        refine j_aload_n (q := 51) C 0 rfl d_K_growCodeword_50 rfl ?_
        refine j_get (q := 54) C i_K rfl 0 rfl 6 (by decide) rfl rfl fl_K_32 d_K_growCodeword_51 rfl ?_
        refine j_iconst (q := 55) C d_K_growCodeword_54 rfl ?_
        refine j_iast (q := 56) C 3 0 rfl rfl (by decide) (by omega) (wK kI kZ x KS (uI KB kw.toNat kn) (uI KE kw.toNat 0) KZ KV kn kw) rfl d_K_growCodeword_55 rfl ?_
        refine j_aload_n (q := 57) C 0 rfl d_K_growCodeword_56 rfl ?_
        refine j_dup (q := 58) C rfl d_K_growCodeword_57 rfl ?_
        refine j_get (q := 61) C i_K rfl 0 rfl 6 (by decide) rfl rfl fl_K_32 d_K_growCodeword_58 rfl ?_
        refine j_iconst (q := 62) C d_K_growCodeword_61 rfl ?_
        refine j_iadd (q := 63) C d_K_growCodeword_62 rfl ?_
        refine j_put (q := 66) (ty := .int) C i_K rfl t_K t_K_ok n_K 0 rfl 6 (by decide) rfl fl_K_32 rfl (by decide +kernel) rfl rfl (Nat.le_of_ble_eq_true rfl) (wK kI kZ x KS (uI KB kw.toNat kn) (uI KE kw.toNat 0) KZ KV kn (kw + 1)) rfl d_K_growCodeword_63 rfl ?_
        refine j_aload_n (q := 67) C 0 rfl d_K_growCodeword_66 rfl ?_
        refine j_get (q := 70) C i_K rfl 0 rfl 6 (by decide) rfl rfl fl_K_32 d_K_growCodeword_67 rfl ?_
        refine j_if_le C 88 73 d_K_growCodeword_70 rfl rfl (by omega) (fun c7 => ?_) (fun c7 => ?_)
        · first | (exfalso; omega) | exact j_vret C hr hlk d_K_growCodeword_88 (by have k1 : kwG KS kn kw = kw + 1 := (by unfold kwG; split <;> omega); have k2 : kbG KS KB kn kw = uI KB kw.toNat kn := (by unfold kbG; first | rw [if_pos (by omega)] | rw [if_neg (by omega)]); have k3 : keH KS KE kn kw = uI KE kw.toNat 0 := (by unfold keH; first | rw [if_pos (by omega)] | rw [if_neg (by omega)]); unfold keG; rw [k1, k2, k3]; first | rw [if_pos (by omega)] | rw [if_neg (by omega)])
        · refine j_aload_n (q := 74) C 0 rfl d_K_growCodeword_73 rfl ?_
          refine j_get (q := 77) C i_K rfl 0 rfl 2 (by decide) rfl rfl fl_K_18 d_K_growCodeword_74 rfl ?_
          refine j_aload_n (q := 78) C 0 rfl d_K_growCodeword_77 rfl ?_
          refine j_get (q := 81) C i_K rfl 0 rfl 6 (by decide) rfl rfl fl_K_32 d_K_growCodeword_78 rfl ?_
          refine j_iconst (q := 82) C d_K_growCodeword_81 rfl ?_
          refine j_isub (q := 83) C d_K_growCodeword_82 rfl ?_
          refine j_dup2 (q := 84) C rfl rfl d_K_growCodeword_83 rfl ?_
          refine j_iald (q := 85) C 3 0 rfl rfl (by decide) (by omega) d_K_growCodeword_84 rfl ?_
          have h84 := hKE ((kw + 1) - 1).toNat
          refine j_iconst (q := 86) C d_K_growCodeword_85 rfl ?_
          refine j_iadd (q := 87) C d_K_growCodeword_86 rfl ?_
          refine j_iast (q := 88) C 3 0 rfl rfl (by decide) (by omega) (wK kI kZ x KS (uI KB kw.toNat kn) (uI (uI KE kw.toNat 0) ((kw + 1) - 1).toNat (((uI KE kw.toNat 0) ((kw + 1) - 1).toNat) + 1)) KZ KV kn (kw + 1)) rfl d_K_growCodeword_87 rfl ?_
          first | (exfalso; omega) | exact j_vret C hr hlk d_K_growCodeword_88 (by have k1 : kwG KS kn kw = kw + 1 := (by unfold kwG; split <;> omega); have k2 : kbG KS KB kn kw = uI KB kw.toNat kn := (by unfold kbG; first | rw [if_pos (by omega)] | rw [if_neg (by omega)]); have k3 : keH KS KE kn kw = uI KE kw.toNat 0 := (by unfold keH; first | rw [if_pos (by omega)] | rw [if_neg (by omega)]); unfold keG; rw [k1, k2, k3]; first | rw [if_pos (by omega)] | rw [if_neg (by omega)])
set_option maxRecDepth 100000 in
set_option maxHeartbeats 4000000 in
theorem c_K_append {l : Launch} {D : va_G} (kI kZ : ClassId) (x : Nat → Nat) (KS KB KE KZ KV : Nat → Int) (kn kw : Int) (hK : IK KS KB KE KZ KV kn kw) (a : Int) (ha : (-2147483648 ≤ a ∧ a < 2147483648)) : Dt l D (ty2 kI kZ) y_K_append w_K_append { frames := 2, cells := 0, slots := 0, locals := 42 } [.ref (x 5), .int (iI (a))] (wK kI kZ x KS KB KE KZ KV kn kw) (some (.int (iI (if kn < 60 ∧ (a = -1 ∨ (0 ≤ a ∧ a < 26)) then 1 else 0)))) (wK kI kZ x (if kn < 60 ∧ (a = -1 ∨ (0 ≤ a ∧ a < 26)) then uI KS kn.toNat a else KS) (if kn < 60 ∧ (0 ≤ a ∧ a < 26) then kbG KS KB kn kw else KB) (if kn < 60 ∧ (0 ≤ a ∧ a < 26) then keG KS KE kn kw else KE) (if kn < 60 ∧ (0 ≤ a ∧ a < 26) then uI KZ a.toNat 1 else KZ) KV (if kn < 60 ∧ (a = -1 ∨ (0 ≤ a ∧ a < 26)) then kn + 1 else kn) (if kn < 60 ∧ (0 ≤ a ∧ a < 26) then kwG KS kn kw else kw)) := by
  refine Met.toJ (own := R_K) (QD D (some (.int (iI (if kn < 60 ∧ (a = -1 ∨ (0 ≤ a ∧ a < 26)) then 1 else 0)))) (wK kI kZ x (if kn < 60 ∧ (a = -1 ∨ (0 ≤ a ∧ a < 26)) then uI KS kn.toNat a else KS) (if kn < 60 ∧ (0 ≤ a ∧ a < 26) then kbG KS KB kn kw else KB) (if kn < 60 ∧ (0 ≤ a ∧ a < 26) then keG KS KE kn kw else KE) (if kn < 60 ∧ (0 ≤ a ∧ a < 26) then uI KZ a.toNat 1 else KZ) KV (if kn < 60 ∧ (a = -1 ∨ (0 ≤ a ∧ a < 26)) then kn + 1 else kn) (if kn < 60 ∧ (0 ≤ a ∧ a < 26) then kwG KS kn kw else kw))) mk_K_append rfl (Nat.le_of_ble_eq_true rfl) ?_
  intro p e s m args below meth c A C hr hlk hnm
  show JJ p l e { frames := 2, cells := 0, slots := 0, locals := 42 } s m args below meth c D A 2 (MQ below (QD D (some (.int (iI (if kn < 60 ∧ (a = -1 ∨ (0 ≤ a ∧ a < 26)) then 1 else 0)))) (wK kI kZ x (if kn < 60 ∧ (a = -1 ∨ (0 ≤ a ∧ a < 26)) then uI KS kn.toNat a else KS) (if kn < 60 ∧ (0 ≤ a ∧ a < 26) then kbG KS KB kn kw else KB) (if kn < 60 ∧ (0 ≤ a ∧ a < 26) then keG KS KE kn kw else KE) (if kn < 60 ∧ (0 ≤ a ∧ a < 26) then uI KZ a.toNat 1 else KZ) KV (if kn < 60 ∧ (a = -1 ∨ (0 ≤ a ∧ a < 26)) then kn + 1 else kn) (if kn < 60 ∧ (0 ≤ a ∧ a < 26) then kwG KS kn kw else kw)) A) args s 0 0 A) 0 0 0 [(0, .ref (x 5)), (1, .int (iI (a)))] [] (wK kI kZ x KS KB KE KZ KV kn kw)
  obtain ⟨hkn, hkw, hKS, hKB, hKE, hKZ, hKV⟩ := id hK
  refine j_aload_n (q := 1) C 0 rfl d_K_append_0 rfl ?_
  refine j_get (q := 4) C i_K rfl 0 rfl 5 (by decide) rfl rfl fl_K_28 d_K_append_1 rfl ?_
  refine j_bipush (q := 6) C d_K_append_4 rfl rfl ?_
  refine j_icmp_ge C 21 9 d_K_append_6 rfl rfl (by omega) (by omega) (fun c1 => ?_) (fun c1 => ?_)
  · refine j_iconst (q := 22) C d_K_append_21 rfl ?_
    exact j_zret C hr hlk (by omega) d_K_append_22 (congrArg (fun z => some (Value.int (iI z))) (show (if kn < 60 ∧ (a = -1 ∨ (0 ≤ a ∧ a < 26)) then 1 else 0) = (0) from by split <;> omega)) (by repeat (first | rfl | (rw [if_pos (by omega)]) | (rw [if_neg (by omega)])))
  · refine j_iload_n (q := 10) C 1 rfl d_K_append_9 rfl ?_
    refine j_iconst (q := 11) C d_K_append_10 rfl ?_
    refine j_icmp_eq C 23 14 d_K_append_11 rfl rfl (by omega) (by omega) (fun c2 => ?_) (fun c2 => ?_)
    · refine j_iload_n (q := 24) C 1 rfl d_K_append_23 rfl ?_
      refine j_iconst (q := 25) C d_K_append_24 rfl ?_
      refine j_icmp_eq C 39 28 d_K_append_25 rfl rfl (by omega) (by omega) (fun c3 => ?_) (fun c3 => ?_)
      · refine j_aload_n (q := 40) C 0 rfl d_K_append_39 rfl ?_
        refine j_get (q := 43) C i_K rfl 0 rfl 0 (by decide) rfl rfl fl_K_9 d_K_append_40 rfl ?_
        refine j_aload_n (q := 44) C 0 rfl d_K_append_43 rfl ?_
        refine j_get (q := 47) C i_K rfl 0 rfl 5 (by decide) rfl rfl fl_K_28 d_K_append_44 rfl ?_
        refine j_iload_n (q := 48) C 1 rfl d_K_append_47 rfl ?_
        refine j_iast (q := 49) C 1 0 rfl rfl (by decide) (by omega) (wK kI kZ x (uI KS kn.toNat a) KB KE KZ KV kn kw) rfl d_K_append_48 rfl ?_
        refine j_aload_n (q := 50) C 0 rfl d_K_append_49 rfl ?_
        refine j_dup (q := 51) C rfl d_K_append_50 rfl ?_
        refine j_get (q := 54) C i_K rfl 0 rfl 5 (by decide) rfl rfl fl_K_28 d_K_append_51 rfl ?_
        refine j_iconst (q := 55) C d_K_append_54 rfl ?_
        refine j_iadd (q := 56) C d_K_append_55 rfl ?_
        refine j_put (q := 59) (ty := .int) C i_K rfl t_K t_K_ok n_K 0 rfl 5 (by decide) rfl fl_K_28 rfl (by decide +kernel) rfl rfl (Nat.le_of_ble_eq_true rfl) (wK kI kZ x (uI KS kn.toNat a) KB KE KZ KV (kn + 1) kw) rfl d_K_append_56 rfl ?_
        refine j_iconst (q := 60) C d_K_append_59 rfl ?_
        first | (exfalso; omega) | exact j_zret C hr hlk (by omega) d_K_append_60 (congrArg (fun z => some (Value.int (iI z))) (show (if kn < 60 ∧ (a = -1 ∨ (0 ≤ a ∧ a < 26)) then 1 else 0) = (1) from by split <;> omega)) (by repeat (first | rfl | (rw [if_pos (by omega)]) | (rw [if_neg (by omega)])))
      · refine j_aload_n (q := 29) C 0 rfl d_K_append_28 rfl ?_
        refine j_get (q := 32) C i_K rfl 0 rfl 3 (by decide) rfl rfl fl_K_21 d_K_append_29 rfl ?_
        refine j_iload_n (q := 33) C 1 rfl d_K_append_32 rfl ?_
        refine j_iconst (q := 34) C d_K_append_33 rfl ?_
        refine j_zast (q := 35) C 4 1 rfl rfl (by decide) (by omega) (by omega) (wK kI kZ x KS KB KE (uI KZ a.toNat 1) KV kn kw) rfl d_K_append_34 rfl ?_
        refine j_aload_n (q := 36) C 0 rfl d_K_append_35 rfl ?_
        refine j_callV (q := 39) (wr := []) C [] [] (c_K_growCodeword kI kZ x KS KB KE (uI KZ a.toNat 1) KV kn kw ⟨hkn, hkw, hKS, hKB, hKE, fun j => (by unfold uI; split; omega; exact hKZ j), hKV⟩) ml_K_45 mk_K_growCodeword in_K_growCodeword se_K_growCodeword rfl rfl rfl [0, 1, 2, 3, 4, 5] [] [0, 1, 2, 3, 4, 5] rfl (by decide) rfl (by decide) (by decide) (wK kI kZ x KS (kbG KS KB kn kw) (keG KS KE kn kw) (uI KZ a.toNat 1) KV kn (kwG KS kn kw)) rfl (by decide) rfl rfl rfl (Nat.le_of_ble_eq_true rfl) ⟨Nat.le_of_ble_eq_true rfl, Nat.le_of_ble_eq_true rfl⟩ ⟨Nat.le_of_ble_eq_true rfl, Nat.le_of_ble_eq_true rfl⟩ d_K_append_36 rfl ?_
        refine j_aload_n (q := 40) C 0 rfl d_K_append_39 rfl ?_
        refine j_get (q := 43) C i_K rfl 0 rfl 0 (by decide) rfl rfl fl_K_9 d_K_append_40 rfl ?_
        refine j_aload_n (q := 44) C 0 rfl d_K_append_43 rfl ?_
        refine j_get (q := 47) C i_K rfl 0 rfl 5 (by decide) rfl rfl fl_K_28 d_K_append_44 rfl ?_
        refine j_iload_n (q := 48) C 1 rfl d_K_append_47 rfl ?_
        refine j_iast (q := 49) C 1 0 rfl rfl (by decide) (by omega) (wK kI kZ x (uI KS kn.toNat a) (kbG KS KB kn kw) (keG KS KE kn kw) (uI KZ a.toNat 1) KV kn (kwG KS kn kw)) rfl d_K_append_48 rfl ?_
        refine j_aload_n (q := 50) C 0 rfl d_K_append_49 rfl ?_
        refine j_dup (q := 51) C rfl d_K_append_50 rfl ?_
        refine j_get (q := 54) C i_K rfl 0 rfl 5 (by decide) rfl rfl fl_K_28 d_K_append_51 rfl ?_
        refine j_iconst (q := 55) C d_K_append_54 rfl ?_
        refine j_iadd (q := 56) C d_K_append_55 rfl ?_
        refine j_put (q := 59) (ty := .int) C i_K rfl t_K t_K_ok n_K 0 rfl 5 (by decide) rfl fl_K_28 rfl (by decide +kernel) rfl rfl (Nat.le_of_ble_eq_true rfl) (wK kI kZ x (uI KS kn.toNat a) (kbG KS KB kn kw) (keG KS KE kn kw) (uI KZ a.toNat 1) KV (kn + 1) (kwG KS kn kw)) rfl d_K_append_56 rfl ?_
        refine j_iconst (q := 60) C d_K_append_59 rfl ?_
        first | (exfalso; omega) | exact j_zret C hr hlk (by omega) d_K_append_60 (congrArg (fun z => some (Value.int (iI z))) (show (if kn < 60 ∧ (a = -1 ∨ (0 ≤ a ∧ a < 26)) then 1 else 0) = (1) from by split <;> omega)) (by repeat (first | rfl | (rw [if_pos (by omega)]) | (rw [if_neg (by omega)])))
    · refine j_iload_n (q := 15) C 1 rfl d_K_append_14 rfl ?_
      have e15 := bP_r a
      refine j_callN (q := 18) (wr := wK kI kZ x KS KB KE KZ KV kn kw) C [.int (iI (a))] [] (c_C_isNumber kI kZ x a (by omega)) nl_K_41 mk_C_isNumber st_C_isNumber [] [0, 1, 2, 3, 4, 5] [0, 1, 2, 3, 4, 5] rfl (by decide) rfl (by decide) (by decide) (wK kI kZ x KS KB KE KZ KV kn kw) rfl (by decide) rfl rfl rfl (Nat.le_of_ble_eq_true rfl) ⟨Nat.le_of_ble_eq_true rfl, Nat.le_of_ble_eq_true rfl⟩ ⟨Nat.le_of_ble_eq_true rfl, Nat.le_of_ble_eq_true rfl⟩ d_K_append_15 rfl ?_
      refine j_if_ne C 23 21 d_K_append_18 rfl rfl (by omega) (fun c4 => ?_) (fun c4 => ?_)
      · have c4 := bP_1 c4
        refine j_iload_n (q := 24) C 1 rfl d_K_append_23 rfl ?_
        refine j_iconst (q := 25) C d_K_append_24 rfl ?_
        refine j_icmp_eq C 39 28 d_K_append_25 rfl rfl (by omega) (by omega) (fun c5 => ?_) (fun c5 => ?_)
        · refine j_aload_n (q := 40) C 0 rfl d_K_append_39 rfl ?_
          refine j_get (q := 43) C i_K rfl 0 rfl 0 (by decide) rfl rfl fl_K_9 d_K_append_40 rfl ?_
          refine j_aload_n (q := 44) C 0 rfl d_K_append_43 rfl ?_
          refine j_get (q := 47) C i_K rfl 0 rfl 5 (by decide) rfl rfl fl_K_28 d_K_append_44 rfl ?_
          refine j_iload_n (q := 48) C 1 rfl d_K_append_47 rfl ?_
          refine j_iast (q := 49) C 1 0 rfl rfl (by decide) (by omega) (wK kI kZ x (uI KS kn.toNat a) KB KE KZ KV kn kw) rfl d_K_append_48 rfl ?_
          refine j_aload_n (q := 50) C 0 rfl d_K_append_49 rfl ?_
          refine j_dup (q := 51) C rfl d_K_append_50 rfl ?_
          refine j_get (q := 54) C i_K rfl 0 rfl 5 (by decide) rfl rfl fl_K_28 d_K_append_51 rfl ?_
          refine j_iconst (q := 55) C d_K_append_54 rfl ?_
          refine j_iadd (q := 56) C d_K_append_55 rfl ?_
          refine j_put (q := 59) (ty := .int) C i_K rfl t_K t_K_ok n_K 0 rfl 5 (by decide) rfl fl_K_28 rfl (by decide +kernel) rfl rfl (Nat.le_of_ble_eq_true rfl) (wK kI kZ x (uI KS kn.toNat a) KB KE KZ KV (kn + 1) kw) rfl d_K_append_56 rfl ?_
          refine j_iconst (q := 60) C d_K_append_59 rfl ?_
          first | (exfalso; omega) | exact j_zret C hr hlk (by omega) d_K_append_60 (congrArg (fun z => some (Value.int (iI z))) (show (if kn < 60 ∧ (a = -1 ∨ (0 ≤ a ∧ a < 26)) then 1 else 0) = (1) from by split <;> omega)) (by repeat (first | rfl | (rw [if_pos (by omega)]) | (rw [if_neg (by omega)])))
        · refine j_aload_n (q := 29) C 0 rfl d_K_append_28 rfl ?_
          refine j_get (q := 32) C i_K rfl 0 rfl 3 (by decide) rfl rfl fl_K_21 d_K_append_29 rfl ?_
          refine j_iload_n (q := 33) C 1 rfl d_K_append_32 rfl ?_
          refine j_iconst (q := 34) C d_K_append_33 rfl ?_
          refine j_zast (q := 35) C 4 1 rfl rfl (by decide) (by omega) (by omega) (wK kI kZ x KS KB KE (uI KZ a.toNat 1) KV kn kw) rfl d_K_append_34 rfl ?_
          refine j_aload_n (q := 36) C 0 rfl d_K_append_35 rfl ?_
          refine j_callV (q := 39) (wr := []) C [] [] (c_K_growCodeword kI kZ x KS KB KE (uI KZ a.toNat 1) KV kn kw ⟨hkn, hkw, hKS, hKB, hKE, fun j => (by unfold uI; split; omega; exact hKZ j), hKV⟩) ml_K_45 mk_K_growCodeword in_K_growCodeword se_K_growCodeword rfl rfl rfl [0, 1, 2, 3, 4, 5] [] [0, 1, 2, 3, 4, 5] rfl (by decide) rfl (by decide) (by decide) (wK kI kZ x KS (kbG KS KB kn kw) (keG KS KE kn kw) (uI KZ a.toNat 1) KV kn (kwG KS kn kw)) rfl (by decide) rfl rfl rfl (Nat.le_of_ble_eq_true rfl) ⟨Nat.le_of_ble_eq_true rfl, Nat.le_of_ble_eq_true rfl⟩ ⟨Nat.le_of_ble_eq_true rfl, Nat.le_of_ble_eq_true rfl⟩ d_K_append_36 rfl ?_
          refine j_aload_n (q := 40) C 0 rfl d_K_append_39 rfl ?_
          refine j_get (q := 43) C i_K rfl 0 rfl 0 (by decide) rfl rfl fl_K_9 d_K_append_40 rfl ?_
          refine j_aload_n (q := 44) C 0 rfl d_K_append_43 rfl ?_
          refine j_get (q := 47) C i_K rfl 0 rfl 5 (by decide) rfl rfl fl_K_28 d_K_append_44 rfl ?_
          refine j_iload_n (q := 48) C 1 rfl d_K_append_47 rfl ?_
          refine j_iast (q := 49) C 1 0 rfl rfl (by decide) (by omega) (wK kI kZ x (uI KS kn.toNat a) (kbG KS KB kn kw) (keG KS KE kn kw) (uI KZ a.toNat 1) KV kn (kwG KS kn kw)) rfl d_K_append_48 rfl ?_
          refine j_aload_n (q := 50) C 0 rfl d_K_append_49 rfl ?_
          refine j_dup (q := 51) C rfl d_K_append_50 rfl ?_
          refine j_get (q := 54) C i_K rfl 0 rfl 5 (by decide) rfl rfl fl_K_28 d_K_append_51 rfl ?_
          refine j_iconst (q := 55) C d_K_append_54 rfl ?_
          refine j_iadd (q := 56) C d_K_append_55 rfl ?_
          refine j_put (q := 59) (ty := .int) C i_K rfl t_K t_K_ok n_K 0 rfl 5 (by decide) rfl fl_K_28 rfl (by decide +kernel) rfl rfl (Nat.le_of_ble_eq_true rfl) (wK kI kZ x (uI KS kn.toNat a) (kbG KS KB kn kw) (keG KS KE kn kw) (uI KZ a.toNat 1) KV (kn + 1) (kwG KS kn kw)) rfl d_K_append_56 rfl ?_
          refine j_iconst (q := 60) C d_K_append_59 rfl ?_
          first | (exfalso; omega) | exact j_zret C hr hlk (by omega) d_K_append_60 (congrArg (fun z => some (Value.int (iI z))) (show (if kn < 60 ∧ (a = -1 ∨ (0 ≤ a ∧ a < 26)) then 1 else 0) = (1) from by split <;> omega)) (by repeat (first | rfl | (rw [if_pos (by omega)]) | (rw [if_neg (by omega)])))
      · have c4 := bP_0 c4
        refine j_iconst (q := 22) C d_K_append_21 rfl ?_
        first | (exfalso; omega) | exact j_zret C hr hlk (by omega) d_K_append_22 (congrArg (fun z => some (Value.int (iI z))) (show (if kn < 60 ∧ (a = -1 ∨ (0 ≤ a ∧ a < 26)) then 1 else 0) = (0) from by split <;> omega)) (by repeat (first | rfl | (rw [if_pos (by omega)]) | (rw [if_neg (by omega)])))
def zrB (f : Nat → Int) (v : Int) : Nat → Int := fun j => if j < 26 then v else f j

set_option maxRecDepth 100000 in
set_option maxHeartbeats 4000000 in
theorem c_K_empty {l : Launch} {D : va_G} (kI kZ : ClassId) (x : Nat → Nat) (KS KB KE KZ KV : Nat → Int) (kn kw : Int) (hK : IK KS KB KE KZ KV kn kw) : Dt l D (ty2 kI kZ) y_K_empty w_K_empty { frames := 0, cells := 0, slots := 0, locals := 0 } [.ref (x 5)] (wK kI kZ x KS KB KE KZ KV kn kw) none (wK kI kZ x KS KB KE (zrB KZ 0) (zrB KV (-1)) 0 0) := by
  refine Met.toJ (own := R_K) (QD D none (wK kI kZ x KS KB KE (zrB KZ 0) (zrB KV (-1)) 0 0)) mk_K_empty rfl (Nat.le_of_ble_eq_true rfl) ?_
  intro p e s m args below meth c A C hr hlk hnm
  show JJ p l e { frames := 0, cells := 0, slots := 0, locals := 0 } s m args below meth c D A 2 (MQ below (QD D none (wK kI kZ x KS KB KE (zrB KZ 0) (zrB KV (-1)) 0 0) A) args s 0 0 A) 0 0 0 [(0, .ref (x 5))] [] (wK kI kZ x KS KB KE KZ KV kn kw)
  obtain ⟨hkn, hkw, hKS, hKB, hKE, hKZ, hKV⟩ := id hK
  refine j_aload_n (q := 1) C 0 rfl d_K_empty_0 rfl ?_
  refine j_iconst (q := 2) C d_K_empty_1 rfl ?_
  refine j_put (q := 5) (ty := .int) C i_K rfl t_K t_K_ok n_K 0 rfl 5 (by decide) rfl fl_K_28 rfl (by decide +kernel) rfl rfl (Nat.le_of_ble_eq_true rfl) (wK kI kZ x KS KB KE KZ KV 0 kw) rfl d_K_empty_2 rfl ?_
  refine j_aload_n (q := 6) C 0 rfl d_K_empty_5 rfl ?_
  refine j_iconst (q := 7) C d_K_empty_6 rfl ?_
  refine j_put (q := 10) (ty := .int) C i_K rfl t_K t_K_ok n_K 0 rfl 6 (by decide) rfl fl_K_32 rfl (by decide +kernel) rfl rfl (Nat.le_of_ble_eq_true rfl) (wK kI kZ x KS KB KE KZ KV 0 0) rfl d_K_empty_7 rfl ?_
  refine j_iconst (q := 11) C d_K_empty_10 rfl ?_
  refine j_istore_n (q := 12) C [(0, .ref (x 5)), (1, .int (iI (0)))] rfl (by decide) d_K_empty_11 rfl ?_
  have lp12 : ∀ (N : Nat) (i : Int) (Z V : Nat → Int), (0 ≤ i ∧ i ≤ 26) → (∀ j : Nat, Z j = if (j : Int) < i then 0 else KZ j) → (∀ j : Nat, V j = if (j : Int) < i then -1 else KV j) → (26 - i).toNat < N → JJ p l e { frames := 0, cells := 0, slots := 0, locals := 0 } s m args below meth c D A 2 (MQ below (QD D none (wK kI kZ x KS KB KE (zrB KZ 0) (zrB KV (-1)) 0 0) A) args s 0 0 A) 0 0 12 [(0, .ref (x 5)), (1, .int (iI (i)))] [] (wK kI kZ x KS KB KE Z V 0 0) := by
    intro N
    induction N with
    | zero =>
      intro i Z V i0 i1 i2 hN
      omega
    | succ N ih12 =>
      intro i Z V i0 i1 i2 hN
      refine j_iload_n (q := 13) C 1 rfl d_K_empty_12 rfl ?_
      refine j_bipush (q := 15) C d_K_empty_13 rfl rfl ?_
      refine j_icmp_ge C 38 18 d_K_empty_15 rfl rfl (by omega) (by omega) (fun c1 => ?_) (fun c1 => ?_)
      · exact j_vret C hr hlk d_K_empty_38 (by have z1 : Z = zrB KZ 0 := (by funext j; rw [i1 j]; unfold zrB; split <;> split <;> first | rfl | omega); have z2 : V = zrB KV (-1) := (by funext j; rw [i2 j]; unfold zrB; split <;> split <;> first | rfl | omega); rw [z1, z2])
      · refine j_aload_n (q := 19) C 0 rfl d_K_empty_18 rfl ?_
        refine j_get (q := 22) C i_K rfl 0 rfl 3 (by decide) rfl rfl fl_K_21 d_K_empty_19 rfl ?_
        refine j_iload_n (q := 23) C 1 rfl d_K_empty_22 rfl ?_
        refine j_iconst (q := 24) C d_K_empty_23 rfl ?_
        refine j_zast (q := 25) C 4 1 rfl rfl (by decide) (by omega) (by omega) (wK kI kZ x KS KB KE (uI Z i.toNat 0) V 0 0) rfl d_K_empty_24 rfl ?_
        refine j_aload_n (q := 26) C 0 rfl d_K_empty_25 rfl ?_
        refine j_get (q := 29) C i_K rfl 0 rfl 4 (by decide) rfl rfl fl_K_25 d_K_empty_26 rfl ?_
        refine j_iload_n (q := 30) C 1 rfl d_K_empty_29 rfl ?_
        refine j_iconst (q := 31) C d_K_empty_30 rfl ?_
        refine j_iast (q := 32) C 5 0 rfl rfl (by decide) (by omega) (wK kI kZ x KS KB KE (uI Z i.toNat 0) (uI V i.toNat (-1)) 0 0) rfl d_K_empty_31 rfl ?_
        refine j_iinc (q := 35) C 1 [(0, .ref (x 5)), (1, .int (iI (i + 1)))] rfl rfl (by decide) d_K_empty_32 rfl ?_
        refine j_goto C 12 d_K_empty_35 rfl ?_
        exact ih12 (i + 1) _ _ (by omega) (fun j => by unfold uI; rw [i1 j]; split <;> split <;> first | rfl | omega) (fun j => by unfold uI; rw [i2 j]; split <;> split <;> first | rfl | omega) (by omega)
  exact lp12 27 0 KZ KV (by omega) (fun j => by rw [if_neg (by omega)]) (fun j => by rw [if_neg (by omega)]) (by omega)
