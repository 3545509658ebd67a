def wtOf (PW : Nat → Int) (a b : Int) : Int := if (0 ≤ a ∧ a < 26) ∧ (0 ≤ b ∧ b < 26) then PW (a * 26 + b).toNat else 0
theorem wtOf_r {PW : Nat → Int} (h : ∀ j, -1000 ≤ PW j ∧ PW j ≤ 1000) (a b : Int) : -1000 ≤ wtOf PW a b ∧ wtOf PW a b ≤ 1000 := by
  have := h (a * 26 + b).toNat
  unfold wtOf
  split <;> omega
def okW (a b v : Int) : Prop := ((0 ≤ a ∧ a < 26) ∧ (0 ≤ b ∧ b < 26)) ∧ (-1000 ≤ v ∧ v ≤ 1000)
def IX (XP : Nat → Int) (xn : Int) : Prop := (0 ≤ xn ∧ xn ≤ 60) ∧ ∀ j, 0 ≤ XP j ∧ XP j < 26
def sgAt (f : Nat → Int) (n i : Int) : Int := if 0 ≤ i ∧ i < n then f i.toNat else -1
theorem sgAt_r {f : Nat → Int} (h : ∀ j, -1 ≤ f j ∧ f j < 26) (n i : Int) : -1 ≤ sgAt f n i ∧ sgAt f n i < 26 := by
  have := h i.toNat
  unfold sgAt
  split <;> omega
theorem IX.b {XP : Nat → Int} {xn : Int} (h : IX XP xn) : ∀ j, -1 ≤ XP j ∧ XP j < 26 := fun j => by have := h.2 j; omega

set_option maxRecDepth 100000 in
set_option maxHeartbeats 4000000 in
theorem c_P_weigh {l : Launch} {D : va_G} (kI kZ : ClassId) (x : Nat → Nat) (PW : Nat → Int) (hP : ∀ j, -1000 ≤ PW j ∧ PW j ≤ 1000) (a b v : Int) (ha : (-2147483648 ≤ a ∧ a < 2147483648)) (hb : (-2147483648 ≤ b ∧ b < 2147483648)) (hv : (-2147483648 ≤ v ∧ v < 2147483648)) : Dt l D (ty2 kI kZ) y_P_weigh w_P_weigh { frames := 1, cells := 0, slots := 0, locals := 20 } [.ref (x 11), .int (iI (a)), .int (iI (b)), .int (iI (v))] (wP kI kZ x PW) (some (.int (iI (if ((0 ≤ a ∧ a < 26) ∧ (0 ≤ b ∧ b < 26)) ∧ (-1000 ≤ v ∧ v ≤ 1000) then 1 else 0)))) (wP kI kZ x (if ((0 ≤ a ∧ a < 26) ∧ (0 ≤ b ∧ b < 26)) ∧ (-1000 ≤ v ∧ v ≤ 1000) then uI PW (a * 26 + b).toNat v else PW)) := by
  refine Met.toJ (own := R_P) (QD D (some (.int (iI (if ((0 ≤ a ∧ a < 26) ∧ (0 ≤ b ∧ b < 26)) ∧ (-1000 ≤ v ∧ v ≤ 1000) then 1 else 0)))) (wP kI kZ x (if ((0 ≤ a ∧ a < 26) ∧ (0 ≤ b ∧ b < 26)) ∧ (-1000 ≤ v ∧ v ≤ 1000) then uI PW (a * 26 + b).toNat v else PW))) mk_P_weigh rfl (Nat.le_of_ble_eq_true rfl) ?_
  intro p e s m args below meth c A C hr hlk hnm
  show JJ p l e { frames := 1, cells := 0, slots := 0, locals := 20 } s m args below meth c D A 4 (MQ below (QD D (some (.int (iI (if ((0 ≤ a ∧ a < 26) ∧ (0 ≤ b ∧ b < 26)) ∧ (-1000 ≤ v ∧ v ≤ 1000) then 1 else 0)))) (wP kI kZ x (if ((0 ≤ a ∧ a < 26) ∧ (0 ≤ b ∧ b < 26)) ∧ (-1000 ≤ v ∧ v ≤ 1000) then uI PW (a * 26 + b).toNat v else PW)) A) args s 0 0 A) 0 0 0 [(0, .ref (x 11)), (1, .int (iI (a))), (2, .int (iI (b))), (3, .int (iI (v)))] [] (wP kI kZ x PW)
  refine j_iload_n (q := 1) C 1 rfl d_P_weigh_0 rfl ?_
  have e1 := bP_r a
  refine j_callN (q := 4) (wr := wP kI kZ x PW) C [.int (iI (a))] [] (c_C_isPlace kI kZ x a (by omega)) nl_P_15 mk_C_isPlace st_C_isPlace [] [0, 1] [0, 1] rfl (by decide) rfl (by decide) (by decide) (wP kI kZ x PW) rfl (by decide) rfl rfl rfl (Nat.le_of_ble_eq_true rfl) ⟨Nat.le_of_ble_eq_true rfl, Nat.le_of_ble_eq_true rfl⟩ ⟨Nat.le_of_ble_eq_true rfl, Nat.le_of_ble_eq_true rfl⟩ d_P_weigh_1 rfl ?_
  refine j_if_eq C 28 7 d_P_weigh_4 rfl rfl (by omega) (fun c1 => ?_) (fun c1 => ?_)
  · have c1 := bP_0 c1
    refine j_iconst (q := 29) C d_P_weigh_28 rfl ?_
    exact j_zret C hr hlk (by omega) d_P_weigh_29 (congrArg (fun z => some (Value.int (iI z))) (show (if ((0 ≤ a ∧ a < 26) ∧ (0 ≤ b ∧ b < 26)) ∧ (-1000 ≤ v ∧ v ≤ 1000) then 1 else 0) = (0) from by split <;> omega)) (by repeat (first | rfl | (rw [if_pos (by omega)]) | (rw [if_neg (by omega)])))
  · have c1 := bP_1 c1
    refine j_iload_n (q := 8) C 2 rfl d_P_weigh_7 rfl ?_
    have e8 := bP_r b
    refine j_callN (q := 11) (wr := wP kI kZ x PW) C [.int (iI (b))] [] (c_C_isPlace kI kZ x b (by omega)) nl_P_15 mk_C_isPlace st_C_isPlace [] [0, 1] [0, 1] rfl (by decide) rfl (by decide) (by decide) (wP kI kZ x PW) rfl (by decide) rfl rfl rfl (Nat.le_of_ble_eq_true rfl) ⟨Nat.le_of_ble_eq_true rfl, Nat.le_of_ble_eq_true rfl⟩ ⟨Nat.le_of_ble_eq_true rfl, Nat.le_of_ble_eq_true rfl⟩ d_P_weigh_8 rfl ?_
    refine j_if_eq C 28 14 d_P_weigh_11 rfl rfl (by omega) (fun c2 => ?_) (fun c2 => ?_)
    · have c2 := bP_0 c2
      refine j_iconst (q := 29) C d_P_weigh_28 rfl ?_
      first | (exfalso; omega) | exact j_zret C hr hlk (by omega) d_P_weigh_29 (congrArg (fun z => some (Value.int (iI z))) (show (if ((0 ≤ a ∧ a < 26) ∧ (0 ≤ b ∧ b < 26)) ∧ (-1000 ≤ v ∧ v ≤ 1000) then 1 else 0) = (0) from by split <;> omega)) (by repeat (first | rfl | (rw [if_pos (by omega)]) | (rw [if_neg (by omega)])))
    · have c2 := bP_1 c2
      refine j_iload_n (q := 15) C 3 rfl d_P_weigh_14 rfl ?_
      refine j_sipush (q := 18) C d_P_weigh_15 rfl rfl ?_
      refine j_icmp_lt C 28 21 d_P_weigh_18 rfl rfl (by omega) (by omega) (fun c3 => ?_) (fun c3 => ?_)
      · refine j_iconst (q := 29) C d_P_weigh_28 rfl ?_
        first | (exfalso; omega) | exact j_zret C hr hlk (by omega) d_P_weigh_29 (congrArg (fun z => some (Value.int (iI z))) (show (if ((0 ≤ a ∧ a < 26) ∧ (0 ≤ b ∧ b < 26)) ∧ (-1000 ≤ v ∧ v ≤ 1000) then 1 else 0) = (0) from by split <;> omega)) (by repeat (first | rfl | (rw [if_pos (by omega)]) | (rw [if_neg (by omega)])))
      · refine j_iload_n (q := 22) C 3 rfl d_P_weigh_21 rfl ?_
        refine j_sipush (q := 25) C d_P_weigh_22 rfl rfl ?_
        refine j_icmp_le C 30 28 d_P_weigh_25 rfl rfl (by omega) (by omega) (fun c4 => ?_) (fun c4 => ?_)
        · refine j_aload_n (q := 31) C 0 rfl d_P_weigh_30 rfl ?_
          refine j_get (q := 34) C i_P rfl 0 rfl 0 (by decide) rfl rfl fl_P_9 d_P_weigh_31 rfl ?_
          refine j_iload_n (q := 35) C 1 rfl d_P_weigh_34 rfl ?_
          refine j_bipush (q := 37) C d_P_weigh_35 rfl rfl ?_
          refine j_imul (q := 38) C d_P_weigh_37 rfl ?_
          refine j_iload_n (q := 39) C 2 rfl d_P_weigh_38 rfl ?_
          refine j_iadd (q := 40) C d_P_weigh_39 rfl ?_
          refine j_iload_n (q := 41) C 3 rfl d_P_weigh_40 rfl ?_
          refine j_iast (q := 42) C 1 0 rfl rfl (by decide) (by omega) (wP kI kZ x (uI PW ((a * 26) + b).toNat v)) rfl d_P_weigh_41 rfl ?_
          refine j_iconst (q := 43) C d_P_weigh_42 rfl ?_
          first | (exfalso; omega) | exact j_zret C hr hlk (by omega) d_P_weigh_43 (congrArg (fun z => some (Value.int (iI z))) (show (if ((0 ≤ a ∧ a < 26) ∧ (0 ≤ b ∧ b < 26)) ∧ (-1000 ≤ v ∧ v ≤ 1000) then 1 else 0) = (1) from by split <;> omega)) (by repeat (first | rfl | (rw [if_pos (by omega)]) | (rw [if_neg (by omega)])))
        · refine j_iconst (q := 29) C d_P_weigh_28 rfl ?_
          first | (exfalso; omega) | exact j_zret C hr hlk (by omega) d_P_weigh_29 (congrArg (fun z => some (Value.int (iI z))) (show (if ((0 ≤ a ∧ a < 26) ∧ (0 ≤ b ∧ b < 26)) ∧ (-1000 ≤ v ∧ v ≤ 1000) then 1 else 0) = (0) from by split <;> omega)) (by repeat (first | rfl | (rw [if_pos (by omega)]) | (rw [if_neg (by omega)])))
set_option maxRecDepth 100000 in
set_option maxHeartbeats 4000000 in
theorem c_P_weightOf {l : Launch} {D : va_G} (kI kZ : ClassId) (x : Nat → Nat) (PW : Nat → Int) (hP : ∀ j, -1000 ≤ PW j ∧ PW j ≤ 1000) (a b : Int) (ha : (-2147483648 ≤ a ∧ a < 2147483648)) (hb : (-2147483648 ≤ b ∧ b < 2147483648)) : Dt l D (ty2 kI kZ) y_P_weightOf w_P_weightOf { frames := 1, cells := 0, slots := 0, locals := 20 } [.ref (x 11), .int (iI (a)), .int (iI (b))] (wP kI kZ x PW) (some (.int (iI (wtOf PW a b)))) (wP kI kZ x PW) := by
  refine Met.toJ (own := R_P) (QD D (some (.int (iI (wtOf PW a b)))) (wP kI kZ x PW)) mk_P_weightOf rfl (Nat.le_of_ble_eq_true rfl) ?_
  intro p e s m args below meth c A C hr hlk hnm
  show JJ p l e { frames := 1, cells := 0, slots := 0, locals := 20 } s m args below meth c D A 3 (MQ below (QD D (some (.int (iI (wtOf PW a b)))) (wP kI kZ x PW) A) args s 0 0 A) 0 0 0 [(0, .ref (x 11)), (1, .int (iI (a))), (2, .int (iI (b)))] [] (wP kI kZ x PW)
  refine j_iload_n (q := 1) C 1 rfl d_P_weightOf_0 rfl ?_
  have e1 := bP_r a
  refine j_callN (q := 4) (wr := wP kI kZ x PW) C [.int (iI (a))] [] (c_C_isPlace kI kZ x a (by omega)) nl_P_15 mk_C_isPlace st_C_isPlace [] [0, 1] [0, 1] rfl (by decide) rfl (by decide) (by decide) (wP kI kZ x PW) rfl (by decide) rfl rfl rfl (Nat.le_of_ble_eq_true rfl) ⟨Nat.le_of_ble_eq_true rfl, Nat.le_of_ble_eq_true rfl⟩ ⟨Nat.le_of_ble_eq_true rfl, Nat.le_of_ble_eq_true rfl⟩ d_P_weightOf_1 rfl ?_
  refine j_if_eq C 28 7 d_P_weightOf_4 rfl rfl (by omega) (fun c1 => ?_) (fun c1 => ?_)
  · have c1 := bP_0 c1
    refine j_iconst (q := 29) C d_P_weightOf_28 rfl ?_
    exact j_iret C hr hlk d_P_weightOf_29 (congrArg (fun z => some (Value.int (iI z))) (show (wtOf PW a b) = (0) from by unfold wtOf; split <;> first | rfl | omega)) rfl
  · have c1 := bP_1 c1
    refine j_iload_n (q := 8) C 2 rfl d_P_weightOf_7 rfl ?_
    have e8 := bP_r b
    refine j_callN (q := 11) (wr := wP kI kZ x PW) C [.int (iI (b))] [] (c_C_isPlace kI kZ x b (by omega)) nl_P_15 mk_C_isPlace st_C_isPlace [] [0, 1] [0, 1] rfl (by decide) rfl (by decide) (by decide) (wP kI kZ x PW) rfl (by decide) rfl rfl rfl (Nat.le_of_ble_eq_true rfl) ⟨Nat.le_of_ble_eq_true rfl, Nat.le_of_ble_eq_true rfl⟩ ⟨Nat.le_of_ble_eq_true rfl, Nat.le_of_ble_eq_true rfl⟩ d_P_weightOf_8 rfl ?_
    refine j_if_eq C 28 14 d_P_weightOf_11 rfl rfl (by omega) (fun c2 => ?_) (fun c2 => ?_)
    · have c2 := bP_0 c2
      refine j_iconst (q := 29) C d_P_weightOf_28 rfl ?_
      first | (exfalso; omega) | exact j_iret C hr hlk d_P_weightOf_29 (congrArg (fun z => some (Value.int (iI z))) (show (wtOf PW a b) = (0) from by unfold wtOf; split <;> first | rfl | omega)) rfl
    · have c2 := bP_1 c2
      refine j_aload_n (q := 15) C 0 rfl d_P_weightOf_14 rfl ?_
      refine j_get (q := 18) C i_P rfl 0 rfl 0 (by decide) rfl rfl fl_P_9 d_P_weightOf_15 rfl ?_
      refine j_iload_n (q := 19) C 1 rfl d_P_weightOf_18 rfl ?_
      refine j_bipush (q := 21) C d_P_weightOf_19 rfl rfl ?_
      refine j_imul (q := 22) C d_P_weightOf_21 rfl ?_
      refine j_iload_n (q := 23) C 2 rfl d_P_weightOf_22 rfl ?_
      refine j_iadd (q := 24) C d_P_weightOf_23 rfl ?_
      refine j_iald (q := 25) C 1 0 rfl rfl (by decide) (by omega) d_P_weightOf_24 rfl ?_
      have h24 := hP ((a * 26) + b).toNat
      refine j_goto C 29 d_P_weightOf_25 rfl ?_
      first | (exfalso; omega) | exact j_iret C hr hlk d_P_weightOf_29 (congrArg (fun z => some (Value.int (iI z))) (show (wtOf PW a b) = (PW ((a * 26) + b).toNat) from by unfold wtOf; split <;> first | rfl | omega)) rfl
set_option maxRecDepth 100000 in
set_option maxHeartbeats 4000000 in
theorem c_X_append {l : Launch} {D : va_G} (kI kZ : ClassId) (x : Nat → Nat) (XP : Nat → Int) (xn : Int) (hX : IX XP xn) (a : Int) (ha : (-2147483648 ≤ a ∧ a < 2147483648)) : Dt l D (ty2 kI kZ) y_X_append w_X_append { frames := 1, cells := 0, slots := 0, locals := 20 } [.ref (x 20), .int (iI (a))] (wX kI kZ x XP xn) (some (.int (iI (if (0 ≤ a ∧ a < 26) ∧ xn < 60 then 1 else 0)))) (wX kI kZ x (if (0 ≤ a ∧ a < 26) ∧ xn < 60 then uI XP xn.toNat a else XP) (if (0 ≤ a ∧ a < 26) ∧ xn < 60 then xn + 1 else xn)) := by
  refine Met.toJ (own := R_X) (QD D (some (.int (iI (if (0 ≤ a ∧ a < 26) ∧ xn < 60 then 1 else 0)))) (wX kI kZ x (if (0 ≤ a ∧ a < 26) ∧ xn < 60 then uI XP xn.toNat a else XP) (if (0 ≤ a ∧ a < 26) ∧ xn < 60 then xn + 1 else xn))) mk_X_append rfl (Nat.le_of_ble_eq_true rfl) ?_
  intro p e s m args below meth c A C hr hlk hnm
  show JJ p l e { frames := 1, cells := 0, slots := 0, locals := 20 } s m args below meth c D A 2 (MQ below (QD D (some (.int (iI (if (0 ≤ a ∧ a < 26) ∧ xn < 60 then 1 else 0)))) (wX kI kZ x (if (0 ≤ a ∧ a < 26) ∧ xn < 60 then uI XP xn.toNat a else XP) (if (0 ≤ a ∧ a < 26) ∧ xn < 60 then xn + 1 else xn)) A) args s 0 0 A) 0 0 0 [(0, .ref (x 20)), (1, .int (iI (a)))] [] (wX kI kZ x XP xn)
  obtain ⟨hxn, hXP⟩ := id hX
  refine j_iload_n (q := 1) C 1 rfl d_X_append_0 rfl ?_
  have e1 := bP_r a
  refine j_callN (q := 4) (wr := wX kI kZ x XP xn) C [.int (iI (a))] [] (c_C_isPlace kI kZ x a (by omega)) nl_X_19 mk_C_isPlace st_C_isPlace [] [0, 1] [0, 1] rfl (by decide) rfl (by decide) (by decide) (wX kI kZ x XP xn) rfl (by decide) rfl rfl rfl (Nat.le_of_ble_eq_true rfl) ⟨Nat.le_of_ble_eq_true rfl, Nat.le_of_ble_eq_true rfl⟩ ⟨Nat.le_of_ble_eq_true rfl, Nat.le_of_ble_eq_true rfl⟩ d_X_append_1 rfl ?_
  refine j_if_eq C 16 7 d_X_append_4 rfl rfl (by omega) (fun c1 => ?_) (fun c1 => ?_)
  · have c1 := bP_0 c1
    refine j_iconst (q := 17) C d_X_append_16 rfl ?_
    exact j_zret C hr hlk (by omega) d_X_append_17 (congrArg (fun z => some (Value.int (iI z))) (show (if (0 ≤ a ∧ a < 26) ∧ xn < 60 then 1 else 0) = (0) from by split <;> omega)) (by repeat (first | rfl | (rw [if_pos (by omega)]) | (rw [if_neg (by omega)])))
  · have c1 := bP_1 c1
    refine j_aload_n (q := 8) C 0 rfl d_X_append_7 rfl ?_
    refine j_get (q := 11) C i_X rfl 0 rfl 1 (by decide) rfl rfl fl_X_15 d_X_append_8 rfl ?_
    refine j_bipush (q := 13) C d_X_append_11 rfl rfl ?_
    refine j_icmp_lt C 18 16 d_X_append_13 rfl rfl (by omega) (by omega) (fun c2 => ?_) (fun c2 => ?_)
    · refine j_aload_n (q := 19) C 0 rfl d_X_append_18 rfl ?_
      refine j_get (q := 22) C i_X rfl 0 rfl 0 (by decide) rfl rfl fl_X_9 d_X_append_19 rfl ?_
      refine j_aload_n (q := 23) C 0 rfl d_X_append_22 rfl ?_
      refine j_get (q := 26) C i_X rfl 0 rfl 1 (by decide) rfl rfl fl_X_15 d_X_append_23 rfl ?_
      refine j_iload_n (q := 27) C 1 rfl d_X_append_26 rfl ?_
      refine j_iast (q := 28) C 1 0 rfl rfl (by decide) (by omega) (wX kI kZ x (uI XP xn.toNat a) xn) rfl d_X_append_27 rfl ?_
      refine j_aload_n (q := 29) C 0 rfl d_X_append_28 rfl ?_
      refine j_dup (q := 30) C rfl d_X_append_29 rfl ?_
      refine j_get (q := 33) C i_X rfl 0 rfl 1 (by decide) rfl rfl fl_X_15 d_X_append_30 rfl ?_
      refine j_iconst (q := 34) C d_X_append_33 rfl ?_
      refine j_iadd (q := 35) C d_X_append_34 rfl ?_
      refine j_put (q := 38) (ty := .int) C i_X rfl t_X t_X_ok n_X 0 rfl 1 (by decide) rfl fl_X_15 rfl (by decide +kernel) rfl rfl (Nat.le_of_ble_eq_true rfl) (wX kI kZ x (uI XP xn.toNat a) (xn + 1)) rfl d_X_append_35 rfl ?_
      refine j_iconst (q := 39) C d_X_append_38 rfl ?_
      first | (exfalso; omega) | exact j_zret C hr hlk (by omega) d_X_append_39 (congrArg (fun z => some (Value.int (iI z))) (show (if (0 ≤ a ∧ a < 26) ∧ xn < 60 then 1 else 0) = (1) from by split <;> omega)) (by repeat (first | rfl | (rw [if_pos (by omega)]) | (rw [if_neg (by omega)])))
    · refine j_iconst (q := 17) C d_X_append_16 rfl ?_
      first | (exfalso; omega) | exact j_zret C hr hlk (by omega) d_X_append_17 (congrArg (fun z => some (Value.int (iI z))) (show (if (0 ≤ a ∧ a < 26) ∧ xn < 60 then 1 else 0) = (0) from by split <;> omega)) (by repeat (first | rfl | (rw [if_pos (by omega)]) | (rw [if_neg (by omega)])))
set_option maxRecDepth 100000 in
set_option maxHeartbeats 4000000 in
theorem c_X_empty {l : Launch} {D : va_G} (kI kZ : ClassId) (x : Nat → Nat) (XP : Nat → Int) (xn : Int) (hX : IX XP xn) : Dt l D (ty2 kI kZ) y_X_empty w_X_empty { frames := 0, cells := 0, slots := 0, locals := 0 } [.ref (x 20)] (wX kI kZ x XP xn) none (wX kI kZ x XP 0) := by
  refine Met.toJ (own := R_X) (QD D none (wX kI kZ x XP 0)) mk_X_empty rfl (Nat.le_of_ble_eq_true rfl) ?_
  intro p e s m args below meth c A C hr hlk hnm
  show JJ p l e { frames := 0, cells := 0, slots := 0, locals := 0 } s m args below meth c D A 1 (MQ below (QD D none (wX kI kZ x XP 0) A) args s 0 0 A) 0 0 0 [(0, .ref (x 20))] [] (wX kI kZ x XP xn)
  refine j_aload_n (q := 1) C 0 rfl d_X_empty_0 rfl ?_
  refine j_iconst (q := 2) C d_X_empty_1 rfl ?_
  refine j_put (q := 5) (ty := .int) C i_X rfl t_X t_X_ok n_X 0 rfl 1 (by decide) rfl fl_X_15 rfl (by decide +kernel) rfl rfl (Nat.le_of_ble_eq_true rfl) (wX kI kZ x XP 0) rfl d_X_empty_2 rfl ?_
  exact j_vret C hr hlk d_X_empty_5 rfl
set_option maxRecDepth 100000 in
set_option maxHeartbeats 4000000 in
theorem c_X_size {l : Launch} {D : va_G} (kI kZ : ClassId) (x : Nat → Nat) (XP : Nat → Int) (xn : Int) (hX : IX XP xn) : Dt l D (ty2 kI kZ) y_X_size w_X_size { frames := 0, cells := 0, slots := 0, locals := 0 } [.ref (x 20)] (wX kI kZ x XP xn) (some (.int (iI (xn)))) (wX kI kZ x XP xn) := by
  refine Met.toJ (own := R_X) (QD D (some (.int (iI (xn)))) (wX kI kZ x XP xn)) mk_X_size rfl (Nat.le_of_ble_eq_true rfl) ?_
  intro p e s m args below meth c A C hr hlk hnm
  show JJ p l e { frames := 0, cells := 0, slots := 0, locals := 0 } s m args below meth c D A 1 (MQ below (QD D (some (.int (iI (xn)))) (wX kI kZ x XP xn) A) args s 0 0 A) 0 0 0 [(0, .ref (x 20))] [] (wX kI kZ x XP xn)
  refine j_aload_n (q := 1) C 0 rfl d_X_size_0 rfl ?_
  refine j_get (q := 4) C i_X rfl 0 rfl 1 (by decide) rfl rfl fl_X_15 d_X_size_1 rfl ?_
  exact j_iret C hr hlk d_X_size_4 rfl rfl
set_option maxRecDepth 100000 in
set_option maxHeartbeats 4000000 in
theorem c_X_placeAt {l : Launch} {D : va_G} (kI kZ : ClassId) (x : Nat → Nat) (XP : Nat → Int) (xn : Int) (hX : IX XP xn) (a : Int) (ha : (-2147483648 ≤ a ∧ a < 2147483648)) : Dt l D (ty2 kI kZ) y_X_placeAt w_X_placeAt { frames := 0, cells := 0, slots := 0, locals := 0 } [.ref (x 20), .int (iI (a))] (wX kI kZ x XP xn) (some (.int (iI (sgAt XP xn a)))) (wX kI kZ x XP xn) := by
  refine Met.toJ (own := R_X) (QD D (some (.int (iI (sgAt XP xn a)))) (wX kI kZ x XP xn)) mk_X_placeAt rfl (Nat.le_of_ble_eq_true rfl) ?_
  intro p e s m args below meth c A C hr hlk hnm
  show JJ p l e { frames := 0, cells := 0, slots := 0, locals := 0 } s m args below meth c D A 2 (MQ below (QD D (some (.int (iI (sgAt XP xn a)))) (wX kI kZ x XP xn) A) args s 0 0 A) 0 0 0 [(0, .ref (x 20)), (1, .int (iI (a)))] [] (wX kI kZ x XP xn)
  obtain ⟨hxn, hXP⟩ := id hX
  refine j_iload_n (q := 1) C 1 rfl d_X_placeAt_0 rfl ?_
  refine j_if_lt C 21 4 d_X_placeAt_1 rfl rfl (by omega) (fun c1 => ?_) (fun c1 => ?_)
  · refine j_iconst (q := 22) C d_X_placeAt_21 rfl ?_
    exact j_iret C hr hlk d_X_placeAt_22 (congrArg (fun z => some (Value.int (iI z))) (show (sgAt XP xn a) = (-1) from by unfold sgAt; split <;> first | rfl | omega)) rfl
  · refine j_iload_n (q := 5) C 1 rfl d_X_placeAt_4 rfl ?_
    refine j_aload_n (q := 6) C 0 rfl d_X_placeAt_5 rfl ?_
    refine j_get (q := 9) C i_X rfl 0 rfl 1 (by decide) rfl rfl fl_X_15 d_X_placeAt_6 rfl ?_
    refine j_icmp_ge C 21 12 d_X_placeAt_9 rfl rfl (by omega) (by omega) (fun c2 => ?_) (fun c2 => ?_)
    · refine j_iconst (q := 22) C d_X_placeAt_21 rfl ?_
      first | (exfalso; omega) | exact j_iret C hr hlk d_X_placeAt_22 (congrArg (fun z => some (Value.int (iI z))) (show (sgAt XP xn a) = (-1) from by unfold sgAt; split <;> first | rfl | omega)) rfl
    · refine j_aload_n (q := 13) C 0 rfl d_X_placeAt_12 rfl ?_
      refine j_get (q := 16) C i_X rfl 0 rfl 0 (by decide) rfl rfl fl_X_9 d_X_placeAt_13 rfl ?_
      refine j_iload_n (q := 17) C 1 rfl d_X_placeAt_16 rfl ?_
      refine j_iald (q := 18) C 1 0 rfl rfl (by decide) (by omega) d_X_placeAt_17 rfl ?_
      have h17 := hXP a.toNat
      refine j_goto C 22 d_X_placeAt_18 rfl ?_
      first | (exfalso; omega) | exact j_iret C hr hlk d_X_placeAt_22 (congrArg (fun z => some (Value.int (iI z))) (show (sgAt XP xn a) = (XP a.toNat) from by unfold sgAt; split <;> first | rfl | omega)) rfl
