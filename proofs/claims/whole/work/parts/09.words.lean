def IW (WP WL WC : Nat → Int) (wn wk : Int) : Prop := (0 ≤ wn ∧ wn ≤ 60) ∧ (0 ≤ wk ∧ wk ≤ 8) ∧ (∀ j, 0 ≤ WL j ∧ WL j ≤ 8) ∧ (∀ j, -1 ≤ WP j ∧ WP j < 26) ∧ ∀ j, 0 ≤ WC j ∧ WC j < 26
def lnOf (WL : Nat → Int) (wn a : Int) : Int := if 0 ≤ a ∧ a < wn then WL a.toNat else 0
theorem lnOf_r {WP WL WC : Nat → Int} {wn wk : Int} (h : IW WP WL WC wn wk) (a : Int) : 0 ≤ lnOf WL wn a ∧ lnOf WL wn a ≤ 8 := by
  have := h.2.2.1 a.toNat
  unfold lnOf
  split <;> omega
theorem lnOf_in {WL : Nat → Int} {wn a : Int} (h : 0 < lnOf WL wn a) : 0 ≤ a ∧ a < wn := by
  unfold lnOf at h
  split at h <;> omega
def plAt (WP WL : Nat → Int) (wn a i : Int) : Int := if 0 ≤ i ∧ i < lnOf WL wn a then WP (a * 8 + i).toNat else -1
theorem plAt_r {WP WL WC : Nat → Int} {wn wk : Int} (h : IW WP WL WC wn wk) (a i : Int) : -1 ≤ plAt WP WL wn a i ∧ plAt WP WL wn a i < 26 := by
  have := h.2.2.2.1 (a * 8 + i).toNat
  unfold plAt
  split <;> omega
/-- the letters collected are the word a -/
def isC (WP WL WC : Nat → Int) (wn wk a : Int) : Prop := lnOf WL wn a = wk ∧ ∀ i : Int, 0 ≤ i → i < wk → plAt WP WL wn a i = WC i.toNat

set_option maxRecDepth 100000 in
set_option maxHeartbeats 4000000 in
theorem c_W_size {l : Launch} {D : va_G} (kI kZ : ClassId) (x : Nat → Nat) (WP WL WC : Nat → Int) (wn wk : Int) (hW : IW WP WL WC wn wk) : Dt l D (ty2 kI kZ) y_W_size w_W_size { frames := 0, cells := 0, slots := 0, locals := 0 } [.ref (x 1)] (wW kI kZ x WP WL WC wn wk) (some (.int (iI (wn)))) (wW kI kZ x WP WL WC wn wk) := by
  refine Met.toJ (own := R_W) (QD D (some (.int (iI (wn)))) (wW kI kZ x WP WL WC wn wk)) mk_W_size rfl (Nat.le_of_ble_eq_true rfl) ?_
  intro p e s m args below meth c A C hr hlk hnm
  show JJ p l e { frames := 0, cells := 0, slots := 0, locals := 0 } s m args below meth c D A 1 (MQ below (QD D (some (.int (iI (wn)))) (wW kI kZ x WP WL WC wn wk) A) args s 0 0 A) 0 0 0 [(0, .ref (x 1))] [] (wW kI kZ x WP WL WC wn wk)
  obtain ⟨hwn, hwk, hWL, hWP, hWC⟩ := id hW
  refine j_aload_n (q := 1) C 0 rfl d_W_size_0 rfl ?_
  refine j_get (q := 4) C i_W rfl 0 rfl 3 (by decide) rfl rfl fl_W_21 d_W_size_1 rfl ?_
  exact j_iret C hr hlk d_W_size_4 rfl rfl
set_option maxRecDepth 100000 in
set_option maxHeartbeats 4000000 in
theorem c_W_lengthOf {l : Launch} {D : va_G} (kI kZ : ClassId) (x : Nat → Nat) (WP WL WC : Nat → Int) (wn wk : Int) (hW : IW WP WL WC wn wk) (a : Int) (ha : (-2147483648 ≤ a ∧ a < 2147483648)) : Dt l D (ty2 kI kZ) y_W_lengthOf w_W_lengthOf { frames := 0, cells := 0, slots := 0, locals := 0 } [.ref (x 1), .int (iI (a))] (wW kI kZ x WP WL WC wn wk) (some (.int (iI (lnOf WL wn a)))) (wW kI kZ x WP WL WC wn wk) := by
  refine Met.toJ (own := R_W) (QD D (some (.int (iI (lnOf WL wn a)))) (wW kI kZ x WP WL WC wn wk)) mk_W_lengthOf rfl (Nat.le_of_ble_eq_true rfl) ?_
  intro p e s m args below meth c A C hr hlk hnm
  show JJ p l e { frames := 0, cells := 0, slots := 0, locals := 0 } s m args below meth c D A 2 (MQ below (QD D (some (.int (iI (lnOf WL wn a)))) (wW kI kZ x WP WL WC wn wk) A) args s 0 0 A) 0 0 0 [(0, .ref (x 1)), (1, .int (iI (a)))] [] (wW kI kZ x WP WL WC wn wk)
  obtain ⟨hwn, hwk, hWL, hWP, hWC⟩ := id hW
  refine j_iload_n (q := 1) C 1 rfl d_W_lengthOf_0 rfl ?_
  refine j_if_lt C 21 4 d_W_lengthOf_1 rfl rfl (by omega) (fun c1 => ?_) (fun c1 => ?_)
  · refine j_iconst (q := 22) C d_W_lengthOf_21 rfl ?_
    exact j_iret C hr hlk d_W_lengthOf_22 (congrArg (fun z => some (Value.int (iI z))) (show (lnOf WL wn a) = (0) from by unfold lnOf; split <;> first | rfl | omega)) rfl
  · refine j_iload_n (q := 5) C 1 rfl d_W_lengthOf_4 rfl ?_
    refine j_aload_n (q := 6) C 0 rfl d_W_lengthOf_5 rfl ?_
    refine j_get (q := 9) C i_W rfl 0 rfl 3 (by decide) rfl rfl fl_W_21 d_W_lengthOf_6 rfl ?_
    refine j_icmp_ge C 21 12 d_W_lengthOf_9 rfl rfl (by omega) (by omega) (fun c2 => ?_) (fun c2 => ?_)
    · refine j_iconst (q := 22) C d_W_lengthOf_21 rfl ?_
      first | (exfalso; omega) | exact j_iret C hr hlk d_W_lengthOf_22 (congrArg (fun z => some (Value.int (iI z))) (show (lnOf WL wn a) = (0) from by unfold lnOf; split <;> first | rfl | omega)) rfl
    · refine j_aload_n (q := 13) C 0 rfl d_W_lengthOf_12 rfl ?_
      refine j_get (q := 16) C i_W rfl 0 rfl 1 (by decide) rfl rfl fl_W_15 d_W_lengthOf_13 rfl ?_
      refine j_iload_n (q := 17) C 1 rfl d_W_lengthOf_16 rfl ?_
      refine j_iald (q := 18) C 2 0 rfl rfl (by decide) (by omega) d_W_lengthOf_17 rfl ?_
      have h17 := hWL a.toNat
      refine j_goto C 22 d_W_lengthOf_18 rfl ?_
      first | (exfalso; omega) | exact j_iret C hr hlk d_W_lengthOf_22 (congrArg (fun z => some (Value.int (iI z))) (show (lnOf WL wn a) = (WL a.toNat) from by unfold lnOf; split <;> first | rfl | omega)) rfl
set_option maxRecDepth 100000 in
set_option maxHeartbeats 4000000 in
theorem c_W_placeAt {l : Launch} {D : va_G} (kI kZ : ClassId) (x : Nat → Nat) (WP WL WC : Nat → Int) (wn wk : Int) (hW : IW WP WL WC wn wk) (a i : Int) (ha : (-2147483648 ≤ a ∧ a < 2147483648)) (hi : (-2147483648 ≤ i ∧ i < 2147483648)) : Dt l D (ty2 kI kZ) y_W_placeAt w_W_placeAt { frames := 1, cells := 0, slots := 0, locals := 21 } [.ref (x 1), .int (iI (a)), .int (iI (i))] (wW kI kZ x WP WL WC wn wk) (some (.int (iI (plAt WP WL wn a i)))) (wW kI kZ x WP WL WC wn wk) := by
  refine Met.toJ (own := R_W) (QD D (some (.int (iI (plAt WP WL wn a i)))) (wW kI kZ x WP WL WC wn wk)) mk_W_placeAt rfl (Nat.le_of_ble_eq_true rfl) ?_
  intro p e s m args below meth c A C hr hlk hnm
  show JJ p l e { frames := 1, cells := 0, slots := 0, locals := 21 } s m args below meth c D A 3 (MQ below (QD D (some (.int (iI (plAt WP WL wn a i)))) (wW kI kZ x WP WL WC wn wk) A) args s 0 0 A) 0 0 0 [(0, .ref (x 1)), (1, .int (iI (a))), (2, .int (iI (i)))] [] (wW kI kZ x WP WL WC wn wk)
  obtain ⟨hwn, hwk, hWL, hWP, hWC⟩ := id hW
  refine j_iload_n (q := 1) C 2 rfl d_W_placeAt_0 rfl ?_
  refine j_if_lt C 27 4 d_W_placeAt_1 rfl rfl (by omega) (fun c1 => ?_) (fun c1 => ?_)
  · refine j_iconst (q := 28) C d_W_placeAt_27 rfl ?_
    exact j_iret C hr hlk d_W_placeAt_28 (congrArg (fun z => some (Value.int (iI z))) (show (plAt WP WL wn a i) = (-1) from by unfold plAt; split <;> first | rfl | omega)) rfl
  · refine j_iload_n (q := 5) C 2 rfl d_W_placeAt_4 rfl ?_
    refine j_aload_n (q := 6) C 0 rfl d_W_placeAt_5 rfl ?_
    refine j_iload_n (q := 7) C 1 rfl d_W_placeAt_6 rfl ?_
    have e7 := lnOf_r hW a
    refine j_callV (q := 10) (wr := []) C [.int (iI (a))] [.int (iI (i))] (c_W_lengthOf kI kZ x WP WL WC wn wk hW a (by omega)) ml_W_36 mk_W_lengthOf in_W_lengthOf se_W_lengthOf rfl rfl rfl [0, 1, 2, 3] [] [0, 1, 2, 3] rfl (by decide) rfl (by decide) (by decide) (wW kI kZ x WP WL WC wn wk) rfl (by decide) rfl rfl rfl (Nat.le_of_ble_eq_true rfl) ⟨Nat.le_of_ble_eq_true rfl, Nat.le_of_ble_eq_true rfl⟩ ⟨Nat.le_of_ble_eq_true rfl, Nat.le_of_ble_eq_true rfl⟩ d_W_placeAt_7 rfl ?_
    refine j_icmp_ge C 27 13 d_W_placeAt_10 rfl rfl (by omega) (by omega) (fun c2 => ?_) (fun c2 => ?_)
    · refine j_iconst (q := 28) C d_W_placeAt_27 rfl ?_
      first | (exfalso; omega) | exact j_iret C hr hlk d_W_placeAt_28 (congrArg (fun z => some (Value.int (iI z))) (show (plAt WP WL wn a i) = (-1) from by unfold plAt; split <;> first | rfl | omega)) rfl
    · have k10 := lnOf_in (WL := WL) (wn := wn) (a := a) (by omega)
      refine j_aload_n (q := 14) C 0 rfl d_W_placeAt_13 rfl ?_
      refine j_get (q := 17) C i_W rfl 0 rfl 0 (by decide) rfl rfl fl_W_9 d_W_placeAt_14 rfl ?_
      refine j_iload_n (q := 18) C 1 rfl d_W_placeAt_17 rfl ?_
      refine j_bipush (q := 20) C d_W_placeAt_18 rfl rfl ?_
      refine j_imul (q := 21) C d_W_placeAt_20 rfl ?_
      refine j_iload_n (q := 22) C 2 rfl d_W_placeAt_21 rfl ?_
      refine j_iadd (q := 23) C d_W_placeAt_22 rfl ?_
      refine j_iald (q := 24) C 1 0 rfl rfl (by decide) (by omega) d_W_placeAt_23 rfl ?_
      have h23 := hWP ((a * 8) + i).toNat
      refine j_goto C 28 d_W_placeAt_24 rfl ?_
      first | (exfalso; omega) | exact j_iret C hr hlk d_W_placeAt_28 (congrArg (fun z => some (Value.int (iI z))) (show (plAt WP WL wn a i) = (WP ((a * 8) + i).toNat) from by unfold plAt; split <;> first | rfl | omega)) rfl
set_option maxRecDepth 100000 in
set_option maxHeartbeats 4000000 in
theorem c_W_collect {l : Launch} {D : va_G} (kI kZ : ClassId) (x : Nat → Nat) (WP WL WC : Nat → Int) (wn wk : Int) (hW : IW WP WL WC wn wk) (a : Int) (ha : (-2147483648 ≤ a ∧ a < 2147483648)) : Dt l D (ty2 kI kZ) y_W_collect w_W_collect { frames := 1, cells := 0, slots := 0, locals := 20 } [.ref (x 1), .int (iI (a))] (wW kI kZ x WP WL WC wn wk) (some (.int (iI (if (0 ≤ a ∧ a < 26) ∧ wk < 8 then 1 else 0)))) (wW kI kZ x WP WL (if (0 ≤ a ∧ a < 26) ∧ wk < 8 then uI WC wk.toNat a else WC) wn (if (0 ≤ a ∧ a < 26) ∧ wk < 8 then wk + 1 else wk)) := by
  refine Met.toJ (own := R_W) (QD D (some (.int (iI (if (0 ≤ a ∧ a < 26) ∧ wk < 8 then 1 else 0)))) (wW kI kZ x WP WL (if (0 ≤ a ∧ a < 26) ∧ wk < 8 then uI WC wk.toNat a else WC) wn (if (0 ≤ a ∧ a < 26) ∧ wk < 8 then wk + 1 else wk))) mk_W_collect rfl (Nat.le_of_ble_eq_true rfl) ?_
  intro p e s m args below meth c A C hr hlk hnm
  show JJ p l e { frames := 1, cells := 0, slots := 0, locals := 20 } s m args below meth c D A 2 (MQ below (QD D (some (.int (iI (if (0 ≤ a ∧ a < 26) ∧ wk < 8 then 1 else 0)))) (wW kI kZ x WP WL (if (0 ≤ a ∧ a < 26) ∧ wk < 8 then uI WC wk.toNat a else WC) wn (if (0 ≤ a ∧ a < 26) ∧ wk < 8 then wk + 1 else wk)) A) args s 0 0 A) 0 0 0 [(0, .ref (x 1)), (1, .int (iI (a)))] [] (wW kI kZ x WP WL WC wn wk)
  obtain ⟨hwn, hwk, hWL, hWP, hWC⟩ := id hW
  refine j_iload_n (q := 1) C 1 rfl d_W_collect_0 rfl ?_
  have e1 := bP_r a
  refine j_callN (q := 4) (wr := wW kI kZ x WP WL WC wn wk) C [.int (iI (a))] [] (c_C_isPlace kI kZ x a (by omega)) nl_W_28 mk_C_isPlace st_C_isPlace [] [0, 1, 2, 3] [0, 1, 2, 3] rfl (by decide) rfl (by decide) (by decide) (wW kI kZ x WP WL WC wn wk) rfl (by decide) rfl rfl rfl (Nat.le_of_ble_eq_true rfl) ⟨Nat.le_of_ble_eq_true rfl, Nat.le_of_ble_eq_true rfl⟩ ⟨Nat.le_of_ble_eq_true rfl, Nat.le_of_ble_eq_true rfl⟩ d_W_collect_1 rfl ?_
  refine j_if_eq C 16 7 d_W_collect_4 rfl rfl (by omega) (fun c1 => ?_) (fun c1 => ?_)
  · have c1 := bP_0 c1
    refine j_iconst (q := 17) C d_W_collect_16 rfl ?_
    exact j_zret C hr hlk (by omega) d_W_collect_17 (congrArg (fun z => some (Value.int (iI z))) (show (if (0 ≤ a ∧ a < 26) ∧ wk < 8 then 1 else 0) = (0) from by split <;> omega)) (by repeat (first | rfl | (rw [if_pos (by omega)]) | (rw [if_neg (by omega)])))
  · have c1 := bP_1 c1
    refine j_aload_n (q := 8) C 0 rfl d_W_collect_7 rfl ?_
    refine j_get (q := 11) C i_W rfl 0 rfl 4 (by decide) rfl rfl fl_W_25 d_W_collect_8 rfl ?_
    refine j_bipush (q := 13) C d_W_collect_11 rfl rfl ?_
    refine j_icmp_lt C 18 16 d_W_collect_13 rfl rfl (by omega) (by omega) (fun c2 => ?_) (fun c2 => ?_)
    · refine j_aload_n (q := 19) C 0 rfl d_W_collect_18 rfl ?_
      refine j_get (q := 22) C i_W rfl 0 rfl 2 (by decide) rfl rfl fl_W_18 d_W_collect_19 rfl ?_
      refine j_aload_n (q := 23) C 0 rfl d_W_collect_22 rfl ?_
      refine j_get (q := 26) C i_W rfl 0 rfl 4 (by decide) rfl rfl fl_W_25 d_W_collect_23 rfl ?_
      refine j_iload_n (q := 27) C 1 rfl d_W_collect_26 rfl ?_
      refine j_iast (q := 28) C 3 0 rfl rfl (by decide) (by omega) (wW kI kZ x WP WL (uI WC wk.toNat a) wn wk) rfl d_W_collect_27 rfl ?_
      refine j_aload_n (q := 29) C 0 rfl d_W_collect_28 rfl ?_
      refine j_dup (q := 30) C rfl d_W_collect_29 rfl ?_
      refine j_get (q := 33) C i_W rfl 0 rfl 4 (by decide) rfl rfl fl_W_25 d_W_collect_30 rfl ?_
      refine j_iconst (q := 34) C d_W_collect_33 rfl ?_
      refine j_iadd (q := 35) C d_W_collect_34 rfl ?_
      refine j_put (q := 38) (ty := .int) C i_W rfl t_W t_W_ok n_W 0 rfl 4 (by decide) rfl fl_W_25 rfl (by decide +kernel) rfl rfl (Nat.le_of_ble_eq_true rfl) (wW kI kZ x WP WL (uI WC wk.toNat a) wn (wk + 1)) rfl d_W_collect_35 rfl ?_
      refine j_iconst (q := 39) C d_W_collect_38 rfl ?_
      first | (exfalso; omega) | exact j_zret C hr hlk (by omega) d_W_collect_39 (congrArg (fun z => some (Value.int (iI z))) (show (if (0 ≤ a ∧ a < 26) ∧ wk < 8 then 1 else 0) = (1) from by split <;> omega)) (by repeat (first | rfl | (rw [if_pos (by omega)]) | (rw [if_neg (by omega)])))
    · refine j_iconst (q := 17) C d_W_collect_16 rfl ?_
      first | (exfalso; omega) | exact j_zret C hr hlk (by omega) d_W_collect_17 (congrArg (fun z => some (Value.int (iI z))) (show (if (0 ≤ a ∧ a < 26) ∧ wk < 8 then 1 else 0) = (0) from by split <;> omega)) (by repeat (first | rfl | (rw [if_pos (by omega)]) | (rw [if_neg (by omega)])))
set_option maxRecDepth 100000 in
set_option maxHeartbeats 4000000 in
theorem c_W_isCollected {l : Launch} {D : va_G} (kI kZ : ClassId) (x : Nat → Nat) (WP WL WC : Nat → Int) (wn wk : Int) (hW : IW WP WL WC wn wk) (a : Int) (ha : (-2147483648 ≤ a ∧ a < 2147483648)) : Dt l D (ty2 kI kZ) y_W_isCollected w_W_isCollected { frames := 2, cells := 0, slots := 0, locals := 43 } [.ref (x 1), .int (iI (a))] (wW kI kZ x WP WL WC wn wk) (some (.int (iI (bI (isC WP WL WC wn wk a))))) (wW kI kZ x WP WL WC wn wk) := by
  refine Met.toJ (own := R_W) (QD D (some (.int (iI (bI (isC WP WL WC wn wk a))))) (wW kI kZ x WP WL WC wn wk)) mk_W_isCollected rfl (Nat.le_of_ble_eq_true rfl) ?_
  intro p e s m args below meth c A C hr hlk hnm
  show JJ p l e { frames := 2, cells := 0, slots := 0, locals := 43 } s m args below meth c D A 3 (MQ below (QD D (some (.int (iI (bI (isC WP WL WC wn wk a))))) (wW kI kZ x WP WL WC wn wk) A) args s 0 0 A) 0 0 0 [(0, .ref (x 1)), (1, .int (iI (a)))] [] (wW kI kZ x WP WL WC wn wk)
  obtain ⟨hwn, hwk, hWL, hWP, hWC⟩ := id hW
  refine j_aload_n (q := 1) C 0 rfl d_W_isCollected_0 rfl ?_
  refine j_iload_n (q := 2) C 1 rfl d_W_isCollected_1 rfl ?_
  have e2 := lnOf_r hW a
  refine j_callV (q := 5) (wr := []) C [.int (iI (a))] [] (c_W_lengthOf kI kZ x WP WL WC wn wk hW a (by omega)) ml_W_36 mk_W_lengthOf in_W_lengthOf se_W_lengthOf rfl rfl rfl [0, 1, 2, 3] [] [0, 1, 2, 3] rfl (by decide) rfl (by decide) (by decide) (wW kI kZ x WP WL WC wn wk) rfl (by decide) rfl rfl rfl (Nat.le_of_ble_eq_true rfl) ⟨Nat.le_of_ble_eq_true rfl, Nat.le_of_ble_eq_true rfl⟩ ⟨Nat.le_of_ble_eq_true rfl, Nat.le_of_ble_eq_true rfl⟩ d_W_isCollected_2 rfl ?_
  refine j_aload_n (q := 6) C 0 rfl d_W_isCollected_5 rfl ?_
  refine j_get (q := 9) C i_W rfl 0 rfl 4 (by decide) rfl rfl fl_W_25 d_W_isCollected_6 rfl ?_
  refine j_icmp_eq C 14 12 d_W_isCollected_9 rfl rfl (by omega) (by omega) (fun c1 => ?_) (fun c1 => ?_)
  · refine j_iconst (q := 15) C d_W_isCollected_14 rfl ?_
    refine j_istore_n (q := 16) C [(0, .ref (x 1)), (1, .int (iI (a))), (2, .int (iI (0)))] rfl (by decide) d_W_isCollected_15 rfl ?_
    have lp16 : ∀ (N : Nat) (i : Int), (0 ≤ i ∧ i ≤ wk) → (∀ j : Int, 0 ≤ j → j < i → plAt WP WL wn a j = WC j.toNat) → (wk - i).toNat < N → JJ p l e { frames := 2, cells := 0, slots := 0, locals := 43 } s m args below meth c D A 3 (MQ below (QD D (some (.int (iI (bI (isC WP WL WC wn wk a))))) (wW kI kZ x WP WL WC wn wk) A) args s 0 0 A) 0 0 16 [(0, .ref (x 1)), (1, .int (iI (a))), (2, .int (iI (i)))] [] (wW kI kZ x WP WL WC wn wk) := by
      intro N
      induction N with
      | zero =>
        intro i i0 i1 hN
        omega
      | succ N ih16 =>
        intro i i0 i1 hN
        refine j_iload_n (q := 17) C 2 rfl d_W_isCollected_16 rfl ?_
        refine j_aload_n (q := 18) C 0 rfl d_W_isCollected_17 rfl ?_
        refine j_get (q := 21) C i_W rfl 0 rfl 4 (by decide) rfl rfl fl_W_25 d_W_isCollected_18 rfl ?_
        refine j_icmp_ge C 47 24 d_W_isCollected_21 rfl rfl (by omega) (by omega) (fun c2 => ?_) (fun c2 => ?_)
        · refine j_iconst (q := 48) C d_W_isCollected_47 rfl ?_
          first | (exfalso; omega) | exact j_zret C hr hlk (by omega) d_W_isCollected_48 (congrArg (fun z => some (Value.int (iI z))) (show (bI (isC WP WL WC wn wk a)) = (1) from bI_1 ⟨by omega, fun j h1 h2 => i1 j h1 (by omega)⟩)) rfl
        · refine j_aload_n (q := 25) C 0 rfl d_W_isCollected_24 rfl ?_
          refine j_iload_n (q := 26) C 1 rfl d_W_isCollected_25 rfl ?_
          refine j_iload_n (q := 27) C 2 rfl d_W_isCollected_26 rfl ?_
          have e27 := plAt_r hW a i
          refine j_callV (q := 30) (wr := []) C [.int (iI (a)), .int (iI (i))] [] (c_W_placeAt kI kZ x WP WL WC wn wk hW a i (by omega) (by omega)) ml_W_46 mk_W_placeAt in_W_placeAt se_W_placeAt rfl rfl rfl [0, 1, 2, 3] [] [0, 1, 2, 3] rfl (by decide) rfl (by decide) (by decide) (wW kI kZ x WP WL WC wn wk) rfl (by decide) rfl rfl rfl (Nat.le_of_ble_eq_true rfl) ⟨Nat.le_of_ble_eq_true rfl, Nat.le_of_ble_eq_true rfl⟩ ⟨Nat.le_of_ble_eq_true rfl, Nat.le_of_ble_eq_true rfl⟩ d_W_isCollected_27 rfl ?_
          refine j_aload_n (q := 31) C 0 rfl d_W_isCollected_30 rfl ?_
          refine j_get (q := 34) C i_W rfl 0 rfl 2 (by decide) rfl rfl fl_W_18 d_W_isCollected_31 rfl ?_
          refine j_iload_n (q := 35) C 2 rfl d_W_isCollected_34 rfl ?_
          refine j_iald (q := 36) C 3 0 rfl rfl (by decide) (by omega) d_W_isCollected_35 rfl ?_
          have h35 := hWC i.toNat
          refine j_icmp_eq C 41 39 d_W_isCollected_36 rfl rfl (by omega) (by omega) (fun c3 => ?_) (fun c3 => ?_)
          · refine j_iinc (q := 44) C 2 [(0, .ref (x 1)), (1, .int (iI (a))), (2, .int (iI (i + 1)))] rfl rfl (by decide) d_W_isCollected_41 rfl ?_
            refine j_goto C 16 d_W_isCollected_44 rfl ?_
            exact ih16 (i + 1) (by omega) (fun j h1 h2 => by rcases (show j < i ∨ j = i by omega) with h | h; exact i1 j h1 h; rw [h]; omega) (by omega)
          · refine j_iconst (q := 40) C d_W_isCollected_39 rfl ?_
            first | (exfalso; omega) | exact j_zret C hr hlk (by omega) d_W_isCollected_40 (congrArg (fun z => some (Value.int (iI z))) (show (bI (isC WP WL WC wn wk a)) = (0) from bI_0 (fun h => by have := h.2 i (by omega) (by omega); omega))) rfl
    exact lp16 ((wk).toNat + 1) 0 (by omega) (fun j h1 h2 => by omega) (by omega)
  · refine j_iconst (q := 13) C d_W_isCollected_12 rfl ?_
    first | (exfalso; omega) | exact j_zret C hr hlk (by omega) d_W_isCollected_13 (congrArg (fun z => some (Value.int (iI z))) (show (bI (isC WP WL WC wn wk a)) = (0) from bI_0 (fun h => by have := h.1; omega))) rfl
/-- a word is entered -/
def ad (wn : Int) : Prop := wn < 60

set_option maxRecDepth 100000 in
set_option maxHeartbeats 4000000 in
theorem c_W_addCollected {l : Launch} {D : va_G} (kI kZ : ClassId) (x : Nat → Nat) (WP WL WC : Nat → Int) (wn wk : Int) (hW : IW WP WL WC wn wk) : Dt l D (ty2 kI kZ) y_W_addCollected w_W_addCollected { frames := 1, cells := 0, slots := 0, locals := 60 } [.ref (x 1)] (wW kI kZ x WP WL WC wn wk) (some (.int (iI (if wn < 60 then wn else -1)))) (wW kI kZ x (if wn < 60 then va_cpy WC WP (0 : Int).toNat (wn * 8).toNat wk.toNat else WP) (if wn < 60 then uI WL wn.toNat wk else WL) WC (if wn < 60 then wn + 1 else wn) wk) := by
  refine Met.toJ (own := R_W) (QD D (some (.int (iI (if wn < 60 then wn else -1)))) (wW kI kZ x (if wn < 60 then va_cpy WC WP (0 : Int).toNat (wn * 8).toNat wk.toNat else WP) (if wn < 60 then uI WL wn.toNat wk else WL) WC (if wn < 60 then wn + 1 else wn) wk)) mk_W_addCollected rfl (Nat.le_of_ble_eq_true rfl) ?_
  intro p e s m args below meth c A C hr hlk hnm
  show JJ p l e { frames := 1, cells := 0, slots := 0, locals := 60 } s m args below meth c D A 2 (MQ below (QD D (some (.int (iI (if wn < 60 then wn else -1)))) (wW kI kZ x (if wn < 60 then va_cpy WC WP (0 : Int).toNat (wn * 8).toNat wk.toNat else WP) (if wn < 60 then uI WL wn.toNat wk else WL) WC (if wn < 60 then wn + 1 else wn) wk) A) args s 0 0 A) 0 0 0 [(0, .ref (x 1))] [] (wW kI kZ x WP WL WC wn wk)
  obtain ⟨hwn, hwk, hWL, hWP, hWC⟩ := id hW
  refine j_aload_n (q := 1) C 0 rfl d_W_addCollected_0 rfl ?_
  refine j_get (q := 4) C i_W rfl 0 rfl 3 (by decide) rfl rfl fl_W_21 d_W_addCollected_1 rfl ?_
  refine j_bipush (q := 6) C d_W_addCollected_4 rfl rfl ?_
  refine j_icmp_lt C 11 9 d_W_addCollected_6 rfl rfl (by omega) (by omega) (fun c1 => ?_) (fun c1 => ?_)
  · refine j_aload_n (q := 12) C 0 rfl d_W_addCollected_11 rfl ?_
    refine j_get (q := 15) C i_W rfl 0 rfl 3 (by decide) rfl rfl fl_W_21 d_W_addCollected_12 rfl ?_
    refine j_istore_n (q := 16) C [(0, .ref (x 1)), (1, .int (iI (wn)))] rfl (by decide) d_W_addCollected_15 rfl ?_
    refine j_aload_n (q := 17) C 0 rfl d_W_addCollected_16 rfl ?_
    refine j_get (q := 20) C i_W rfl 0 rfl 2 (by decide) rfl rfl fl_W_18 d_W_addCollected_17 rfl ?_
    refine j_iconst (q := 21) C d_W_addCollected_20 rfl ?_
    refine j_aload_n (q := 22) C 0 rfl d_W_addCollected_21 rfl ?_
    refine j_get (q := 25) C i_W rfl 0 rfl 0 (by decide) rfl rfl fl_W_9 d_W_addCollected_22 rfl ?_
    refine j_iload_n (q := 26) C 1 rfl d_W_addCollected_25 rfl ?_
    refine j_bipush (q := 28) C d_W_addCollected_26 rfl rfl ?_
    refine j_imul (q := 29) C d_W_addCollected_28 rfl ?_
    refine j_aload_n (q := 30) C 0 rfl d_W_addCollected_29 rfl ?_
    refine j_get (q := 33) C i_W rfl 0 rfl 4 (by decide) rfl rfl fl_W_25 d_W_addCollected_30 rfl ?_
    refine j_copy (q := 36) C 3 1 0 0 rfl rfl rfl rfl (by decide) (by decide) (by omega) ml_W_50 (Nat.le_of_ble_eq_true rfl) (Nat.le_of_ble_eq_true rfl) (wW kI kZ x (va_cpy WC WP (0 : Int).toNat (wn * 8).toNat wk.toNat) WL WC wn wk) rfl d_W_addCollected_33 rfl ?_
    refine j_aload_n (q := 37) C 0 rfl d_W_addCollected_36 rfl ?_
    refine j_get (q := 40) C i_W rfl 0 rfl 1 (by decide) rfl rfl fl_W_15 d_W_addCollected_37 rfl ?_
    refine j_iload_n (q := 41) C 1 rfl d_W_addCollected_40 rfl ?_
    refine j_aload_n (q := 42) C 0 rfl d_W_addCollected_41 rfl ?_
    refine j_get (q := 45) C i_W rfl 0 rfl 4 (by decide) rfl rfl fl_W_25 d_W_addCollected_42 rfl ?_
    refine j_iast (q := 46) C 2 0 rfl rfl (by decide) (by omega) (wW kI kZ x (va_cpy WC WP (0 : Int).toNat (wn * 8).toNat wk.toNat) (uI WL wn.toNat wk) WC wn wk) rfl d_W_addCollected_45 rfl ?_
    refine j_aload_n (q := 47) C 0 rfl d_W_addCollected_46 rfl ?_
    refine j_dup (q := 48) C rfl d_W_addCollected_47 rfl ?_
    refine j_get (q := 51) C i_W rfl 0 rfl 3 (by decide) rfl rfl fl_W_21 d_W_addCollected_48 rfl ?_
    refine j_iconst (q := 52) C d_W_addCollected_51 rfl ?_
    refine j_iadd (q := 53) C d_W_addCollected_52 rfl ?_
    refine j_put (q := 56) (ty := .int) C i_W rfl t_W t_W_ok n_W 0 rfl 3 (by decide) rfl fl_W_21 rfl (by decide +kernel) rfl rfl (Nat.le_of_ble_eq_true rfl) (wW kI kZ x (va_cpy WC WP (0 : Int).toNat (wn * 8).toNat wk.toNat) (uI WL wn.toNat wk) WC (wn + 1) wk) rfl d_W_addCollected_53 rfl ?_
    refine j_iload_n (q := 57) C 1 rfl d_W_addCollected_56 rfl ?_
    exact j_iret C hr hlk d_W_addCollected_57 (congrArg (fun z => some (Value.int (iI z))) (show (if wn < 60 then wn else -1) = (wn) from by split <;> omega)) (by repeat (first | rfl | (rw [if_pos (by omega)]) | (rw [if_neg (by omega)])))
  · refine j_iconst (q := 10) C d_W_addCollected_9 rfl ?_
    exact j_iret C hr hlk d_W_addCollected_10 (congrArg (fun z => some (Value.int (iI z))) (show (if wn < 60 then wn else -1) = (-1) from by split <;> omega)) (by repeat (first | rfl | (rw [if_pos (by omega)]) | (rw [if_neg (by omega)])))
/-- the least word that the letters collected are; wn when there is none -/
noncomputable def fdC (WP WL WC : Nat → Int) (wn wk : Int) : Int := lst (isC WP WL WC wn wk) wn
theorem fdC_r {WP WL WC : Nat → Int} {wn wk : Int} (h : 0 ≤ wn) : 0 ≤ fdC WP WL WC wn wk ∧ fdC WP WL WC wn wk ≤ wn := by
  unfold fdC
  rcases lst_sp (isC WP WL WC wn wk) wn with ⟨h1, h2, -, -⟩ | ⟨h1, -⟩ <;> omega
/-- the word is entered: it isn't there and there are not 60 -/
def adC (WP WL WC : Nat → Int) (wn wk : Int) : Prop := fdC WP WL WC wn wk = wn ∧ wn < 60
noncomputable def nrC (WP WL WC : Nat → Int) (wn wk : Int) : Int := if fdC WP WL WC wn wk < wn then fdC WP WL WC wn wk else if wn < 60 then wn else -1
noncomputable def wpC (WP WL WC : Nat → Int) (wn wk : Int) : Nat → Int := if fdC WP WL WC wn wk < wn then WP else if wn < 60 then va_cpy WC WP (0 : Int).toNat (wn * 8).toNat wk.toNat else WP
noncomputable def wlC (WP WL WC : Nat → Int) (wn wk : Int) : Nat → Int := if fdC WP WL WC wn wk < wn then WL else if wn < 60 then uI WL wn.toNat wk else WL
noncomputable def wnC (WP WL WC : Nat → Int) (wn wk : Int) : Int := if fdC WP WL WC wn wk < wn then wn else if wn < 60 then wn + 1 else wn

set_option maxRecDepth 100000 in
set_option maxHeartbeats 4000000 in
theorem c_W_numberOfCollected {l : Launch} {D : va_G} (kI kZ : ClassId) (x : Nat → Nat) (WP WL WC : Nat → Int) (wn wk : Int) (hW : IW WP WL WC wn wk) : Dt l D (ty2 kI kZ) y_W_numberOfCollected w_W_numberOfCollected { frames := 3, cells := 0, slots := 0, locals := 81 } [.ref (x 1)] (wW kI kZ x WP WL WC wn wk) (some (.int (iI (nrC WP WL WC wn wk)))) (wW kI kZ x (wpC WP WL WC wn wk) (wlC WP WL WC wn wk) WC (wnC WP WL WC wn wk) wk) := by
  refine Met.toJ (own := R_W) (QD D (some (.int (iI (nrC WP WL WC wn wk)))) (wW kI kZ x (wpC WP WL WC wn wk) (wlC WP WL WC wn wk) WC (wnC WP WL WC wn wk) wk)) mk_W_numberOfCollected rfl (Nat.le_of_ble_eq_true rfl) ?_
  intro p e s m args below meth c A C hr hlk hnm
  show JJ p l e { frames := 3, cells := 0, slots := 0, locals := 81 } s m args below meth c D A 2 (MQ below (QD D (some (.int (iI (nrC WP WL WC wn wk)))) (wW kI kZ x (wpC WP WL WC wn wk) (wlC WP WL WC wn wk) WC (wnC WP WL WC wn wk) wk) A) args s 0 0 A) 0 0 0 [(0, .ref (x 1))] [] (wW kI kZ x WP WL WC wn wk)
  obtain ⟨hwn, hwk, hWL, hWP, hWC⟩ := id hW
  refine j_iconst (q := 1) C d_W_numberOfCollected_0 rfl ?_
  refine j_istore_n (q := 2) C [(0, .ref (x 1)), (1, .int (iI (0)))] rfl (by decide) d_W_numberOfCollected_1 rfl ?_
  have lp2 : ∀ (N : Nat) (i : Int), (0 ≤ i ∧ i ≤ wn) → (∀ j : Int, 0 ≤ j → j < i → ¬ isC WP WL WC wn wk j) → (wn - i).toNat < N → JJ p l e { frames := 3, cells := 0, slots := 0, locals := 81 } s m args below meth c D A 2 (MQ below (QD D (some (.int (iI (nrC WP WL WC wn wk)))) (wW kI kZ x (wpC WP WL WC wn wk) (wlC WP WL WC wn wk) WC (wnC WP WL WC wn wk) wk) A) args s 0 0 A) 0 0 2 [(0, .ref (x 1)), (1, .int (iI (i)))] [] (wW kI kZ x WP WL WC wn wk) := by
    intro N
    induction N with
    | zero =>
      intro i i0 i1 hN
      omega
    | succ N ih2 =>
      intro i i0 i1 hN
      refine j_iload_n (q := 3) C 1 rfl d_W_numberOfCollected_2 rfl ?_
      refine j_aload_n (q := 4) C 0 rfl d_W_numberOfCollected_3 rfl ?_
      refine j_get (q := 7) C i_W rfl 0 rfl 3 (by decide) rfl rfl fl_W_21 d_W_numberOfCollected_4 rfl ?_
      refine j_icmp_ge C 26 10 d_W_numberOfCollected_7 rfl rfl (by omega) (by omega) (fun c1 => ?_) (fun c1 => ?_)
      · have f7 : fdC WP WL WC wn wk = wn := lst_no (fun j h1 h2 => i1 j h1 (by omega))
        refine j_aload_n (q := 27) C 0 rfl d_W_numberOfCollected_26 rfl ?_
        refine j_callV (q := 30) (wr := []) C [] [] (c_W_addCollected kI kZ x WP WL WC wn wk hW) ml_W_43 mk_W_addCollected in_W_addCollected se_W_addCollected rfl rfl rfl [0, 1, 2, 3] [] [0, 1, 2, 3] rfl (by decide) rfl (by decide) (by decide) (wW kI kZ x (if wn < 60 then va_cpy WC WP (0 : Int).toNat (wn * 8).toNat wk.toNat else WP) (if wn < 60 then uI WL wn.toNat wk else WL) WC (if wn < 60 then wn + 1 else wn) wk) rfl (by decide) rfl rfl rfl (Nat.le_of_ble_eq_true rfl) ⟨Nat.le_of_ble_eq_true rfl, Nat.le_of_ble_eq_true rfl⟩ ⟨Nat.le_of_ble_eq_true rfl, Nat.le_of_ble_eq_true rfl⟩ d_W_numberOfCollected_27 rfl ?_
        exact j_iret C hr hlk d_W_numberOfCollected_30 (congrArg (fun z => some (Value.int (iI z))) (show (nrC WP WL WC wn wk) = (if wn < 60 then wn else -1) from by unfold nrC; rw [f7, if_neg (by omega)])) (by unfold wpC wlC wnC; simp only [f7, if_neg (show ¬ wn < wn from by omega)])
      · refine j_aload_n (q := 11) C 0 rfl d_W_numberOfCollected_10 rfl ?_
        refine j_iload_n (q := 12) C 1 rfl d_W_numberOfCollected_11 rfl ?_
        have e12 := bI_r (isC WP WL WC wn wk i)
        refine j_callV (q := 15) (wr := []) C [.int (iI (i))] [] (c_W_isCollected kI kZ x WP WL WC wn wk hW i (by omega)) ml_W_40 mk_W_isCollected in_W_isCollected se_W_isCollected rfl rfl rfl [0, 1, 2, 3] [] [0, 1, 2, 3] rfl (by decide) rfl (by decide) (by decide) (wW kI kZ x WP WL WC wn wk) rfl (by decide) rfl rfl rfl (Nat.le_of_ble_eq_true rfl) ⟨Nat.le_of_ble_eq_true rfl, Nat.le_of_ble_eq_true rfl⟩ ⟨Nat.le_of_ble_eq_true rfl, Nat.le_of_ble_eq_true rfl⟩ d_W_numberOfCollected_12 rfl ?_
        refine j_if_eq C 20 18 d_W_numberOfCollected_15 rfl rfl (by omega) (fun c2 => ?_) (fun c2 => ?_)
        · have c2 := bI_z c2
          refine j_iinc (q := 23) C 1 [(0, .ref (x 1)), (1, .int (iI (i + 1)))] rfl rfl (by decide) d_W_numberOfCollected_20 rfl ?_
          refine j_goto C 2 d_W_numberOfCollected_23 rfl ?_
          exact ih2 (i + 1) (by omega) (fun j h1 h2 => by rcases (show j < i ∨ j = i by omega) with h | h; exact i1 j h1 h; rw [h]; exact c2) (by omega)
        · have c2 := bI_n c2
          have f15 : fdC WP WL WC wn wk = i := lst_at i0.1 (by omega) c2 i1
          refine j_iload_n (q := 19) C 1 rfl d_W_numberOfCollected_18 rfl ?_
          first | (exfalso; omega) | exact j_iret C hr hlk d_W_numberOfCollected_19 (congrArg (fun z => some (Value.int (iI z))) (show (nrC WP WL WC wn wk) = (i) from by unfold nrC; rw [f15, if_pos (by omega)])) (by unfold wpC wlC wnC; rw [f15, if_pos (by omega), if_pos (by omega), if_pos (by omega)])
  exact lp2 ((wn).toNat + 1) 0 (by omega) (fun j h1 h2 => by omega) (by omega)
set_option maxRecDepth 100000 in
set_option maxHeartbeats 4000000 in
theorem c_W_takeCollected {l : Launch} {D : va_G} (kI kZ : ClassId) (x : Nat → Nat) (WP WL WC : Nat → Int) (wn wk : Int) (hW : IW WP WL WC wn wk) : Dt l D (ty2 kI kZ) y_W_takeCollected w_W_takeCollected { frames := 4, cells := 0, slots := 0, locals := 102 } [.ref (x 1)] (wW kI kZ x WP WL WC wn wk) (some (.int (iI (if wk = 0 then -1 else nrC WP WL WC wn wk)))) (wW kI kZ x (if wk = 0 then WP else wpC WP WL WC wn wk) (if wk = 0 then WL else wlC WP WL WC wn wk) WC (if wk = 0 then wn else wnC WP WL WC wn wk) 0) := by
  refine Met.toJ (own := R_W) (QD D (some (.int (iI (if wk = 0 then -1 else nrC WP WL WC wn wk)))) (wW kI kZ x (if wk = 0 then WP else wpC WP WL WC wn wk) (if wk = 0 then WL else wlC WP WL WC wn wk) WC (if wk = 0 then wn else wnC WP WL WC wn wk) 0)) mk_W_takeCollected rfl (Nat.le_of_ble_eq_true rfl) ?_
  intro p e s m args below meth c A C hr hlk hnm
  show JJ p l e { frames := 4, cells := 0, slots := 0, locals := 102 } s m args below meth c D A 2 (MQ below (QD D (some (.int (iI (if wk = 0 then -1 else nrC WP WL WC wn wk)))) (wW kI kZ x (if wk = 0 then WP else wpC WP WL WC wn wk) (if wk = 0 then WL else wlC WP WL WC wn wk) WC (if wk = 0 then wn else wnC WP WL WC wn wk) 0) A) args s 0 0 A) 0 0 0 [(0, .ref (x 1))] [] (wW kI kZ x WP WL WC wn wk)
  obtain ⟨hwn, hwk, hWL, hWP, hWC⟩ := id hW
  refine j_aload_n (q := 1) C 0 rfl d_W_takeCollected_0 rfl ?_
  refine j_get (q := 4) C i_W rfl 0 rfl 4 (by decide) rfl rfl fl_W_25 d_W_takeCollected_1 rfl ?_
  refine j_if_ne C 11 7 d_W_takeCollected_4 rfl rfl (by omega) (fun c1 => ?_) (fun c1 => ?_)
  · refine j_aload_n (q := 12) C 0 rfl d_W_takeCollected_11 rfl ?_
    refine j_callV (q := 15) (wr := []) C [] [] (c_W_numberOfCollected kI kZ x WP WL WC wn wk hW) ml_W_32 mk_W_numberOfCollected in_W_numberOfCollected se_W_numberOfCollected rfl rfl rfl [0, 1, 2, 3] [] [0, 1, 2, 3] rfl (by decide) rfl (by decide) (by decide) (wW kI kZ x (wpC WP WL WC wn wk) (wlC WP WL WC wn wk) WC (wnC WP WL WC wn wk) wk) rfl (by decide) rfl rfl rfl (Nat.le_of_ble_eq_true rfl) ⟨Nat.le_of_ble_eq_true rfl, Nat.le_of_ble_eq_true rfl⟩ ⟨Nat.le_of_ble_eq_true rfl, Nat.le_of_ble_eq_true rfl⟩ d_W_takeCollected_12 rfl ?_
    refine j_istore_n (q := 16) C [(0, .ref (x 1)), (1, .int (iI (nrC WP WL WC wn wk)))] rfl (by decide) d_W_takeCollected_15 rfl ?_
    refine j_aload_n (q := 17) C 0 rfl d_W_takeCollected_16 rfl ?_
    refine j_iconst (q := 18) C d_W_takeCollected_17 rfl ?_
    refine j_put (q := 21) (ty := .int) C i_W rfl t_W t_W_ok n_W 0 rfl 4 (by decide) rfl fl_W_25 rfl (by decide +kernel) rfl rfl (Nat.le_of_ble_eq_true rfl) (wW kI kZ x (wpC WP WL WC wn wk) (wlC WP WL WC wn wk) WC (wnC WP WL WC wn wk) 0) rfl d_W_takeCollected_18 rfl ?_
    refine j_iload_n (q := 22) C 1 rfl d_W_takeCollected_21 rfl ?_
    exact j_iret C hr hlk d_W_takeCollected_22 (congrArg (fun z => some (Value.int (iI z))) (show (if wk = 0 then -1 else nrC WP WL WC wn wk) = (nrC WP WL WC wn wk) from by split <;> first | rfl | omega)) (by repeat (first | rfl | (rw [if_pos (by omega)]) | (rw [if_neg (by omega)])))
  · refine j_iconst (q := 8) C d_W_takeCollected_7 rfl ?_
    refine j_goto C 15 d_W_takeCollected_8 rfl ?_
    refine j_istore_n (q := 16) C [(0, .ref (x 1)), (1, .int (iI (-1)))] rfl (by decide) d_W_takeCollected_15 rfl ?_
    refine j_aload_n (q := 17) C 0 rfl d_W_takeCollected_16 rfl ?_
    refine j_iconst (q := 18) C d_W_takeCollected_17 rfl ?_
    refine j_put (q := 21) (ty := .int) C i_W rfl t_W t_W_ok n_W 0 rfl 4 (by decide) rfl fl_W_25 rfl (by decide +kernel) rfl rfl (Nat.le_of_ble_eq_true rfl) (wW kI kZ x WP WL WC wn 0) rfl d_W_takeCollected_18 rfl ?_
    refine j_iload_n (q := 22) C 1 rfl d_W_takeCollected_21 rfl ?_
    exact j_iret C hr hlk d_W_takeCollected_22 (congrArg (fun z => some (Value.int (iI z))) (show (if wk = 0 then -1 else nrC WP WL WC wn wk) = (-1) from by split <;> first | rfl | omega)) (by repeat (first | rfl | (rw [if_pos (by omega)]) | (rw [if_neg (by omega)])))
