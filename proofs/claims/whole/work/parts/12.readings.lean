def IR (RP RS : Nat → Int) (rn : Int) : Prop := (0 ≤ rn ∧ rn ≤ 200) ∧ (∀ j, -1 ≤ RP j ∧ RP j < 26) ∧ ∀ j, 0 ≤ RS j ∧ RS j < 200
def IY (SP : Nat → Int) : Prop := ∀ j, -1 ≤ SP j ∧ SP j < 26
def rdAt (RP RS : Nat → Int) (rn k a : Int) : Int := if (0 ≤ k ∧ k < rn) ∧ (0 ≤ a ∧ a < 26) then RP (RS k.toNat * 26 + a).toNat else -1
theorem rdAt_r {RP RS : Nat → Int} {rn : Int} (h : IR RP RS rn) (k a : Int) : -1 ≤ rdAt RP RS rn k a ∧ rdAt RP RS rn k a < 26 := by
  have := h.2.1 (RS k.toNat * 26 + a).toNat
  unfold rdAt
  split <;> omega
def hsR (rn k : Int) : Int := if 0 ≤ k ∧ k < rn then 1 else 0
theorem hsR_r (rn k : Int) : 0 ≤ hsR rn k ∧ hsR rn k ≤ 1 := by unfold hsR; split <;> omega
theorem hsR_0 {rn k : Int} (h : hsR rn k = 0) : ¬ (0 ≤ k ∧ k < rn) := by unfold hsR at h; split at h <;> omega
theorem hsR_1 {rn k : Int} (h : ¬ hsR rn k = 0) : 0 ≤ k ∧ k < rn := by unfold hsR at h; split at h <;> omega
noncomputable def cmP (RP RS : Nat → Int) (rn a : Int) : Int := ifP (∀ k, 1 ≤ k → k < rn → rdAt RP RS rn k a = rdAt RP RS rn 0 a) (rdAt RP RS rn 0 a) (-1)
theorem cmP_r {RP RS : Nat → Int} {rn : Int} (h : IR RP RS rn) (a : Int) : -1 ≤ cmP RP RS rn a ∧ cmP RP RS rn a < 26 := by
  have := rdAt_r h 0 a
  by_cases c : ∀ k, 1 ≤ k → k < rn → rdAt RP RS rn k a = rdAt RP RS rn 0 a
  · unfold cmP; rw [ifP_t c]; exact this
  · unfold cmP; rw [ifP_f c]; omega
/-- f is ahead of g: the lesser at the least place where they differ -/
def lxB (f g : Int → Int) : Prop := ∃ n, 0 ≤ n ∧ n < 26 ∧ f n < g n ∧ ∀ m, 0 ≤ m → m < n → f m = g m
theorem lx_lt {f g : Int → Int} {i : Int} (h0 : 0 ≤ i ∧ i < 26) (he : ∀ m, 0 ≤ m → m < i → f m = g m) (hl : f i < g i) : lxB f g := ⟨i, h0.1, h0.2, hl, he⟩
theorem lx_ge {f g : Int → Int} {i : Int} (h0 : 0 ≤ i ∧ i < 26) (he : ∀ m, 0 ≤ m → m < i → f m = g m) (hl : g i < f i) : ¬ lxB f g := by
  intro ⟨n, h1, h2, h3, h4⟩
  rcases Int.lt_trichotomy n i with h | h | h
  · have := he n h1 h; omega
  · rw [h] at h3; omega
  · have := h4 i h0.1 h; omega
theorem lx_eq {f g : Int → Int} (he : ∀ m, 0 ≤ m → m < 26 → f m = g m) : ¬ lxB f g := by
  intro ⟨n, h1, h2, h3, h4⟩
  have := he n h1 h2
  omega
/-- reading k, of those kept, is ahead of the one that SP holds -/
def ahd (RP RS SP : Nat → Int) (k : Int) : Prop := lxB (fun n => RP (RS k.toNat * 26 + n).toNat) (fun n => SP n.toNat)
noncomputable def psR (RP RS SP : Nat → Int) (rn : Int) : Int := lst (fun k => ¬ ahd RP RS SP k) rn
theorem psR_r {RP RS SP : Nat → Int} {rn : Int} (h : 0 ≤ rn) : 0 ≤ psR RP RS SP rn ∧ psR RP RS SP rn ≤ rn := by
  unfold psR
  rcases lst_sp (fun k => ¬ ahd RP RS SP k) rn with ⟨h1, h2, -, -⟩ | ⟨h1, -⟩ <;> omega
def monR (RP RS SP : Nat → Int) (rn : Int) : Prop := ∀ i j, 0 ≤ i → i ≤ j → j < rn → ahd RP RS SP j → ahd RP RS SP i

set_option maxRecDepth 100000 in
set_option maxHeartbeats 4000000 in
theorem c_R_forget {l : Launch} {D : va_G} (kI kZ : ClassId) (x : Nat → Nat) (RP RS : Nat → Int) (rn : Int) (hR : IR RP RS rn) : Dt l D (ty2 kI kZ) y_R_forget w_R_forget { frames := 0, cells := 0, slots := 0, locals := 0 } [.ref (x 13)] (wR kI kZ x RP RS rn) none (wR kI kZ x RP RS 0) := by
  refine Met.toJ (own := R_R) (QD D none (wR kI kZ x RP RS 0)) mk_R_forget rfl (Nat.le_of_ble_eq_true rfl) ?_
  intro p e s m args below meth c A C hr hlk hnm
  show JJ p l e { frames := 0, cells := 0, slots := 0, locals := 0 } s m args below meth c D A 1 (MQ below (QD D none (wR kI kZ x RP RS 0) A) args s 0 0 A) 0 0 0 [(0, .ref (x 13))] [] (wR kI kZ x RP RS rn)
  refine j_aload_n (q := 1) C 0 rfl d_R_forget_0 rfl ?_
  refine j_iconst (q := 2) C d_R_forget_1 rfl ?_
  refine j_put (q := 5) (ty := .int) C i_R rfl t_R t_R_ok n_R 0 rfl 2 (by decide) rfl fl_R_18 rfl (by decide +kernel) rfl rfl (Nat.le_of_ble_eq_true rfl) (wR kI kZ x RP RS 0) rfl d_R_forget_2 rfl ?_
  exact j_vret C hr hlk d_R_forget_5 rfl
set_option maxRecDepth 100000 in
set_option maxHeartbeats 4000000 in
theorem c_R_size {l : Launch} {D : va_G} (kI kZ : ClassId) (x : Nat → Nat) (RP RS : Nat → Int) (rn : Int) (hR : IR RP RS rn) : Dt l D (ty2 kI kZ) y_R_size w_R_size { frames := 0, cells := 0, slots := 0, locals := 0 } [.ref (x 13)] (wR kI kZ x RP RS rn) (some (.int (iI (rn)))) (wR kI kZ x RP RS rn) := by
  refine Met.toJ (own := R_R) (QD D (some (.int (iI (rn)))) (wR kI kZ x RP RS rn)) mk_R_size rfl (Nat.le_of_ble_eq_true rfl) ?_
  intro p e s m args below meth c A C hr hlk hnm
  show JJ p l e { frames := 0, cells := 0, slots := 0, locals := 0 } s m args below meth c D A 1 (MQ below (QD D (some (.int (iI (rn)))) (wR kI kZ x RP RS rn) A) args s 0 0 A) 0 0 0 [(0, .ref (x 13))] [] (wR kI kZ x RP RS rn)
  refine j_aload_n (q := 1) C 0 rfl d_R_size_0 rfl ?_
  refine j_get (q := 4) C i_R rfl 0 rfl 2 (by decide) rfl rfl fl_R_18 d_R_size_1 rfl ?_
  exact j_iret C hr hlk d_R_size_4 rfl rfl
set_option maxRecDepth 100000 in
set_option maxHeartbeats 4000000 in
theorem c_R_has {l : Launch} {D : va_G} (kI kZ : ClassId) (x : Nat → Nat) (RP RS : Nat → Int) (rn : Int) (hR : IR RP RS rn) (a : Int) (ha : (-2147483648 ≤ a ∧ a < 2147483648)) : Dt l D (ty2 kI kZ) y_R_has w_R_has { frames := 0, cells := 0, slots := 0, locals := 0 } [.ref (x 13), .int (iI (a))] (wR kI kZ x RP RS rn) (some (.int (iI (hsR rn a)))) (wR kI kZ x RP RS rn) := by
  refine Met.toJ (own := R_R) (QD D (some (.int (iI (hsR rn a)))) (wR kI kZ x RP RS rn)) mk_R_has rfl (Nat.le_of_ble_eq_true rfl) ?_
  intro p e s m args below meth c A C hr hlk hnm
  show JJ p l e { frames := 0, cells := 0, slots := 0, locals := 0 } s m args below meth c D A 2 (MQ below (QD D (some (.int (iI (hsR rn a)))) (wR kI kZ x RP RS rn) A) args s 0 0 A) 0 0 0 [(0, .ref (x 13)), (1, .int (iI (a)))] [] (wR kI kZ x RP RS rn)
  obtain ⟨hrn, hRP, hRS⟩ := id hR
  refine j_iload_n (q := 1) C 1 rfl d_R_has_0 rfl ?_
  refine j_if_lt C 16 4 d_R_has_1 rfl rfl (by omega) (fun c1 => ?_) (fun c1 => ?_)
  · refine j_iconst (q := 17) C d_R_has_16 rfl ?_
    exact j_zret C hr hlk (by omega) d_R_has_17 (congrArg (fun z => some (Value.int (iI z))) (show (hsR rn a) = (0) from by unfold hsR; split <;> omega)) rfl
  · refine j_iload_n (q := 5) C 1 rfl d_R_has_4 rfl ?_
    refine j_aload_n (q := 6) C 0 rfl d_R_has_5 rfl ?_
    refine j_get (q := 9) C i_R rfl 0 rfl 2 (by decide) rfl rfl fl_R_18 d_R_has_6 rfl ?_
    refine j_icmp_ge C 16 12 d_R_has_9 rfl rfl (by omega) (by omega) (fun c2 => ?_) (fun c2 => ?_)
    · refine j_iconst (q := 17) C d_R_has_16 rfl ?_
      first | (exfalso; omega) | exact j_zret C hr hlk (by omega) d_R_has_17 (congrArg (fun z => some (Value.int (iI z))) (show (hsR rn a) = (0) from by unfold hsR; split <;> omega)) rfl
    · refine j_iconst (q := 13) C d_R_has_12 rfl ?_
      refine j_goto C 17 d_R_has_13 rfl ?_
      first | (exfalso; omega) | exact j_zret C hr hlk (by omega) d_R_has_17 (congrArg (fun z => some (Value.int (iI z))) (show (hsR rn a) = (1) from by unfold hsR; split <;> omega)) rfl
set_option maxRecDepth 100000 in
set_option maxHeartbeats 4000000 in
theorem c_R_placeIn {l : Launch} {D : va_G} (kI kZ : ClassId) (x : Nat → Nat) (RP RS : Nat → Int) (rn : Int) (hR : IR RP RS rn) (k a : Int) (hk : (-2147483648 ≤ k ∧ k < 2147483648)) (ha : (-2147483648 ≤ a ∧ a < 2147483648)) : Dt l D (ty2 kI kZ) y_R_placeIn w_R_placeIn { frames := 1, cells := 0, slots := 0, locals := 21 } [.ref (x 13), .int (iI (k)), .int (iI (a))] (wR kI kZ x RP RS rn) (some (.int (iI (rdAt RP RS rn k a)))) (wR kI kZ x RP RS rn) := by
  refine Met.toJ (own := R_R) (QD D (some (.int (iI (rdAt RP RS rn k a)))) (wR kI kZ x RP RS rn)) mk_R_placeIn rfl (Nat.le_of_ble_eq_true rfl) ?_
  intro p e s m args below meth c A C hr hlk hnm
  show JJ p l e { frames := 1, cells := 0, slots := 0, locals := 21 } s m args below meth c D A 3 (MQ below (QD D (some (.int (iI (rdAt RP RS rn k a)))) (wR kI kZ x RP RS rn) A) args s 0 0 A) 0 0 0 [(0, .ref (x 13)), (1, .int (iI (k))), (2, .int (iI (a)))] [] (wR kI kZ x RP RS rn)
  obtain ⟨hrn, hRP, hRS⟩ := id hR
  refine j_aload_n (q := 1) C 0 rfl d_R_placeIn_0 rfl ?_
  refine j_iload_n (q := 2) C 1 rfl d_R_placeIn_1 rfl ?_
  have e2 := hsR_r rn k
  refine j_callV (q := 5) (wr := []) C [.int (iI (k))] [] (c_R_has kI kZ x RP RS rn hR k (by omega)) ml_R_22 mk_R_has in_R_has se_R_has rfl rfl rfl [0, 1, 2] [] [0, 1, 2] rfl (by decide) rfl (by decide) (by decide) (wR kI kZ x RP RS rn) rfl (by decide) rfl rfl rfl (Nat.le_of_ble_eq_true rfl) ⟨Nat.le_of_ble_eq_true rfl, Nat.le_of_ble_eq_true rfl⟩ ⟨Nat.le_of_ble_eq_true rfl, Nat.le_of_ble_eq_true rfl⟩ d_R_placeIn_2 rfl ?_
  refine j_if_eq C 34 8 d_R_placeIn_5 rfl rfl (by omega) (fun c1 => ?_) (fun c1 => ?_)
  · have c1 := hsR_0 c1
    refine j_iconst (q := 35) C d_R_placeIn_34 rfl ?_
    exact j_iret C hr hlk d_R_placeIn_35 (congrArg (fun z => some (Value.int (iI z))) (show (rdAt RP RS rn k a) = (-1) from by unfold rdAt; split <;> first | rfl | omega)) rfl
  · have c1 := hsR_1 c1
    refine j_iload_n (q := 9) C 2 rfl d_R_placeIn_8 rfl ?_
    have e9 := bP_r a
    refine j_callN (q := 12) (wr := wR kI kZ x RP RS rn) C [.int (iI (a))] [] (c_C_isNumber kI kZ x a (by omega)) nl_R_26 mk_C_isNumber st_C_isNumber [] [0, 1, 2] [0, 1, 2] rfl (by decide) rfl (by decide) (by decide) (wR kI kZ x RP RS rn) rfl (by decide) rfl rfl rfl (Nat.le_of_ble_eq_true rfl) ⟨Nat.le_of_ble_eq_true rfl, Nat.le_of_ble_eq_true rfl⟩ ⟨Nat.le_of_ble_eq_true rfl, Nat.le_of_ble_eq_true rfl⟩ d_R_placeIn_9 rfl ?_
    refine j_if_eq C 34 15 d_R_placeIn_12 rfl rfl (by omega) (fun c2 => ?_) (fun c2 => ?_)
    · have c2 := bP_0 c2
      refine j_iconst (q := 35) C d_R_placeIn_34 rfl ?_
      first | (exfalso; omega) | exact j_iret C hr hlk d_R_placeIn_35 (congrArg (fun z => some (Value.int (iI z))) (show (rdAt RP RS rn k a) = (-1) from by unfold rdAt; split <;> first | rfl | omega)) rfl
    · have c2 := bP_1 c2
      refine j_aload_n (q := 16) C 0 rfl d_R_placeIn_15 rfl ?_
      refine j_get (q := 19) C i_R rfl 0 rfl 0 (by decide) rfl rfl fl_R_9 d_R_placeIn_16 rfl ?_
      refine j_aload_n (q := 20) C 0 rfl d_R_placeIn_19 rfl ?_
      refine j_get (q := 23) C i_R rfl 0 rfl 1 (by decide) rfl rfl fl_R_15 d_R_placeIn_20 rfl ?_
      refine j_iload_n (q := 24) C 1 rfl d_R_placeIn_23 rfl ?_
      refine j_iald (q := 25) C 2 0 rfl rfl (by decide) (by omega) d_R_placeIn_24 rfl ?_
      have h24 := hRS k.toNat
      refine j_bipush (q := 27) C d_R_placeIn_25 rfl rfl ?_
      refine j_imul (q := 28) C d_R_placeIn_27 rfl ?_
      refine j_iload_n (q := 29) C 2 rfl d_R_placeIn_28 rfl ?_
      refine j_iadd (q := 30) C d_R_placeIn_29 rfl ?_
      refine j_iald (q := 31) C 1 0 rfl rfl (by decide) (by omega) d_R_placeIn_30 rfl ?_
      have h30 := hRP (((RS k.toNat) * 26) + a).toNat
      refine j_goto C 35 d_R_placeIn_31 rfl ?_
      first | (exfalso; omega) | exact j_iret C hr hlk d_R_placeIn_35 (congrArg (fun z => some (Value.int (iI z))) (show (rdAt RP RS rn k a) = (RP (((RS k.toNat) * 26) + a).toNat) from by unfold rdAt; split <;> first | rfl | omega)) rfl
set_option maxRecDepth 100000 in
set_option maxHeartbeats 4000000 in
theorem c_R_commonPlace {l : Launch} {D : va_G} (kI kZ : ClassId) (x : Nat → Nat) (RP RS : Nat → Int) (rn : Int) (hR : IR RP RS rn) (a : Int) (ha : (-2147483648 ≤ a ∧ a < 2147483648)) : Dt l D (ty2 kI kZ) y_R_commonPlace w_R_commonPlace { frames := 2, cells := 0, slots := 0, locals := 43 } [.ref (x 13), .int (iI (a))] (wR kI kZ x RP RS rn) (some (.int (iI (cmP RP RS rn a)))) (wR kI kZ x RP RS rn) := by
  refine Met.toJ (own := R_R) (QD D (some (.int (iI (cmP RP RS rn a)))) (wR kI kZ x RP RS rn)) mk_R_commonPlace rfl (Nat.le_of_ble_eq_true rfl) ?_
  intro p e s m args below meth c A C hr hlk hnm
  show JJ p l e { frames := 2, cells := 0, slots := 0, locals := 43 } s m args below meth c D A 4 (MQ below (QD D (some (.int (iI (cmP RP RS rn a)))) (wR kI kZ x RP RS rn) A) args s 0 0 A) 0 0 0 [(0, .ref (x 13)), (1, .int (iI (a)))] [] (wR kI kZ x RP RS rn)
  obtain ⟨hrn, hRP, hRS⟩ := id hR
  refine j_aload_n (q := 1) C 0 rfl d_R_commonPlace_0 rfl ?_
  refine j_iconst (q := 2) C d_R_commonPlace_1 rfl ?_
  refine j_iload_n (q := 3) C 1 rfl d_R_commonPlace_2 rfl ?_
  have e3 := rdAt_r hR 0 a
  refine j_callV (q := 6) (wr := []) C [.int (iI (0)), .int (iI (a))] [] (c_R_placeIn kI kZ x RP RS rn hR 0 a (by omega) (by omega)) ml_R_29 mk_R_placeIn in_R_placeIn se_R_placeIn rfl rfl rfl [0, 1, 2] [] [0, 1, 2] rfl (by decide) rfl (by decide) (by decide) (wR kI kZ x RP RS rn) rfl (by decide) rfl rfl rfl (Nat.le_of_ble_eq_true rfl) ⟨Nat.le_of_ble_eq_true rfl, Nat.le_of_ble_eq_true rfl⟩ ⟨Nat.le_of_ble_eq_true rfl, Nat.le_of_ble_eq_true rfl⟩ d_R_commonPlace_3 rfl ?_
  refine j_istore_n (q := 7) C [(0, .ref (x 13)), (1, .int (iI (a))), (2, .int (iI (rdAt RP RS rn 0 a)))] rfl (by decide) d_R_commonPlace_6 rfl ?_
  refine j_iconst (q := 8) C d_R_commonPlace_7 rfl ?_
  refine j_istore_n (q := 9) C [(0, .ref (x 13)), (1, .int (iI (a))), (2, .int (iI (rdAt RP RS rn 0 a))), (3, .int (iI (1)))] rfl (by decide) d_R_commonPlace_8 rfl ?_
  have lp9 : ∀ (N : Nat) (i : Int), (1 ≤ i ∧ i ≤ 201) → (∀ k : Int, 1 ≤ k → k < i → rdAt RP RS rn k a = rdAt RP RS rn 0 a) → (201 - i).toNat < N → JJ p l e { frames := 2, cells := 0, slots := 0, locals := 43 } s m args below meth c D A 4 (MQ below (QD D (some (.int (iI (cmP RP RS rn a)))) (wR kI kZ x RP RS rn) A) args s 0 0 A) 0 0 9 [(0, .ref (x 13)), (1, .int (iI (a))), (2, .int (iI (rdAt RP RS rn 0 a))), (3, .int (iI (i)))] [] (wR kI kZ x RP RS rn) := by
    intro N
    induction N with
    | zero =>
      intro i i0 i1 hN
      omega
    | succ N ih9 =>
      intro i i0 i1 hN
      refine j_iload_n (q := 10) C 3 rfl d_R_commonPlace_9 rfl ?_
      refine j_aload_n (q := 11) C 0 rfl d_R_commonPlace_10 rfl ?_
      refine j_get (q := 14) C i_R rfl 0 rfl 2 (by decide) rfl rfl fl_R_18 d_R_commonPlace_11 rfl ?_
      refine j_icmp_ge C 35 17 d_R_commonPlace_14 rfl rfl (by omega) (by omega) (fun c1 => ?_) (fun c1 => ?_)
      · refine j_iload_n (q := 36) C 2 rfl d_R_commonPlace_35 rfl ?_
        exact j_iret C hr hlk d_R_commonPlace_36 (congrArg (fun z => some (Value.int (iI z))) (show (cmP RP RS rn a) = (rdAt RP RS rn 0 a) from by unfold cmP; rw [ifP_t (fun k h1 h2 => i1 k h1 (by omega))])) rfl
      · refine j_aload_n (q := 18) C 0 rfl d_R_commonPlace_17 rfl ?_
        refine j_iload_n (q := 19) C 3 rfl d_R_commonPlace_18 rfl ?_
        refine j_iload_n (q := 20) C 1 rfl d_R_commonPlace_19 rfl ?_
        have e20 := rdAt_r hR i a
        refine j_callV (q := 23) (wr := []) C [.int (iI (i)), .int (iI (a))] [] (c_R_placeIn kI kZ x RP RS rn hR i a (by omega) (by omega)) ml_R_29 mk_R_placeIn in_R_placeIn se_R_placeIn rfl rfl rfl [0, 1, 2] [] [0, 1, 2] rfl (by decide) rfl (by decide) (by decide) (wR kI kZ x RP RS rn) rfl (by decide) rfl rfl rfl (Nat.le_of_ble_eq_true rfl) ⟨Nat.le_of_ble_eq_true rfl, Nat.le_of_ble_eq_true rfl⟩ ⟨Nat.le_of_ble_eq_true rfl, Nat.le_of_ble_eq_true rfl⟩ d_R_commonPlace_20 rfl ?_
        refine j_iload_n (q := 24) C 2 rfl d_R_commonPlace_23 rfl ?_
        refine j_icmp_eq C 29 27 d_R_commonPlace_24 rfl rfl (by omega) (by omega) (fun c2 => ?_) (fun c2 => ?_)
        · refine j_iinc (q := 32) C 3 [(0, .ref (x 13)), (1, .int (iI (a))), (2, .int (iI (rdAt RP RS rn 0 a))), (3, .int (iI (i + 1)))] rfl rfl (by decide) d_R_commonPlace_29 rfl ?_
          refine j_goto C 9 d_R_commonPlace_32 rfl ?_
          exact ih9 (i + 1) (by omega) (fun k h1 h2 => by rcases (show k < i ∨ k = i by omega) with h | h; exact i1 k h1 h; rw [h]; omega) (by omega)
        · refine j_iconst (q := 28) C d_R_commonPlace_27 rfl ?_
          first | (exfalso; omega) | exact j_iret C hr hlk d_R_commonPlace_28 (congrArg (fun z => some (Value.int (iI z))) (show (cmP RP RS rn a) = (-1) from by unfold cmP; rw [ifP_f (fun h => by have := h i (by omega) (by omega); omega)])) rfl
  exact lp9 201 1 (by omega) (fun k h1 h2 => by omega) (by omega)
set_option maxRecDepth 100000 in
set_option maxHeartbeats 4000000 in
theorem c_R_isAhead {l : Launch} {D : va_G} (kI kZ : ClassId) (x : Nat → Nat) (RP RS : Nat → Int) (rn : Int) (hR : IR RP RS rn) (SP : Nat → Int) (hY : IY SP) (k : Int) (hk : 0 ≤ k ∧ k < rn) : Dt l D (ty2 kI kZ) y_R_isAhead w_R_isAhead { frames := 1, cells := 0, slots := 0, locals := 21 } [.ref (x 13), .int (iI (k)), .ref (x 17)] (wR kI kZ x RP RS rn ++ wY kI kZ x SP) (some (.int (iI (bI (ahd RP RS SP k))))) (wR kI kZ x RP RS rn ++ wY kI kZ x SP) := by
  refine Met.toJ (own := R_R) (QD D (some (.int (iI (bI (ahd RP RS SP k))))) (wR kI kZ x RP RS rn ++ wY kI kZ x SP)) mk_R_isAhead rfl (Nat.le_of_ble_eq_true rfl) ?_
  intro p e s m args below meth c A C hr hlk hnm
  show JJ p l e { frames := 1, cells := 0, slots := 0, locals := 21 } s m args below meth c D A 6 (MQ below (QD D (some (.int (iI (bI (ahd RP RS SP k))))) (wR kI kZ x RP RS rn ++ wY kI kZ x SP) A) args s 0 0 A) 0 0 0 [(0, .ref (x 13)), (1, .int (iI (k))), (2, .ref (x 17))] [] (wR kI kZ x RP RS rn ++ wY kI kZ x SP)
  obtain ⟨hrn, hRP, hRS⟩ := id hR
  refine j_aload_n (q := 1) C 0 rfl d_R_isAhead_0 rfl ?_
  refine j_iload_n (q := 2) C 1 rfl d_R_isAhead_1 rfl ?_
  have e2 := hsR_r rn k
  refine j_callV (q := 5) (wr := wY kI kZ x SP) C [.int (iI (k))] [] (c_R_has kI kZ x RP RS rn hR k (by omega)) ml_R_22 mk_R_has in_R_has se_R_has rfl rfl rfl [0, 1, 2] [3] [1, 2, 3, 0] rfl (by decide) rfl (by decide) (by decide) (wR kI kZ x RP RS rn ++ wY kI kZ x SP) rfl (by decide) rfl rfl rfl (Nat.le_of_ble_eq_true rfl) ⟨Nat.le_of_ble_eq_true rfl, Nat.le_of_ble_eq_true rfl⟩ ⟨Nat.le_of_ble_eq_true rfl, Nat.le_of_ble_eq_true rfl⟩ d_R_isAhead_2 rfl ?_
  refine j_if_ne C 10 8 d_R_isAhead_5 rfl rfl (by omega) (fun c1 => ?_) (fun c1 => ?_)
  · have c1 := hsR_1 c1
    refine j_aload_n (q := 11) C 0 rfl d_R_isAhead_10 rfl ?_
    refine j_get (q := 14) C i_R rfl 0 rfl 1 (by decide) rfl rfl fl_R_15 d_R_isAhead_11 rfl ?_
    refine j_iload_n (q := 15) C 1 rfl d_R_isAhead_14 rfl ?_
    refine j_iald (q := 16) C 2 0 rfl rfl (by decide) (by omega) d_R_isAhead_15 rfl ?_
    have h15 := hRS k.toNat
    refine j_bipush (q := 18) C d_R_isAhead_16 rfl rfl ?_
    refine j_imul (q := 19) C d_R_isAhead_18 rfl ?_
    refine j_istore_n (q := 20) C [(0, .ref (x 13)), (1, .int (iI (k))), (2, .ref (x 17)), (3, .int (iI ((RS k.toNat) * 26)))] rfl (by decide) d_R_isAhead_19 rfl ?_
    refine j_iconst (q := 21) C d_R_isAhead_20 rfl ?_
    refine j_istore (q := 23) C [(0, .ref (x 13)), (1, .int (iI (k))), (2, .ref (x 17)), (3, .int (iI ((RS k.toNat) * 26))), (4, .int (iI (0)))] rfl (by decide) d_R_isAhead_21 rfl ?_
    have lp23 : ∀ (N : Nat) (i : Int), (0 ≤ i ∧ i ≤ 26) → (∀ m : Int, 0 ≤ m → m < i → (fun n => RP (RS k.toNat * 26 + n).toNat) m = (fun n => SP n.toNat) m) → (26 - i).toNat < N → JJ p l e { frames := 1, cells := 0, slots := 0, locals := 21 } s m args below meth c D A 6 (MQ below (QD D (some (.int (iI (bI (ahd RP RS SP k))))) (wR kI kZ x RP RS rn ++ wY kI kZ x SP) A) args s 0 0 A) 0 0 23 [(0, .ref (x 13)), (1, .int (iI (k))), (2, .ref (x 17)), (3, .int (iI ((RS k.toNat) * 26))), (4, .int (iI (i)))] [] (wR kI kZ x RP RS rn ++ wY kI kZ x SP) := by
      intro N
      induction N with
      | zero =>
        intro i i0 i1 hN
        omega
      | succ N ih23 =>
        intro i i0 i1 hN
        refine j_iload (q := 25) C 4 rfl d_R_isAhead_23 rfl ?_
        refine j_bipush (q := 27) C d_R_isAhead_25 rfl rfl ?_
        refine j_icmp_ge C 71 30 d_R_isAhead_27 rfl rfl (by omega) (by omega) (fun c2 => ?_) (fun c2 => ?_)
        · refine j_iconst (q := 72) C d_R_isAhead_71 rfl ?_
          first | (exfalso; omega) | exact j_zret C hr hlk (by omega) d_R_isAhead_72 (congrArg (fun z => some (Value.int (iI z))) (show (bI (ahd RP RS SP k)) = (0) from bI_0 (lx_eq (fun m h1 h2 => i1 m h1 (by omega))))) rfl
        · refine j_aload_n (q := 31) C 0 rfl d_R_isAhead_30 rfl ?_
          refine j_get (q := 34) C i_R rfl 0 rfl 0 (by decide) rfl rfl fl_R_9 d_R_isAhead_31 rfl ?_
          refine j_iload_n (q := 35) C 3 rfl d_R_isAhead_34 rfl ?_
          refine j_iload (q := 37) C 4 rfl d_R_isAhead_35 rfl ?_
          refine j_iadd (q := 38) C d_R_isAhead_37 rfl ?_
          refine j_iald (q := 39) C 1 0 rfl rfl (by decide) (by omega) d_R_isAhead_38 rfl ?_
          have h38 := hRP (((RS k.toNat) * 26) + i).toNat
          refine j_istore (q := 41) C [(0, .ref (x 13)), (1, .int (iI (k))), (2, .ref (x 17)), (3, .int (iI ((RS k.toNat) * 26))), (4, .int (iI (i))), (5, .int (iI (RP (((RS k.toNat) * 26) + i).toNat)))] rfl (by decide) d_R_isAhead_39 rfl ?_
          refine j_iload (q := 43) C 5 rfl d_R_isAhead_41 rfl ?_
          refine j_aload_n (q := 44) C 2 rfl d_R_isAhead_43 rfl ?_
          refine j_iload (q := 46) C 4 rfl d_R_isAhead_44 rfl ?_
          refine j_iald (q := 47) C 3 0 rfl rfl (by decide) (by omega) d_R_isAhead_46 rfl ?_
          have h46 := hY i.toNat
          refine j_icmp_eq C 65 50 d_R_isAhead_47 rfl rfl (by omega) (by omega) (fun c3 => ?_) (fun c3 => ?_)
          · refine j_iinc (q := 68) C 4 [(0, .ref (x 13)), (1, .int (iI (k))), (2, .ref (x 17)), (3, .int (iI ((RS k.toNat) * 26))), (4, .int (iI (i + 1))), (5, .int (iI (RP (((RS k.toNat) * 26) + i).toNat)))] rfl rfl (by decide) d_R_isAhead_65 rfl ?_
            refine j_goto C 23 d_R_isAhead_68 rfl ?_
            refine j_lv [0, 1, 2, 3, 4] rfl ?_
            exact ih23 (i + 1) (by omega) (fun m h1 h2 => by rcases (show m < i ∨ m = i by omega) with h | h; exact i1 m h1 h; rw [h]; dsimp only; omega) (by omega)
          · refine j_iload (q := 52) C 5 rfl d_R_isAhead_50 rfl ?_
            refine j_aload_n (q := 53) C 2 rfl d_R_isAhead_52 rfl ?_
            refine j_iload (q := 55) C 4 rfl d_R_isAhead_53 rfl ?_
            refine j_iald (q := 56) C 3 0 rfl rfl (by decide) (by omega) d_R_isAhead_55 rfl ?_
            have h55 := hY i.toNat
            refine j_icmp_ge C 63 59 d_R_isAhead_56 rfl rfl (by omega) (by omega) (fun c4 => ?_) (fun c4 => ?_)
            · refine j_iconst (q := 64) C d_R_isAhead_63 rfl ?_
              first | (exfalso; omega) | exact j_zret C hr hlk (by omega) d_R_isAhead_64 (congrArg (fun z => some (Value.int (iI z))) (show (bI (ahd RP RS SP k)) = (0) from by first | exact bI_1 (lx_lt (f := fun n => RP (RS k.toNat * 26 + n).toNat) (g := fun n => SP n.toNat) (i := i) (by omega) i1 (show RP (RS k.toNat * 26 + i).toNat < SP i.toNat from by omega)) | exact bI_0 (lx_ge (f := fun n => RP (RS k.toNat * 26 + n).toNat) (g := fun n => SP n.toNat) (i := i) (by omega) i1 (show SP i.toNat < RP (RS k.toNat * 26 + i).toNat from by omega)))) rfl
            · refine j_iconst (q := 60) C d_R_isAhead_59 rfl ?_
              refine j_goto C 64 d_R_isAhead_60 rfl ?_
              first | (exfalso; omega) | exact j_zret C hr hlk (by omega) d_R_isAhead_64 (congrArg (fun z => some (Value.int (iI z))) (show (bI (ahd RP RS SP k)) = (1) from by first | exact bI_1 (lx_lt (f := fun n => RP (RS k.toNat * 26 + n).toNat) (g := fun n => SP n.toNat) (i := i) (by omega) i1 (show RP (RS k.toNat * 26 + i).toNat < SP i.toNat from by omega)) | exact bI_0 (lx_ge (f := fun n => RP (RS k.toNat * 26 + n).toNat) (g := fun n => SP n.toNat) (i := i) (by omega) i1 (show SP i.toNat < RP (RS k.toNat * 26 + i).toNat from by omega)))) rfl
    exact lp23 27 0 (by omega) (fun k h1 h2 => by omega) (by omega)
  · have c1 := hsR_0 c1
    exfalso; omega
/-- after q halvings no more than this is left -/
def hvB (q d : Int) : Prop := d * 2 ^ q.toNat < 256
theorem hvB_0 {d : Int} (h : d < 256) : hvB 0 d := by unfold hvB; simp only [Int.toNat_zero, Int.pow_zero, Int.mul_one]; exact h
theorem hvB_s {q d d' : Int} (h0 : 0 ≤ q) (hd : 2 * d' ≤ d) (h : hvB q d) : hvB (q + 1) d' := by
  unfold hvB at *
  have e : (q + 1).toNat = q.toNat + 1 := by omega
  rw [e, Int.pow_succ]
  have p : (0 : Int) ≤ 2 ^ q.toNat := Int.pow_nonneg (by decide)
  have m := Int.mul_le_mul_of_nonneg_right hd p
  have r : d' * (2 ^ q.toNat * 2) = 2 * d' * 2 ^ q.toNat := by rw [Int.mul_comm (2 ^ q.toNat) 2, ← Int.mul_assoc, Int.mul_comm d' 2]
  omega
theorem hvB_e {q d : Int} (h8 : q = 8) (h : hvB q d) : d < 1 := by
  rw [h8] at h
  unfold hvB at h
  have e : (2 : Int) ^ (8 : Int).toNat = 256 := by decide
  rw [e] at h
  omega

set_option maxRecDepth 100000 in
set_option maxHeartbeats 4000000 in
theorem c_R_positionOf {l : Launch} {D : va_G} (kI kZ : ClassId) (x : Nat → Nat) (RP RS : Nat → Int) (rn : Int) (hR : IR RP RS rn) (SP : Nat → Int) (hY : IY SP) (hmo : monR RP RS SP rn) : Dt l D (ty2 kI kZ) y_R_positionOf w_R_positionOf { frames := 2, cells := 0, slots := 0, locals := 46 } [.ref (x 13), .ref (x 17)] (wR kI kZ x RP RS rn ++ wY kI kZ x SP) (some (.int (iI (psR RP RS SP rn)))) (wR kI kZ x RP RS rn ++ wY kI kZ x SP) := by
  refine Met.toJ (own := R_R) (QD D (some (.int (iI (psR RP RS SP rn)))) (wR kI kZ x RP RS rn ++ wY kI kZ x SP)) mk_R_positionOf rfl (Nat.le_of_ble_eq_true rfl) ?_
  intro p e s m args below meth c A C hr hlk hnm
  show JJ p l e { frames := 2, cells := 0, slots := 0, locals := 46 } s m args below meth c D A 6 (MQ below (QD D (some (.int (iI (psR RP RS SP rn)))) (wR kI kZ x RP RS rn ++ wY kI kZ x SP) A) args s 0 0 A) 0 0 0 [(0, .ref (x 13)), (1, .ref (x 17))] [] (wR kI kZ x RP RS rn ++ wY kI kZ x SP)
  obtain ⟨hrn, hRP, hRS⟩ := id hR
  refine j_aload_n (q := 1) C 0 rfl d_R_positionOf_0 rfl ?_
  refine j_get (q := 4) C i_R rfl 0 rfl 2 (by decide) rfl rfl fl_R_18 d_R_positionOf_1 rfl ?_
  refine j_if_eq C 21 7 d_R_positionOf_4 rfl rfl (by omega) (fun c1 => ?_) (fun c1 => ?_)
  · refine j_aload_n (q := 22) C 0 rfl d_R_positionOf_21 rfl ?_
    refine j_get (q := 25) C i_R rfl 0 rfl 2 (by decide) rfl rfl fl_R_18 d_R_positionOf_22 rfl ?_
    exact j_iret C hr hlk d_R_positionOf_25 (congrArg (fun z => some (Value.int (iI z))) (show (psR RP RS SP rn) = (rn) from by first | exact lst_no (fun j h1 h2 => by omega) | exact lst_no (fun j h1 h2 => fun h3 => h3 (hmo j (rn - 1) h1 (by omega) (by omega) c2)))) rfl
  · refine j_aload_n (q := 8) C 0 rfl d_R_positionOf_7 rfl ?_
    refine j_aload_n (q := 9) C 0 rfl d_R_positionOf_8 rfl ?_
    refine j_get (q := 12) C i_R rfl 0 rfl 2 (by decide) rfl rfl fl_R_18 d_R_positionOf_9 rfl ?_
    refine j_iconst (q := 13) C d_R_positionOf_12 rfl ?_
    refine j_isub (q := 14) C d_R_positionOf_13 rfl ?_
    refine j_aload_n (q := 15) C 1 rfl d_R_positionOf_14 rfl ?_
    have e15 := bI_r (ahd RP RS SP (rn - 1))
    refine j_callV (q := 18) (wr := []) C [.int (iI (rn - 1)), .ref (x 17)] [] (c_R_isAhead kI kZ x RP RS rn hR SP hY (rn - 1) (by omega)) ml_R_43 mk_R_isAhead in_R_isAhead se_R_isAhead rfl rfl rfl [0, 1, 2, 3] [] [0, 1, 2, 3] rfl (by decide) rfl (by decide) (by decide) (wR kI kZ x RP RS rn ++ wY kI kZ x SP) rfl (by decide) rfl rfl rfl (Nat.le_of_ble_eq_true rfl) ⟨Nat.le_of_ble_eq_true rfl, Nat.le_of_ble_eq_true rfl⟩ ⟨Nat.le_of_ble_eq_true rfl, Nat.le_of_ble_eq_true rfl⟩ d_R_positionOf_15 rfl ?_
    refine j_if_eq C 26 21 d_R_positionOf_18 rfl rfl (by omega) (fun c2 => ?_) (fun c2 => ?_)
    · have c2 := bI_z c2
      refine j_iconst (q := 27) C d_R_positionOf_26 rfl ?_
      refine j_istore_n (q := 28) C [(0, .ref (x 13)), (1, .ref (x 17)), (2, .int (iI (0)))] rfl (by decide) d_R_positionOf_27 rfl ?_
      refine j_aload_n (q := 29) C 0 rfl d_R_positionOf_28 rfl ?_
      refine j_get (q := 32) C i_R rfl 0 rfl 2 (by decide) rfl rfl fl_R_18 d_R_positionOf_29 rfl ?_
      refine j_iconst (q := 33) C d_R_positionOf_32 rfl ?_
      refine j_isub (q := 34) C d_R_positionOf_33 rfl ?_
      refine j_istore_n (q := 35) C [(0, .ref (x 13)), (1, .ref (x 17)), (2, .int (iI (0))), (3, .int (iI (rn - 1)))] rfl (by decide) d_R_positionOf_34 rfl ?_
      refine j_iconst (q := 36) C d_R_positionOf_35 rfl ?_
      refine j_istore (q := 38) C [(0, .ref (x 13)), (1, .ref (x 17)), (2, .int (iI (0))), (3, .int (iI (rn - 1))), (4, .int (iI (0)))] rfl (by decide) d_R_positionOf_36 rfl ?_
      have lp38 : ∀ (N : Nat) (lo hi q : Int), (0 ≤ lo ∧ lo ≤ hi ∧ hi < rn ∧ 0 ≤ q ∧ q ≤ 8) → (∀ j : Int, 0 ≤ j → j < lo → ahd RP RS SP j) → (¬ ahd RP RS SP hi) → (hvB q (hi - lo)) → (8 - q).toNat < N → JJ p l e { frames := 2, cells := 0, slots := 0, locals := 46 } s m args below meth c D A 6 (MQ below (QD D (some (.int (iI (psR RP RS SP rn)))) (wR kI kZ x RP RS rn ++ wY kI kZ x SP) A) args s 0 0 A) 0 0 38 [(0, .ref (x 13)), (1, .ref (x 17)), (2, .int (iI (lo))), (3, .int (iI (hi))), (4, .int (iI (q)))] [] (wR kI kZ x RP RS rn ++ wY kI kZ x SP) := by
        intro N
        induction N with
        | zero =>
          intro lo hi q i0 i1 i2 i3 hN
          omega
        | succ N ih38 =>
          intro lo hi q i0 i1 i2 i3 hN
          refine j_iload (q := 40) C 4 rfl d_R_positionOf_38 rfl ?_
          refine j_bipush (q := 42) C d_R_positionOf_40 rfl rfl ?_
          refine j_icmp_ge C 84 45 d_R_positionOf_42 rfl rfl (by omega) (by omega) (fun c3 => ?_) (fun c3 => ?_)
          · refine j_iload_n (q := 85) C 2 rfl d_R_positionOf_84 rfl ?_
            first | (exfalso; omega) | exact j_iret C hr hlk d_R_positionOf_85 (congrArg (fun z => some (Value.int (iI z))) (show (psR RP RS SP rn) = (lo) from by have k0 : lo = hi := (by first | omega | (have k1 := hvB_e (by omega) i3; omega)); rw [k0] at i1; exact k0 ▸ lst_at (by omega) (by omega) i2 (fun j h1 h2 h3 => h3 (i1 j h1 h2)))) rfl
          · refine j_iload_n (q := 46) C 2 rfl d_R_positionOf_45 rfl ?_
            refine j_iload_n (q := 47) C 3 rfl d_R_positionOf_46 rfl ?_
            refine j_icmp_ge C 84 50 d_R_positionOf_47 rfl rfl (by omega) (by omega) (fun c4 => ?_) (fun c4 => ?_)
            · refine j_iload_n (q := 85) C 2 rfl d_R_positionOf_84 rfl ?_
              first | (exfalso; omega) | exact j_iret C hr hlk d_R_positionOf_85 (congrArg (fun z => some (Value.int (iI z))) (show (psR RP RS SP rn) = (lo) from by have k0 : lo = hi := (by first | omega | (have k1 := hvB_e (by omega) i3; omega)); rw [k0] at i1; exact k0 ▸ lst_at (by omega) (by omega) i2 (fun j h1 h2 h3 => h3 (i1 j h1 h2)))) rfl
            · refine j_iload_n (q := 51) C 2 rfl d_R_positionOf_50 rfl ?_
              refine j_iload_n (q := 52) C 3 rfl d_R_positionOf_51 rfl ?_
              refine j_iadd (q := 53) C d_R_positionOf_52 rfl ?_
              refine j_iconst (q := 54) C d_R_positionOf_53 rfl ?_
              refine j_idiv (q := 55) C (by omega) (by omega) d_R_positionOf_54 rfl ?_
              refine j_istore (q := 57) C [(0, .ref (x 13)), (1, .ref (x 17)), (2, .int (iI (lo))), (3, .int (iI (hi))), (4, .int (iI (q))), (5, .int (iI ((lo + hi) / 2)))] rfl (by decide) d_R_positionOf_55 rfl ?_
              refine j_aload_n (q := 58) C 0 rfl d_R_positionOf_57 rfl ?_
              refine j_iload (q := 60) C 5 rfl d_R_positionOf_58 rfl ?_
              refine j_aload_n (q := 61) C 1 rfl d_R_positionOf_60 rfl ?_
              have e61 := bI_r (ahd RP RS SP ((lo + hi) / 2))
              refine j_callV (q := 64) (wr := []) C [.int (iI ((lo + hi) / 2)), .ref (x 17)] [] (c_R_isAhead kI kZ x RP RS rn hR SP hY ((lo + hi) / 2) (by omega)) ml_R_43 mk_R_isAhead in_R_isAhead se_R_isAhead rfl rfl rfl [0, 1, 2, 3] [] [0, 1, 2, 3] rfl (by decide) rfl (by decide) (by decide) (wR kI kZ x RP RS rn ++ wY kI kZ x SP) rfl (by decide) rfl rfl rfl (Nat.le_of_ble_eq_true rfl) ⟨Nat.le_of_ble_eq_true rfl, Nat.le_of_ble_eq_true rfl⟩ ⟨Nat.le_of_ble_eq_true rfl, Nat.le_of_ble_eq_true rfl⟩ d_R_positionOf_61 rfl ?_
              refine j_if_eq C 75 67 d_R_positionOf_64 rfl rfl (by omega) (fun c5 => ?_) (fun c5 => ?_)
              · have c5 := bI_z c5
                refine j_iload (q := 77) C 5 rfl d_R_positionOf_75 rfl ?_
                refine j_istore_n (q := 78) C [(0, .ref (x 13)), (1, .ref (x 17)), (2, .int (iI (lo))), (3, .int (iI ((lo + hi) / 2))), (4, .int (iI (q))), (5, .int (iI ((lo + hi) / 2)))] rfl (by decide) d_R_positionOf_77 rfl ?_
                refine j_iinc (q := 81) C 4 [(0, .ref (x 13)), (1, .ref (x 17)), (2, .int (iI (lo))), (3, .int (iI ((lo + hi) / 2))), (4, .int (iI (q + 1))), (5, .int (iI ((lo + hi) / 2)))] rfl rfl (by decide) d_R_positionOf_78 rfl ?_
                refine j_goto C 38 d_R_positionOf_81 rfl ?_
                refine j_lv [0, 1, 2, 3, 4] rfl ?_
                exact ih38 _ _ (q + 1) (by omega) (fun j h1 h2 => i1 j h1 h2) c5 (hvB_s (by omega) (by omega) i3) (by omega)
              · have c5 := bI_n c5
                refine j_iload (q := 69) C 5 rfl d_R_positionOf_67 rfl ?_
                refine j_iconst (q := 70) C d_R_positionOf_69 rfl ?_
                refine j_iadd (q := 71) C d_R_positionOf_70 rfl ?_
                refine j_istore_n (q := 72) C [(0, .ref (x 13)), (1, .ref (x 17)), (2, .int (iI (((lo + hi) / 2) + 1))), (3, .int (iI (hi))), (4, .int (iI (q))), (5, .int (iI ((lo + hi) / 2)))] rfl (by decide) d_R_positionOf_71 rfl ?_
                refine j_goto C 78 d_R_positionOf_72 rfl ?_
                refine j_iinc (q := 81) C 4 [(0, .ref (x 13)), (1, .ref (x 17)), (2, .int (iI (((lo + hi) / 2) + 1))), (3, .int (iI (hi))), (4, .int (iI (q + 1))), (5, .int (iI ((lo + hi) / 2)))] rfl rfl (by decide) d_R_positionOf_78 rfl ?_
                refine j_goto C 38 d_R_positionOf_81 rfl ?_
                refine j_lv [0, 1, 2, 3, 4] rfl ?_
                exact ih38 _ _ (q + 1) (by omega) (fun j h1 h2 => hmo j ((lo + hi) / 2) h1 (by omega) (by omega) c5) i2 (hvB_s (by omega) (by omega) i3) (by omega)
      exact lp38 9 0 (rn - 1) 0 (by omega) (fun j h1 h2 => by omega) c2 (hvB_0 (by omega)) (by omega)
    · have c2 := bI_n c2
      refine j_aload_n (q := 22) C 0 rfl d_R_positionOf_21 rfl ?_
      refine j_get (q := 25) C i_R rfl 0 rfl 2 (by decide) rfl rfl fl_R_18 d_R_positionOf_22 rfl ?_
      first | (exfalso; omega) | exact j_iret C hr hlk d_R_positionOf_25 (congrArg (fun z => some (Value.int (iI z))) (show (psR RP RS SP rn) = (rn) from by first | exact lst_no (fun j h1 h2 => by omega) | exact lst_no (fun j h1 h2 => fun h3 => h3 (hmo j (rn - 1) h1 (by omega) (by omega) c2)))) rfl
def slR (RS : Nat → Int) (rn : Int) : Int := if 200 ≤ rn then RS (199 : Int).toNat else rn
def laR (rn : Int) : Int := if 200 ≤ rn then 199 else rn
noncomputable def osR (RP RS SP : Nat → Int) (rn : Int) : Nat → Int := if psR RP RS SP rn < 200 then uI (va_cpy RS RS (psR RP RS SP rn).toNat (psR RP RS SP rn + 1).toNat (laR rn - psR RP RS SP rn).toNat) (psR RP RS SP rn).toNat (slR RS rn) else RS
noncomputable def opR (RP RS SP : Nat → Int) (rn : Int) : Nat → Int := if psR RP RS SP rn < 200 then va_cpy SP RP (0 : Int).toNat (slR RS rn * 26).toNat (26 : Int).toNat else RP
noncomputable def onR (RP RS SP : Nat → Int) (rn : Int) : Int := if psR RP RS SP rn < 200 then laR rn + 1 else rn

set_option maxRecDepth 100000 in
set_option maxHeartbeats 4000000 in
theorem c_R_offer {l : Launch} {D : va_G} (kI kZ : ClassId) (x : Nat → Nat) (RP RS : Nat → Int) (rn : Int) (hR : IR RP RS rn) (SP : Nat → Int) (hY : IY SP) (hmo : monR RP RS SP rn) : Dt l D (ty2 kI kZ) y_R_offer w_R_offer { frames := 3, cells := 0, slots := 0, locals := 71 } [.ref (x 13), .ref (x 17)] (wR kI kZ x RP RS rn ++ wY kI kZ x SP) none (wR kI kZ x (opR RP RS SP rn) (osR RP RS SP rn) (onR RP RS SP rn) ++ wY kI kZ x SP) := by
  refine Met.toJ (own := R_R) (QD D none (wR kI kZ x (opR RP RS SP rn) (osR RP RS SP rn) (onR RP RS SP rn) ++ wY kI kZ x SP)) mk_R_offer rfl (Nat.le_of_ble_eq_true rfl) ?_
  intro p e s m args below meth c A C hr hlk hnm
  show JJ p l e { frames := 3, cells := 0, slots := 0, locals := 71 } s m args below meth c D A 6 (MQ below (QD D none (wR kI kZ x (opR RP RS SP rn) (osR RP RS SP rn) (onR RP RS SP rn) ++ wY kI kZ x SP) A) args s 0 0 A) 0 0 0 [(0, .ref (x 13)), (1, .ref (x 17))] [] (wR kI kZ x RP RS rn ++ wY kI kZ x SP)
  obtain ⟨hrn, hRP, hRS⟩ := id hR
  refine j_aload_n (q := 1) C 0 rfl d_R_offer_0 rfl ?_
  refine j_aload_n (q := 2) C 1 rfl d_R_offer_1 rfl ?_
  have e2 := psR_r (RP := RP) (RS := RS) (SP := SP) hrn.1
  refine j_callV (q := 5) (wr := []) C [.ref (x 17)] [] (c_R_positionOf kI kZ x RP RS rn hR SP hY hmo) ml_R_33 mk_R_positionOf in_R_positionOf se_R_positionOf rfl rfl rfl [0, 1, 2, 3] [] [0, 1, 2, 3] rfl (by decide) rfl (by decide) (by decide) (wR kI kZ x RP RS rn ++ wY kI kZ x SP) rfl (by decide) rfl rfl rfl (Nat.le_of_ble_eq_true rfl) ⟨Nat.le_of_ble_eq_true rfl, Nat.le_of_ble_eq_true rfl⟩ ⟨Nat.le_of_ble_eq_true rfl, Nat.le_of_ble_eq_true rfl⟩ d_R_offer_2 rfl ?_
  refine j_istore_n (q := 6) C [(0, .ref (x 13)), (1, .ref (x 17)), (2, .int (iI (psR RP RS SP rn)))] rfl (by decide) d_R_offer_5 rfl ?_
  refine j_iload_n (q := 7) C 2 rfl d_R_offer_6 rfl ?_
  refine j_sipush (q := 10) C d_R_offer_7 rfl rfl ?_
  refine j_icmp_lt C 14 13 d_R_offer_10 rfl rfl (by omega) (by omega) (fun c1 => ?_) (fun c1 => ?_)
  · refine j_aload_n (q := 15) C 0 rfl d_R_offer_14 rfl ?_
    refine j_get (q := 18) C i_R rfl 0 rfl 2 (by decide) rfl rfl fl_R_18 d_R_offer_15 rfl ?_
    refine j_sipush (q := 21) C d_R_offer_18 rfl rfl ?_
    refine j_icmp_lt C 28 24 d_R_offer_21 rfl rfl (by omega) (by omega) (fun c2 => ?_) (fun c2 => ?_)
    · refine j_iconst (q := 29) C d_R_offer_28 rfl ?_
      refine j_istore_n (q := 30) C [(0, .ref (x 13)), (1, .ref (x 17)), (2, .int (iI (psR RP RS SP rn))), (3, .int (iI (0)))] rfl (by decide) d_R_offer_29 rfl ?_
      refine j_iload_n (q := 31) C 3 rfl d_R_offer_30 rfl ?_
      refine j_if_eq C 45 34 d_R_offer_31 rfl rfl (by omega) (fun c3 => ?_) (fun c3 => ?_)
      · refine j_aload_n (q := 46) C 0 rfl d_R_offer_45 rfl ?_
        refine j_get (q := 49) C i_R rfl 0 rfl 2 (by decide) rfl rfl fl_R_18 d_R_offer_46 rfl ?_
        refine j_istore (q := 51) C [(0, .ref (x 13)), (1, .ref (x 17)), (2, .int (iI (psR RP RS SP rn))), (3, .int (iI (0))), (4, .int (iI (rn)))] rfl (by decide) d_R_offer_49 rfl ?_
        refine j_iload_n (q := 52) C 3 rfl d_R_offer_51 rfl ?_
        refine j_if_eq C 61 55 d_R_offer_52 rfl rfl (by omega) (fun c4 => ?_) (fun c4 => ?_)
        · refine j_aload_n (q := 62) C 0 rfl d_R_offer_61 rfl ?_
          refine j_get (q := 65) C i_R rfl 0 rfl 2 (by decide) rfl rfl fl_R_18 d_R_offer_62 rfl ?_
          refine j_istore (q := 67) C [(0, .ref (x 13)), (1, .ref (x 17)), (2, .int (iI (psR RP RS SP rn))), (3, .int (iI (0))), (4, .int (iI (rn))), (5, .int (iI (rn)))] rfl (by decide) d_R_offer_65 rfl ?_
          refine j_aload_n (q := 68) C 0 rfl d_R_offer_67 rfl ?_
          refine j_get (q := 71) C i_R rfl 0 rfl 1 (by decide) rfl rfl fl_R_15 d_R_offer_68 rfl ?_
          refine j_iload_n (q := 72) C 2 rfl d_R_offer_71 rfl ?_
          refine j_aload_n (q := 73) C 0 rfl d_R_offer_72 rfl ?_
          refine j_get (q := 76) C i_R rfl 0 rfl 1 (by decide) rfl rfl fl_R_15 d_R_offer_73 rfl ?_
          refine j_iload_n (q := 77) C 2 rfl d_R_offer_76 rfl ?_
          refine j_iconst (q := 78) C d_R_offer_77 rfl ?_
          refine j_iadd (q := 79) C d_R_offer_78 rfl ?_
          refine j_iload (q := 81) C 5 rfl d_R_offer_79 rfl ?_
          refine j_iload_n (q := 82) C 2 rfl d_R_offer_81 rfl ?_
          refine j_isub (q := 83) C d_R_offer_82 rfl ?_
          refine j_copy (q := 86) C 2 2 0 0 rfl rfl rfl rfl (by decide) (by decide) (by omega) ml_R_37 (Nat.le_of_ble_eq_true rfl) (Nat.le_of_ble_eq_true rfl) (wR kI kZ x RP (va_cpy RS RS (psR RP RS SP rn).toNat ((psR RP RS SP rn) + 1).toNat (rn - (psR RP RS SP rn)).toNat) rn ++ wY kI kZ x SP) rfl d_R_offer_83 rfl ?_
          refine j_aload_n (q := 87) C 0 rfl d_R_offer_86 rfl ?_
          refine j_get (q := 90) C i_R rfl 0 rfl 1 (by decide) rfl rfl fl_R_15 d_R_offer_87 rfl ?_
          refine j_iload_n (q := 91) C 2 rfl d_R_offer_90 rfl ?_
          refine j_iload (q := 93) C 4 rfl d_R_offer_91 rfl ?_
          refine j_iast (q := 94) C 2 0 rfl rfl (by decide) (by omega) (wR kI kZ x RP (uI (va_cpy RS RS (psR RP RS SP rn).toNat ((psR RP RS SP rn) + 1).toNat (rn - (psR RP RS SP rn)).toNat) (psR RP RS SP rn).toNat rn) rn ++ wY kI kZ x SP) rfl d_R_offer_93 rfl ?_
          refine j_aload_n (q := 95) C 1 rfl d_R_offer_94 rfl ?_
          refine j_iconst (q := 96) C d_R_offer_95 rfl ?_
          refine j_aload_n (q := 97) C 0 rfl d_R_offer_96 rfl ?_
          refine j_get (q := 100) C i_R rfl 0 rfl 0 (by decide) rfl rfl fl_R_9 d_R_offer_97 rfl ?_
          refine j_iload (q := 102) C 4 rfl d_R_offer_100 rfl ?_
          refine j_bipush (q := 104) C d_R_offer_102 rfl rfl ?_
          refine j_imul (q := 105) C d_R_offer_104 rfl ?_
          refine j_bipush (q := 107) C d_R_offer_105 rfl rfl ?_
          refine j_copy (q := 110) C 3 1 0 0 rfl rfl rfl rfl (by decide) (by decide) (by omega) ml_R_37 (Nat.le_of_ble_eq_true rfl) (Nat.le_of_ble_eq_true rfl) (wR kI kZ x (va_cpy SP RP (0 : Int).toNat (rn * 26).toNat (26 : Int).toNat) (uI (va_cpy RS RS (psR RP RS SP rn).toNat ((psR RP RS SP rn) + 1).toNat (rn - (psR RP RS SP rn)).toNat) (psR RP RS SP rn).toNat rn) rn ++ wY kI kZ x SP) rfl d_R_offer_107 rfl ?_
          refine j_aload_n (q := 111) C 0 rfl d_R_offer_110 rfl ?_
          refine j_iload (q := 113) C 5 rfl d_R_offer_111 rfl ?_
          refine j_iconst (q := 114) C d_R_offer_113 rfl ?_
          refine j_iadd (q := 115) C d_R_offer_114 rfl ?_
          refine j_put (q := 118) (ty := .int) C i_R rfl t_R t_R_ok n_R 0 rfl 2 (by decide) rfl fl_R_18 rfl (by decide +kernel) rfl rfl (Nat.le_of_ble_eq_true rfl) (wR kI kZ x (va_cpy SP RP (0 : Int).toNat (rn * 26).toNat (26 : Int).toNat) (uI (va_cpy RS RS (psR RP RS SP rn).toNat ((psR RP RS SP rn) + 1).toNat (rn - (psR RP RS SP rn)).toNat) (psR RP RS SP rn).toNat rn) (rn + 1) ++ wY kI kZ x SP) rfl d_R_offer_115 rfl ?_
          first | (exfalso; omega) | exact j_vret C hr hlk d_R_offer_118 (by have k1 : laR rn = rn := (by unfold laR; split <;> omega); have k2 : slR RS rn = rn := (by unfold slR; split <;> first | rfl | omega); unfold opR osR onR; rw [if_pos (by omega), if_pos (by omega), if_pos (by omega), k1, k2])
        · exfalso; omega
      · exfalso; omega
    · refine j_iconst (q := 25) C d_R_offer_24 rfl ?_
      refine j_goto C 29 d_R_offer_25 rfl ?_
      refine j_istore_n (q := 30) C [(0, .ref (x 13)), (1, .ref (x 17)), (2, .int (iI (psR RP RS SP rn))), (3, .int (iI (1)))] rfl (by decide) d_R_offer_29 rfl ?_
      refine j_iload_n (q := 31) C 3 rfl d_R_offer_30 rfl ?_
      refine j_if_eq C 45 34 d_R_offer_31 rfl rfl (by omega) (fun c5 => ?_) (fun c5 => ?_)
      · exfalso; omega
      · refine j_aload_n (q := 35) C 0 rfl d_R_offer_34 rfl ?_
        refine j_get (q := 38) C i_R rfl 0 rfl 1 (by decide) rfl rfl fl_R_15 d_R_offer_35 rfl ?_
        refine j_sipush (q := 41) C d_R_offer_38 rfl rfl ?_
        refine j_iald (q := 42) C 2 0 rfl rfl (by decide) (by omega) d_R_offer_41 rfl ?_
        have h41 := hRS (199 : Int).toNat
        refine j_goto C 49 d_R_offer_42 rfl ?_
        refine j_istore (q := 51) C [(0, .ref (x 13)), (1, .ref (x 17)), (2, .int (iI (psR RP RS SP rn))), (3, .int (iI (1))), (4, .int (iI (RS (199 : Int).toNat)))] rfl (by decide) d_R_offer_49 rfl ?_
        refine j_iload_n (q := 52) C 3 rfl d_R_offer_51 rfl ?_
        refine j_if_eq C 61 55 d_R_offer_52 rfl rfl (by omega) (fun c6 => ?_) (fun c6 => ?_)
        · exfalso; omega
        · refine j_sipush (q := 58) C d_R_offer_55 rfl rfl ?_
          refine j_goto C 65 d_R_offer_58 rfl ?_
          refine j_istore (q := 67) C [(0, .ref (x 13)), (1, .ref (x 17)), (2, .int (iI (psR RP RS SP rn))), (3, .int (iI (1))), (4, .int (iI (RS (199 : Int).toNat))), (5, .int (iI (199)))] rfl (by decide) d_R_offer_65 rfl ?_
          refine j_aload_n (q := 68) C 0 rfl d_R_offer_67 rfl ?_
          refine j_get (q := 71) C i_R rfl 0 rfl 1 (by decide) rfl rfl fl_R_15 d_R_offer_68 rfl ?_
          refine j_iload_n (q := 72) C 2 rfl d_R_offer_71 rfl ?_
          refine j_aload_n (q := 73) C 0 rfl d_R_offer_72 rfl ?_
          refine j_get (q := 76) C i_R rfl 0 rfl 1 (by decide) rfl rfl fl_R_15 d_R_offer_73 rfl ?_
          refine j_iload_n (q := 77) C 2 rfl d_R_offer_76 rfl ?_
          refine j_iconst (q := 78) C d_R_offer_77 rfl ?_
          refine j_iadd (q := 79) C d_R_offer_78 rfl ?_
          refine j_iload (q := 81) C 5 rfl d_R_offer_79 rfl ?_
          refine j_iload_n (q := 82) C 2 rfl d_R_offer_81 rfl ?_
          refine j_isub (q := 83) C d_R_offer_82 rfl ?_
          refine j_copy (q := 86) C 2 2 0 0 rfl rfl rfl rfl (by decide) (by decide) (by omega) ml_R_37 (Nat.le_of_ble_eq_true rfl) (Nat.le_of_ble_eq_true rfl) (wR kI kZ x RP (va_cpy RS RS (psR RP RS SP rn).toNat ((psR RP RS SP rn) + 1).toNat (199 - (psR RP RS SP rn)).toNat) rn ++ wY kI kZ x SP) rfl d_R_offer_83 rfl ?_
          refine j_aload_n (q := 87) C 0 rfl d_R_offer_86 rfl ?_
          refine j_get (q := 90) C i_R rfl 0 rfl 1 (by decide) rfl rfl fl_R_15 d_R_offer_87 rfl ?_
          refine j_iload_n (q := 91) C 2 rfl d_R_offer_90 rfl ?_
          refine j_iload (q := 93) C 4 rfl d_R_offer_91 rfl ?_
          refine j_iast (q := 94) C 2 0 rfl rfl (by decide) (by omega) (wR kI kZ x RP (uI (va_cpy RS RS (psR RP RS SP rn).toNat ((psR RP RS SP rn) + 1).toNat (199 - (psR RP RS SP rn)).toNat) (psR RP RS SP rn).toNat (RS (199 : Int).toNat)) rn ++ wY kI kZ x SP) rfl d_R_offer_93 rfl ?_
          refine j_aload_n (q := 95) C 1 rfl d_R_offer_94 rfl ?_
          refine j_iconst (q := 96) C d_R_offer_95 rfl ?_
          refine j_aload_n (q := 97) C 0 rfl d_R_offer_96 rfl ?_
          refine j_get (q := 100) C i_R rfl 0 rfl 0 (by decide) rfl rfl fl_R_9 d_R_offer_97 rfl ?_
          refine j_iload (q := 102) C 4 rfl d_R_offer_100 rfl ?_
          refine j_bipush (q := 104) C d_R_offer_102 rfl rfl ?_
          refine j_imul (q := 105) C d_R_offer_104 rfl ?_
          refine j_bipush (q := 107) C d_R_offer_105 rfl rfl ?_
          refine j_copy (q := 110) C 3 1 0 0 rfl rfl rfl rfl (by decide) (by decide) (by omega) ml_R_37 (Nat.le_of_ble_eq_true rfl) (Nat.le_of_ble_eq_true rfl) (wR kI kZ x (va_cpy SP RP (0 : Int).toNat ((RS (199 : Int).toNat) * 26).toNat (26 : Int).toNat) (uI (va_cpy RS RS (psR RP RS SP rn).toNat ((psR RP RS SP rn) + 1).toNat (199 - (psR RP RS SP rn)).toNat) (psR RP RS SP rn).toNat (RS (199 : Int).toNat)) rn ++ wY kI kZ x SP) rfl d_R_offer_107 rfl ?_
          refine j_aload_n (q := 111) C 0 rfl d_R_offer_110 rfl ?_
          refine j_iload (q := 113) C 5 rfl d_R_offer_111 rfl ?_
          refine j_iconst (q := 114) C d_R_offer_113 rfl ?_
          refine j_iadd (q := 115) C d_R_offer_114 rfl ?_
          refine j_put (q := 118) (ty := .int) C i_R rfl t_R t_R_ok n_R 0 rfl 2 (by decide) rfl fl_R_18 rfl (by decide +kernel) rfl rfl (Nat.le_of_ble_eq_true rfl) (wR kI kZ x (va_cpy SP RP (0 : Int).toNat ((RS (199 : Int).toNat) * 26).toNat (26 : Int).toNat) (uI (va_cpy RS RS (psR RP RS SP rn).toNat ((psR RP RS SP rn) + 1).toNat (199 - (psR RP RS SP rn)).toNat) (psR RP RS SP rn).toNat (RS (199 : Int).toNat)) (199 + 1) ++ wY kI kZ x SP) rfl d_R_offer_115 rfl ?_
          first | (exfalso; omega) | exact j_vret C hr hlk d_R_offer_118 (by have k1 : laR rn = 199 := (by unfold laR; split <;> omega); have k2 : slR RS rn = RS (199 : Int).toNat := (by unfold slR; split <;> first | rfl | omega); unfold opR osR onR; rw [if_pos (by omega), if_pos (by omega), if_pos (by omega), k1, k2])
  · first | (exfalso; omega) | exact j_vret C hr hlk d_R_offer_13 (by unfold opR osR onR; rw [if_neg (by omega), if_neg (by omega), if_neg (by omega)])
