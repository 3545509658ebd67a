/-- letters that numbers have, letters taken, numbers given, how many -/
abbrev T4 : Type := (Nat → Int) × (Nat → Int) × (Nat → Int) × Int
def I4 (σ : T4) : Prop := (∀ j, -1 ≤ σ.1 j ∧ σ.1 j < 26) ∧ (∀ j, 0 ≤ σ.2.1 j ∧ σ.2.1 j ≤ 1) ∧ (∀ j, 0 ≤ σ.2.2.1 j ∧ σ.2.2.1 j < 26) ∧ (0 ≤ σ.2.2.2 ∧ σ.2.2.2 ≤ 26)
/-- a number is given a letter that neither had -/
def gvN (SP ST : Nat → Int) (sg n q : Int) : Prop := ((0 ≤ n ∧ n < 26) ∧ (0 ≤ q ∧ q < 26)) ∧ ¬ SP n.toNat = q ∧ SP n.toNat = -1 ∧ ST q.toNat = 0 ∧ sg < 26
noncomputable def gvS (σ : T4) (n q : Int) : T4 := ifP (gvN σ.1 σ.2.1 σ.2.2.2 n q) (uI σ.1 n.toNat q, uI σ.2.1 q.toNat 1, uI σ.2.2.1 σ.2.2.2.toNat n, σ.2.2.2 + 1) σ
def gvO (σ : T4) (n q : Int) : Prop := ((0 ≤ n ∧ n < 26) ∧ (0 ≤ q ∧ q < 26)) ∧ (σ.1 n.toNat = q ∨ gvN σ.1 σ.2.1 σ.2.2.2 n q)
theorem gvS_r {σ : T4} (h : I4 σ) (n q : Int) : I4 (gvS σ n q) := by
  by_cases c : gvN σ.1 σ.2.1 σ.2.2.2 n q
  · have e : gvS σ n q = (uI σ.1 n.toNat q, uI σ.2.1 q.toNat 1, uI σ.2.2.1 σ.2.2.2.toNat n, σ.2.2.2 + 1) := ifP_t c
    obtain ⟨h1, h2, h3, h4⟩ := h
    obtain ⟨⟨c1, c2⟩, -, -, -, c3⟩ := c
    rw [e]
    refine ⟨fun j => ?_, fun j => ?_, fun j => ?_, ?_⟩
    · have := h1 j; show -1 ≤ uI _ _ _ j ∧ uI _ _ _ j < 26; unfold uI; split <;> omega
    · have := h2 j; show 0 ≤ uI _ _ _ j ∧ uI _ _ _ j ≤ 1; unfold uI; split <;> omega
    · have := h3 j; show 0 ≤ uI _ _ _ j ∧ uI _ _ _ j < 26; unfold uI; split <;> omega
    · show 0 ≤ σ.2.2.2 + 1 ∧ σ.2.2.2 + 1 ≤ 26; omega
  · have e : gvS σ n q = σ := ifP_f c
    rw [e]; exact h
/-- the letters of a word given one behind the other, up to the first that does not agree -/
noncomputable def agF (nm pl : Int → Int) (σ : T4) : Nat → T4 × Int
  | 0 => (σ, 1)
  | i + 1 => if (agF nm pl σ i).2 = 0 then agF nm pl σ i else (gvS (agF nm pl σ i).1 (nm i) (pl i), bI (gvO (agF nm pl σ i).1 (nm i) (pl i)))
theorem agF_1 (nm pl : Int → Int) (σ : T4) (i : Nat) : agF nm pl σ (i + 1) = if (agF nm pl σ i).2 = 0 then agF nm pl σ i else (gvS (agF nm pl σ i).1 (nm i) (pl i), bI (gvO (agF nm pl σ i).1 (nm i) (pl i))) := rfl
theorem agF_s (nm pl : Int → Int) (σ : T4) {i : Int} (h : 0 ≤ i) : agF nm pl σ (i + 1).toNat = if (agF nm pl σ i.toNat).2 = 0 then agF nm pl σ i.toNat else (gvS (agF nm pl σ i.toNat).1 (nm i) (pl i), bI (gvO (agF nm pl σ i.toNat).1 (nm i) (pl i))) := by
  obtain ⟨n, rfl⟩ := Int.eq_ofNat_of_zero_le h
  rfl
theorem agF_r {σ : T4} (h : I4 σ) (nm pl : Int → Int) (i : Nat) : I4 (agF nm pl σ i).1 ∧ (0 ≤ (agF nm pl σ i).2 ∧ (agF nm pl σ i).2 ≤ 1) := by
  induction i with
  | zero => exact ⟨h, by show 0 ≤ (1 : Int) ∧ (1 : Int) ≤ 1; omega⟩
  | succ i ih =>
    unfold agF
    split
    · exact ih
    · exact ⟨gvS_r ih.1 _ _, bI_r _⟩
theorem agF_z {nm pl : Int → Int} {σ : T4} {i : Nat} (h : (agF nm pl σ i).2 = 0) (k : Nat) : agF nm pl σ (i + k) = agF nm pl σ i := by
  induction k with
  | zero => rfl
  | succ k ih =>
    rw [show i + (k + 1) = (i + k) + 1 from rfl, agF_1, if_pos (by rw [ih]; exact h)]
    exact ih
/-- k numbers taken back -/
noncomputable def unT (σ : T4) : Nat → (Nat → Int) × (Nat → Int)
  | 0 => (σ.1, σ.2.1)
  | k + 1 => (uI (unT σ k).1 (σ.2.2.1 (σ.2.2.2 - 1 - k).toNat).toNat (-1), ifP (0 ≤ (unT σ k).1 (σ.2.2.1 (σ.2.2.2 - 1 - k).toNat).toNat ∧ (unT σ k).1 (σ.2.2.1 (σ.2.2.2 - 1 - k).toNat).toNat < 26) (uI (unT σ k).2 ((unT σ k).1 (σ.2.2.1 (σ.2.2.2 - 1 - k).toNat).toNat).toNat 0) (unT σ k).2)
theorem unT_s (σ : T4) (k : Nat) : unT σ (k + 1) = (uI (unT σ k).1 (σ.2.2.1 (σ.2.2.2 - 1 - k).toNat).toNat (-1), ifP (0 ≤ (unT σ k).1 (σ.2.2.1 (σ.2.2.2 - 1 - k).toNat).toNat ∧ (unT σ k).1 (σ.2.2.1 (σ.2.2.2 - 1 - k).toNat).toNat < 26) (uI (unT σ k).2 ((unT σ k).1 (σ.2.2.1 (σ.2.2.2 - 1 - k).toNat).toNat).toNat 0) (unT σ k).2) := rfl
theorem unT_r {σ : T4} (h : I4 σ) (k : Nat) : (∀ j, -1 ≤ (unT σ k).1 j ∧ (unT σ k).1 j < 26) ∧ ∀ j, 0 ≤ (unT σ k).2 j ∧ (unT σ k).2 j ≤ 1 := by
  induction k with
  | zero => exact ⟨h.1, h.2.1⟩
  | succ k ih =>
    refine ⟨fun j => ?_, fun j => ?_⟩
    · have := ih.1 j
      show -1 ≤ uI _ _ _ j ∧ uI _ _ _ j < 26
      unfold uI
      split <;> omega
    · have := ih.2 j
      unfold unT
      by_cases c : 0 ≤ (unT σ k).1 (σ.2.2.1 (σ.2.2.2 - 1 - k).toNat).toNat ∧ (unT σ k).1 (σ.2.2.1 (σ.2.2.2 - 1 - k).toNat).toNat < 26
      · rw [ifP_t c]
        show 0 ≤ uI _ _ _ j ∧ uI _ _ _ j ≤ 1
        unfold uI
        split <;> omega
      · rw [ifP_f c]
        exact this

set_option maxRecDepth 100000 in
set_option maxHeartbeats 4000000 in
theorem c_A_fill {l : Launch} {D : va_G} (kI kZ : ClassId) (x : Nat → Nat) (SP : Nat → Int) (v : Int) : Dt l D (ty2 kI kZ) y_A_fill w_A_fill { frames := 0, cells := 0, slots := 0, locals := 0 } [.ref (x 17), .int (iI (v))] (wY kI kZ x SP) none (wY kI kZ x (zrB SP v)) := by
  refine Met.toJ (own := R_A) (QD D none (wY kI kZ x (zrB SP v))) mk_A_fill rfl (Nat.le_of_ble_eq_true rfl) ?_
  intro p e s m args below meth c A C hr hlk hnm
  show JJ p l e { frames := 0, cells := 0, slots := 0, locals := 0 } s m args below meth c D A 4 (MQ below (QD D none (wY kI kZ x (zrB SP v)) A) args s 0 0 A) 0 0 0 [(0, .ref (x 17)), (1, .int (iI (v)))] [] (wY kI kZ x SP)
  refine j_iconst (q := 1) C d_A_fill_0 rfl ?_
  refine j_istore_n (q := 2) C [(0, .ref (x 17)), (1, .int (iI (v))), (2, .int (iI (0)))] rfl (by decide) d_A_fill_1 rfl ?_
  refine j_aload_n (q := 3) C 0 rfl d_A_fill_2 rfl ?_
  refine j_alen (q := 4) C 0 0 rfl rfl d_A_fill_3 rfl ?_
  refine j_istore_n (q := 5) C [(0, .ref (x 17)), (1, .int (iI (v))), (2, .int (iI (0))), (3, .int (iI (26)))] rfl (by decide) d_A_fill_4 rfl ?_
  have lp5 : ∀ (N : Nat) (i : Int) (F : Nat → Int), (0 ≤ i ∧ i ≤ 26) → (∀ j : Nat, F j = if (j : Int) < i then v else SP j) → (26 - i).toNat < N → JJ p l e { frames := 0, cells := 0, slots := 0, locals := 0 } s m args below meth c D A 4 (MQ below (QD D none (wY kI kZ x (zrB SP v)) A) args s 0 0 A) 0 0 5 [(0, .ref (x 17)), (1, .int (iI (v))), (2, .int (iI (i))), (3, .int (iI (26)))] [] (wY kI kZ x F) := by
    intro N
    induction N with
    | zero =>
      intro i F i0 i1 hN
      omega
    | succ N ih5 =>
      intro i F i0 i1 hN
      refine j_iload_n (q := 6) C 2 rfl d_A_fill_5 rfl ?_
      refine j_iload_n (q := 7) C 3 rfl d_A_fill_6 rfl ?_
      refine j_icmp_ge C 20 10 d_A_fill_7 rfl rfl (by omega) (by omega) (fun c1 => ?_) (fun c1 => ?_)
      · exact j_vret C hr hlk d_A_fill_20 (by have z1 : F = zrB SP v := (by funext j; rw [i1 j]; unfold zrB; split <;> split <;> first | rfl | omega); rw [z1])
      · refine j_aload_n (q := 11) C 0 rfl d_A_fill_10 rfl ?_
        refine j_iload_n (q := 12) C 2 rfl d_A_fill_11 rfl ?_
        refine j_iload_n (q := 13) C 1 rfl d_A_fill_12 rfl ?_
        refine j_iast (q := 14) C 0 0 rfl rfl (by decide) (by omega) (wY kI kZ x (uI F i.toNat v)) rfl d_A_fill_13 rfl ?_
        refine j_iinc (q := 17) C 2 [(0, .ref (x 17)), (1, .int (iI (v))), (2, .int (iI (i + 1))), (3, .int (iI (26)))] rfl rfl (by decide) d_A_fill_14 rfl ?_
        refine j_goto C 5 d_A_fill_17 rfl ?_
        exact ih5 (i + 1) _ (by omega) (fun j => by unfold uI; rw [i1 j]; split <;> split <;> first | rfl | omega) (by omega)
  exact lp5 27 0 SP (by omega) (fun j => by rw [if_neg (by omega)]) (by omega)
set_option maxRecDepth 100000 in
set_option maxHeartbeats 4000000 in
theorem c_S_stepsMade {l : Launch} {D : va_G} (kI kZ : ClassId) (x : Nat → Nat) (σ : T4) (hσ : I4 σ) (sa sm sf ss : Int) : Dt l D (ty2 kI kZ) y_S_stepsMade w_S_stepsMade { frames := 0, cells := 0, slots := 0, locals := 0 } [.ref (x 16)] (wS kI kZ x σ.2.1 σ.2.2.1 σ.2.2.2 sa sm sf ss ++ wY kI kZ x σ.1) (some (.int (iI (sm)))) (wS kI kZ x σ.2.1 σ.2.2.1 σ.2.2.2 sa sm sf ss ++ wY kI kZ x σ.1) := by
  refine Met.toJ (own := R_S) (QD D (some (.int (iI (sm)))) (wS kI kZ x σ.2.1 σ.2.2.1 σ.2.2.2 sa sm sf ss ++ wY kI kZ x σ.1)) mk_S_stepsMade rfl (Nat.le_of_ble_eq_true rfl) ?_
  intro p e s m args below meth c A C hr hlk hnm
  show JJ p l e { frames := 0, cells := 0, slots := 0, locals := 0 } s m args below meth c D A 1 (MQ below (QD D (some (.int (iI (sm)))) (wS kI kZ x σ.2.1 σ.2.2.1 σ.2.2.2 sa sm sf ss ++ wY kI kZ x σ.1) A) args s 0 0 A) 0 0 0 [(0, .ref (x 16))] [] (wS kI kZ x σ.2.1 σ.2.2.1 σ.2.2.2 sa sm sf ss ++ wY kI kZ x σ.1)
  refine j_aload_n (q := 1) C 0 rfl d_S_stepsMade_0 rfl ?_
  refine j_get (q := 4) C i_S rfl 0 rfl 8 (by decide) rfl rfl fl_S_29 d_S_stepsMade_1 rfl ?_
  exact j_iret C hr hlk d_S_stepsMade_4 rfl rfl
set_option maxRecDepth 100000 in
set_option maxHeartbeats 4000000 in
theorem c_S_give {l : Launch} {D : va_G} (kI kZ : ClassId) (x : Nat → Nat) (σ : T4) (hσ : I4 σ) (sa sm sf ss : Int) (a b : Int) (ha : (-2147483648 ≤ a ∧ a < 2147483648)) (hb : (-2147483648 ≤ b ∧ b < 2147483648)) : Dt l D (ty2 kI kZ) y_S_give w_S_give { frames := 1, cells := 0, slots := 0, locals := 20 } [.ref (x 16), .int (iI (a)), .int (iI (b))] (wS kI kZ x σ.2.1 σ.2.2.1 σ.2.2.2 sa sm sf ss ++ wY kI kZ x σ.1) (some (.int (iI (bI (gvO σ a b))))) (wS kI kZ x ((gvS σ a b).2.1) ((gvS σ a b).2.2.1) ((gvS σ a b).2.2.2) sa sm sf ss ++ wY kI kZ x ((gvS σ a b).1)) := by
  refine Met.toJ (own := R_S) (QD D (some (.int (iI (bI (gvO σ a b))))) (wS kI kZ x ((gvS σ a b).2.1) ((gvS σ a b).2.2.1) ((gvS σ a b).2.2.2) sa sm sf ss ++ wY kI kZ x ((gvS σ a b).1))) mk_S_give rfl (Nat.le_of_ble_eq_true rfl) ?_
  intro p e s m args below meth c A C hr hlk hnm
  show JJ p l e { frames := 1, cells := 0, slots := 0, locals := 20 } s m args below meth c D A 3 (MQ below (QD D (some (.int (iI (bI (gvO σ a b))))) (wS kI kZ x ((gvS σ a b).2.1) ((gvS σ a b).2.2.1) ((gvS σ a b).2.2.2) sa sm sf ss ++ wY kI kZ x ((gvS σ a b).1)) A) args s 0 0 A) 0 0 0 [(0, .ref (x 16)), (1, .int (iI (a))), (2, .int (iI (b)))] [] (wS kI kZ x σ.2.1 σ.2.2.1 σ.2.2.2 sa sm sf ss ++ wY kI kZ x σ.1)
  obtain ⟨hY, hST, hSG, hsg⟩ := id hσ
  refine j_iload_n (q := 1) C 1 rfl d_S_give_0 rfl ?_
  have e1 := bP_r a
  refine j_callN (q := 4) (wr := wS kI kZ x σ.2.1 σ.2.2.1 σ.2.2.2 sa sm sf ss ++ wY kI kZ x σ.1) C [.int (iI (a))] [] (c_C_isNumber kI kZ x a (by omega)) nl_S_123 mk_C_isNumber st_C_isNumber [] [0, 1, 2, 3] [0, 1, 2, 3] rfl (by decide) rfl (by decide) (by decide) (wS kI kZ x σ.2.1 σ.2.2.1 σ.2.2.2 sa sm sf ss ++ wY kI kZ x σ.1) rfl (by decide) rfl rfl rfl (Nat.le_of_ble_eq_true rfl) ⟨Nat.le_of_ble_eq_true rfl, Nat.le_of_ble_eq_true rfl⟩ ⟨Nat.le_of_ble_eq_true rfl, Nat.le_of_ble_eq_true rfl⟩ d_S_give_1 rfl ?_
  refine j_if_eq C 14 7 d_S_give_4 rfl rfl (by omega) (fun c1 => ?_) (fun c1 => ?_)
  · have c1 := bP_0 c1
    refine j_iconst (q := 15) C d_S_give_14 rfl ?_
    exact j_zret C hr hlk (by omega) d_S_give_15 (congrArg (fun z => some (Value.int (iI z))) (show (bI (gvO σ a b)) = (0) from bI_0 (fun h => by have h1 := h.1; omega))) (by rw [show gvS σ a b = σ from ifP_f (fun h => by have h1 := h.1; omega)])
  · have c1 := bP_1 c1
    refine j_iload_n (q := 8) C 2 rfl d_S_give_7 rfl ?_
    have e8 := bP_r b
    refine j_callN (q := 11) (wr := wS kI kZ x σ.2.1 σ.2.2.1 σ.2.2.2 sa sm sf ss ++ wY kI kZ x σ.1) C [.int (iI (b))] [] (c_C_isPlace kI kZ x b (by omega)) nl_S_80 mk_C_isPlace st_C_isPlace [] [0, 1, 2, 3] [0, 1, 2, 3] rfl (by decide) rfl (by decide) (by decide) (wS kI kZ x σ.2.1 σ.2.2.1 σ.2.2.2 sa sm sf ss ++ wY kI kZ x σ.1) rfl (by decide) rfl rfl rfl (Nat.le_of_ble_eq_true rfl) ⟨Nat.le_of_ble_eq_true rfl, Nat.le_of_ble_eq_true rfl⟩ ⟨Nat.le_of_ble_eq_true rfl, Nat.le_of_ble_eq_true rfl⟩ d_S_give_8 rfl ?_
    refine j_if_ne C 16 14 d_S_give_11 rfl rfl (by omega) (fun c2 => ?_) (fun c2 => ?_)
    · have c2 := bP_1 c2
      refine j_aload_n (q := 17) C 0 rfl d_S_give_16 rfl ?_
      refine j_get (q := 20) C i_S rfl 0 rfl 3 (by decide) rfl rfl fl_S_9 d_S_give_17 rfl ?_
      refine j_iload_n (q := 21) C 1 rfl d_S_give_20 rfl ?_
      refine j_iald (q := 22) C 3 0 rfl rfl (by decide) (by omega) d_S_give_21 rfl ?_
      have h21 := hY a.toNat
      refine j_iload_n (q := 23) C 2 rfl d_S_give_22 rfl ?_
      refine j_icmp_ne C 28 26 d_S_give_23 rfl rfl (by omega) (by omega) (fun c3 => ?_) (fun c3 => ?_)
      · refine j_aload_n (q := 29) C 0 rfl d_S_give_28 rfl ?_
        refine j_get (q := 32) C i_S rfl 0 rfl 3 (by decide) rfl rfl fl_S_9 d_S_give_29 rfl ?_
        refine j_iload_n (q := 33) C 1 rfl d_S_give_32 rfl ?_
        refine j_iald (q := 34) C 3 0 rfl rfl (by decide) (by omega) d_S_give_33 rfl ?_
        have h33 := hY a.toNat
        refine j_iconst (q := 35) C d_S_give_34 rfl ?_
        refine j_icmp_ne C 56 38 d_S_give_35 rfl rfl (by omega) (by omega) (fun c4 => ?_) (fun c4 => ?_)
        · refine j_iconst (q := 57) C d_S_give_56 rfl ?_
          first | (exfalso; omega) | exact j_zret C hr hlk (by omega) d_S_give_57 (congrArg (fun z => some (Value.int (iI z))) (show (bI (gvO σ a b)) = (0) from bI_0 (fun h => by rcases h.2 with h1 | ⟨h0, h1, h2, h3, h4⟩ <;> omega))) (by rw [show gvS σ a b = σ from ifP_f (fun h => by obtain ⟨h0, h1, h2, h3, h4⟩ := h; omega)])
        · refine j_aload_n (q := 39) C 0 rfl d_S_give_38 rfl ?_
          refine j_get (q := 42) C i_S rfl 0 rfl 4 (by decide) rfl rfl fl_S_15 d_S_give_39 rfl ?_
          refine j_iload_n (q := 43) C 2 rfl d_S_give_42 rfl ?_
          refine j_zald (q := 44) C 1 1 rfl rfl (by decide) (by omega) d_S_give_43 rfl ?_
          have h43 := hST b.toNat
          refine j_if_ne C 56 47 d_S_give_44 rfl rfl (by omega) (fun c5 => ?_) (fun c5 => ?_)
          · refine j_iconst (q := 57) C d_S_give_56 rfl ?_
            first | (exfalso; omega) | exact j_zret C hr hlk (by omega) d_S_give_57 (congrArg (fun z => some (Value.int (iI z))) (show (bI (gvO σ a b)) = (0) from bI_0 (fun h => by rcases h.2 with h1 | ⟨h0, h1, h2, h3, h4⟩ <;> omega))) (by rw [show gvS σ a b = σ from ifP_f (fun h => by obtain ⟨h0, h1, h2, h3, h4⟩ := h; omega)])
          · refine j_aload_n (q := 48) C 0 rfl d_S_give_47 rfl ?_
            refine j_get (q := 51) C i_S rfl 0 rfl 6 (by decide) rfl rfl fl_S_22 d_S_give_48 rfl ?_
            refine j_bipush (q := 53) C d_S_give_51 rfl rfl ?_
            refine j_icmp_lt C 58 56 d_S_give_53 rfl rfl (by omega) (by omega) (fun c6 => ?_) (fun c6 => ?_)
            · refine j_aload_n (q := 59) C 0 rfl d_S_give_58 rfl ?_
              refine j_get (q := 62) C i_S rfl 0 rfl 3 (by decide) rfl rfl fl_S_9 d_S_give_59 rfl ?_
              refine j_iload_n (q := 63) C 1 rfl d_S_give_62 rfl ?_
              refine j_iload_n (q := 64) C 2 rfl d_S_give_63 rfl ?_
              refine j_iast (q := 65) C 3 0 rfl rfl (by decide) (by omega) (wS kI kZ x σ.2.1 σ.2.2.1 σ.2.2.2 sa sm sf ss ++ wY kI kZ x (uI σ.1 a.toNat b)) rfl d_S_give_64 rfl ?_
              refine j_aload_n (q := 66) C 0 rfl d_S_give_65 rfl ?_
              refine j_get (q := 69) C i_S rfl 0 rfl 4 (by decide) rfl rfl fl_S_15 d_S_give_66 rfl ?_
              refine j_iload_n (q := 70) C 2 rfl d_S_give_69 rfl ?_
              refine j_iconst (q := 71) C d_S_give_70 rfl ?_
              refine j_zast (q := 72) C 1 1 rfl rfl (by decide) (by omega) (by omega) (wS kI kZ x (uI σ.2.1 b.toNat 1) σ.2.2.1 σ.2.2.2 sa sm sf ss ++ wY kI kZ x (uI σ.1 a.toNat b)) rfl d_S_give_71 rfl ?_
              refine j_aload_n (q := 73) C 0 rfl d_S_give_72 rfl ?_
              refine j_get (q := 76) C i_S rfl 0 rfl 5 (by decide) rfl rfl fl_S_19 d_S_give_73 rfl ?_
              refine j_aload_n (q := 77) C 0 rfl d_S_give_76 rfl ?_
              refine j_get (q := 80) C i_S rfl 0 rfl 6 (by decide) rfl rfl fl_S_22 d_S_give_77 rfl ?_
              refine j_iload_n (q := 81) C 1 rfl d_S_give_80 rfl ?_
              refine j_iast (q := 82) C 2 0 rfl rfl (by decide) (by omega) (wS kI kZ x (uI σ.2.1 b.toNat 1) (uI σ.2.2.1 σ.2.2.2.toNat a) σ.2.2.2 sa sm sf ss ++ wY kI kZ x (uI σ.1 a.toNat b)) rfl d_S_give_81 rfl ?_
              refine j_aload_n (q := 83) C 0 rfl d_S_give_82 rfl ?_
              refine j_dup (q := 84) C rfl d_S_give_83 rfl ?_
              refine j_get (q := 87) C i_S rfl 0 rfl 6 (by decide) rfl rfl fl_S_22 d_S_give_84 rfl ?_
              refine j_iconst (q := 88) C d_S_give_87 rfl ?_
              refine j_iadd (q := 89) C d_S_give_88 rfl ?_
              refine j_put (q := 92) (ty := .int) C i_S rfl t_S t_S_ok n_S 0 rfl 6 (by decide) rfl fl_S_22 rfl (by decide +kernel) rfl rfl (Nat.le_of_ble_eq_true rfl) (wS kI kZ x (uI σ.2.1 b.toNat 1) (uI σ.2.2.1 σ.2.2.2.toNat a) (σ.2.2.2 + 1) sa sm sf ss ++ wY kI kZ x (uI σ.1 a.toNat b)) rfl d_S_give_89 rfl ?_
              refine j_iconst (q := 93) C d_S_give_92 rfl ?_
              first | (exfalso; omega) | exact j_zret C hr hlk (by omega) d_S_give_93 (congrArg (fun z => some (Value.int (iI z))) (show (bI (gvO σ a b)) = (1) from bI_1 ⟨by omega, Or.inr ⟨by omega, by omega, by omega, by omega, by omega⟩⟩)) (by rw [show gvS σ a b = (uI σ.1 a.toNat b, uI σ.2.1 b.toNat 1, uI σ.2.2.1 σ.2.2.2.toNat a, σ.2.2.2 + 1) from ifP_t ⟨by omega, by omega, by omega, by omega, by omega⟩])
            · refine j_iconst (q := 57) C d_S_give_56 rfl ?_
              first | (exfalso; omega) | exact j_zret C hr hlk (by omega) d_S_give_57 (congrArg (fun z => some (Value.int (iI z))) (show (bI (gvO σ a b)) = (0) from bI_0 (fun h => by rcases h.2 with h1 | ⟨h0, h1, h2, h3, h4⟩ <;> omega))) (by rw [show gvS σ a b = σ from ifP_f (fun h => by obtain ⟨h0, h1, h2, h3, h4⟩ := h; omega)])
      · refine j_iconst (q := 27) C d_S_give_26 rfl ?_
        first | (exfalso; omega) | exact j_zret C hr hlk (by omega) d_S_give_27 (congrArg (fun z => some (Value.int (iI z))) (show (bI (gvO σ a b)) = (1) from bI_1 ⟨by omega, Or.inl (by omega)⟩)) (by rw [show gvS σ a b = σ from ifP_f (fun h => by have h1 := h.2.1; omega)])
    · have c2 := bP_0 c2
      refine j_iconst (q := 15) C d_S_give_14 rfl ?_
      first | (exfalso; omega) | exact j_zret C hr hlk (by omega) d_S_give_15 (congrArg (fun z => some (Value.int (iI z))) (show (bI (gvO σ a b)) = (0) from bI_0 (fun h => by have h1 := h.1; omega))) (by rw [show gvS σ a b = σ from ifP_f (fun h => by have h1 := h.1; omega)])
set_option maxRecDepth 100000 in
set_option maxHeartbeats 4000000 in
theorem c_S_agrees {l : Launch} {D : va_G} (kI kZ : ClassId) (x : Nat → Nat) (σ : T4) (hσ : I4 σ) (sa sm sf ss : Int) (WP WL WC : Nat → Int) (wn wk : Int) (hW : IW WP WL WC wn wk) (KS KB KE KZ KV : Nat → Int) (kn kw : Int) (hK : IK KS KB KE KZ KV kn kw) (cw wd : Int) (hcw : (-2147483648 ≤ cw ∧ cw < 2147483648)) (hwd : (-2147483648 ≤ wd ∧ wd < 2147483648)) : Dt l D (ty2 kI kZ) y_S_agrees w_S_agrees { frames := 2, cells := 0, slots := 0, locals := 43 } [.ref (x 16), .int (iI (cw)), .int (iI (wd))] (wS kI kZ x σ.2.1 σ.2.2.1 σ.2.2.2 sa sm sf ss ++ wY kI kZ x σ.1 ++ wW kI kZ x WP WL WC wn wk ++ wK kI kZ x KS KB KE KZ KV kn kw) (some (.int (iI ((agF (fun j => nmAt KS KB KE kn kw cw j) (fun j => plAt WP WL wn wd j) σ (lnOf WL wn wd).toNat).2)))) (wS kI kZ x ((agF (fun j => nmAt KS KB KE kn kw cw j) (fun j => plAt WP WL wn wd j) σ (lnOf WL wn wd).toNat).1.2.1) ((agF (fun j => nmAt KS KB KE kn kw cw j) (fun j => plAt WP WL wn wd j) σ (lnOf WL wn wd).toNat).1.2.2.1) ((agF (fun j => nmAt KS KB KE kn kw cw j) (fun j => plAt WP WL wn wd j) σ (lnOf WL wn wd).toNat).1.2.2.2) sa sm sf ss ++ wY kI kZ x ((agF (fun j => nmAt KS KB KE kn kw cw j) (fun j => plAt WP WL wn wd j) σ (lnOf WL wn wd).toNat).1.1) ++ wW kI kZ x WP WL WC wn wk ++ wK kI kZ x KS KB KE KZ KV kn kw) := by
  refine Met.toJ (own := R_S) (QD D (some (.int (iI ((agF (fun j => nmAt KS KB KE kn kw cw j) (fun j => plAt WP WL wn wd j) σ (lnOf WL wn wd).toNat).2)))) (wS kI kZ x ((agF (fun j => nmAt KS KB KE kn kw cw j) (fun j => plAt WP WL wn wd j) σ (lnOf WL wn wd).toNat).1.2.1) ((agF (fun j => nmAt KS KB KE kn kw cw j) (fun j => plAt WP WL wn wd j) σ (lnOf WL wn wd).toNat).1.2.2.1) ((agF (fun j => nmAt KS KB KE kn kw cw j) (fun j => plAt WP WL wn wd j) σ (lnOf WL wn wd).toNat).1.2.2.2) sa sm sf ss ++ wY kI kZ x ((agF (fun j => nmAt KS KB KE kn kw cw j) (fun j => plAt WP WL wn wd j) σ (lnOf WL wn wd).toNat).1.1) ++ wW kI kZ x WP WL WC wn wk ++ wK kI kZ x KS KB KE KZ KV kn kw)) mk_S_agrees rfl (Nat.le_of_ble_eq_true rfl) ?_
  intro p e s m args below meth c A C hr hlk hnm
  show JJ p l e { frames := 2, cells := 0, slots := 0, locals := 43 } s m args below meth c D A 5 (MQ below (QD D (some (.int (iI ((agF (fun j => nmAt KS KB KE kn kw cw j) (fun j => plAt WP WL wn wd j) σ (lnOf WL wn wd).toNat).2)))) (wS kI kZ x ((agF (fun j => nmAt KS KB KE kn kw cw j) (fun j => plAt WP WL wn wd j) σ (lnOf WL wn wd).toNat).1.2.1) ((agF (fun j => nmAt KS KB KE kn kw cw j) (fun j => plAt WP WL wn wd j) σ (lnOf WL wn wd).toNat).1.2.2.1) ((agF (fun j => nmAt KS KB KE kn kw cw j) (fun j => plAt WP WL wn wd j) σ (lnOf WL wn wd).toNat).1.2.2.2) sa sm sf ss ++ wY kI kZ x ((agF (fun j => nmAt KS KB KE kn kw cw j) (fun j => plAt WP WL wn wd j) σ (lnOf WL wn wd).toNat).1.1) ++ wW kI kZ x WP WL WC wn wk ++ wK kI kZ x KS KB KE KZ KV kn kw) A) args s 0 0 A) 0 0 0 [(0, .ref (x 16)), (1, .int (iI (cw))), (2, .int (iI (wd)))] [] (wS kI kZ x σ.2.1 σ.2.2.1 σ.2.2.2 sa sm sf ss ++ wY kI kZ x σ.1 ++ wW kI kZ x WP WL WC wn wk ++ wK kI kZ x KS KB KE KZ KV kn kw)
  obtain ⟨hwn, hwk, hWL, hWP, hWC⟩ := id hW
  obtain ⟨hkn, hkw, hKS, hKB, hKE, hKZ, hKV⟩ := id hK
  refine j_aload_n (q := 1) C 0 rfl d_S_agrees_0 rfl ?_
  refine j_get (q := 4) C i_S rfl 0 rfl 0 (by decide) rfl rfl fl_S_39 d_S_agrees_1 rfl ?_
  refine j_iload_n (q := 5) C 2 rfl d_S_agrees_4 rfl ?_
  have e5 := lnOf_r hW wd
  refine j_callV (q := 8) (wr := wS kI kZ x σ.2.1 σ.2.2.1 σ.2.2.2 sa sm sf ss ++ wY kI kZ x σ.1 ++ wK kI kZ x KS KB KE KZ KV kn kw) C [.int (iI (wd))] [] (c_W_lengthOf kI kZ x WP WL WC wn wk hW wd (by omega)) ml_S_99 mk_W_lengthOf in_W_lengthOf se_W_lengthOf rfl rfl rfl [4, 5, 6, 7] [0, 1, 2, 3, 8, 9, 10, 11, 12, 13] [0, 1, 2, 3, 10, 11, 12, 13, 4, 5, 6, 7, 8, 9] rfl (by decide) rfl (by decide) (by decide) (wS kI kZ x σ.2.1 σ.2.2.1 σ.2.2.2 sa sm sf ss ++ wY kI kZ x σ.1 ++ wW kI kZ x WP WL WC wn wk ++ wK kI kZ x KS KB KE KZ KV kn kw) rfl (by decide) rfl rfl rfl (Nat.le_of_ble_eq_true rfl) ⟨Nat.le_of_ble_eq_true rfl, Nat.le_of_ble_eq_true rfl⟩ ⟨Nat.le_of_ble_eq_true rfl, Nat.le_of_ble_eq_true rfl⟩ d_S_agrees_5 rfl ?_
  refine j_istore_n (q := 9) C [(0, .ref (x 16)), (1, .int (iI (cw))), (2, .int (iI (wd))), (3, .int (iI (lnOf WL wn wd)))] rfl (by decide) d_S_agrees_8 rfl ?_
  refine j_iconst (q := 10) C d_S_agrees_9 rfl ?_
  refine j_istore (q := 12) C [(0, .ref (x 16)), (1, .int (iI (cw))), (2, .int (iI (wd))), (3, .int (iI (lnOf WL wn wd))), (4, .int (iI (0)))] rfl (by decide) d_S_agrees_10 rfl ?_
  have lp12 : ∀ (N : Nat) (i : Int) (τ : T4), (0 ≤ i ∧ i ≤ lnOf WL wn wd) → ((τ, (1 : Int)) = agF (fun j => nmAt KS KB KE kn kw cw j) (fun j => plAt WP WL wn wd j) σ i.toNat) → (True) → (I4 τ) → (lnOf WL wn wd - i).toNat < N → JJ p l e { frames := 2, cells := 0, slots := 0, locals := 43 } s m args below meth c D A 5 (MQ below (QD D (some (.int (iI ((agF (fun j => nmAt KS KB KE kn kw cw j) (fun j => plAt WP WL wn wd j) σ (lnOf WL wn wd).toNat).2)))) (wS kI kZ x ((agF (fun j => nmAt KS KB KE kn kw cw j) (fun j => plAt WP WL wn wd j) σ (lnOf WL wn wd).toNat).1.2.1) ((agF (fun j => nmAt KS KB KE kn kw cw j) (fun j => plAt WP WL wn wd j) σ (lnOf WL wn wd).toNat).1.2.2.1) ((agF (fun j => nmAt KS KB KE kn kw cw j) (fun j => plAt WP WL wn wd j) σ (lnOf WL wn wd).toNat).1.2.2.2) sa sm sf ss ++ wY kI kZ x ((agF (fun j => nmAt KS KB KE kn kw cw j) (fun j => plAt WP WL wn wd j) σ (lnOf WL wn wd).toNat).1.1) ++ wW kI kZ x WP WL WC wn wk ++ wK kI kZ x KS KB KE KZ KV kn kw) A) args s 0 0 A) 0 0 12 [(0, .ref (x 16)), (1, .int (iI (cw))), (2, .int (iI (wd))), (3, .int (iI (lnOf WL wn wd))), (4, .int (iI (i)))] [] (wS kI kZ x τ.2.1 τ.2.2.1 τ.2.2.2 sa sm sf ss ++ wY kI kZ x τ.1 ++ wW kI kZ x WP WL WC wn wk ++ wK kI kZ x KS KB KE KZ KV kn kw) := by
    intro N
    induction N with
    | zero =>
      intro i τ i0 i1 i2 i3 hN
      omega
    | succ N ih12 =>
      intro i τ i0 i1 i2 i3 hN
      refine j_iload (q := 14) C 4 rfl d_S_agrees_12 rfl ?_
      refine j_iload_n (q := 15) C 3 rfl d_S_agrees_14 rfl ?_
      refine j_icmp_ge C 53 18 d_S_agrees_15 rfl rfl (by omega) (by omega) (fun c1 => ?_) (fun c1 => ?_)
      · refine j_iconst (q := 54) C d_S_agrees_53 rfl ?_
        exact j_zret C hr hlk (by omega) d_S_agrees_54 (congrArg (fun z => some (Value.int (iI z))) (show ((agF (fun j => nmAt KS KB KE kn kw cw j) (fun j => plAt WP WL wn wd j) σ (lnOf WL wn wd).toNat).2) = (1) from by rw [show lnOf WL wn wd = i from by omega, ← i1])) (by rw [show (lnOf WL wn wd).toNat = i.toNat from by omega, ← i1])
      · refine j_aload_n (q := 19) C 0 rfl d_S_agrees_18 rfl ?_
        refine j_aload_n (q := 20) C 0 rfl d_S_agrees_19 rfl ?_
        refine j_get (q := 23) C i_S rfl 0 rfl 1 (by decide) rfl rfl fl_S_43 d_S_agrees_20 rfl ?_
        refine j_iload_n (q := 24) C 1 rfl d_S_agrees_23 rfl ?_
        refine j_iload (q := 26) C 4 rfl d_S_agrees_24 rfl ?_
        have e26 := nmAt_r (KB := KB) (KE := KE) hKS kn kw cw i
        refine j_callV (q := 29) (wr := wS kI kZ x τ.2.1 τ.2.2.1 τ.2.2.2 sa sm sf ss ++ wY kI kZ x τ.1 ++ wW kI kZ x WP WL WC wn wk) C [.int (iI (cw)), .int (iI (i))] [.ref (x 16)] (c_K_numberAt kI kZ x KS KB KE KZ KV kn kw hK cw i (by omega) (by omega)) ml_S_113 mk_K_numberAt in_K_numberAt se_K_numberAt rfl rfl rfl [8, 9, 10, 11, 12, 13] [0, 1, 2, 3, 4, 5, 6, 7] [0, 1, 2, 3, 4, 5, 6, 7, 8, 9, 10, 11, 12, 13] rfl (by decide) rfl (by decide) (by decide) (wS kI kZ x τ.2.1 τ.2.2.1 τ.2.2.2 sa sm sf ss ++ wY kI kZ x τ.1 ++ wW kI kZ x WP WL WC wn wk ++ wK kI kZ x KS KB KE KZ KV kn kw) rfl (by decide) rfl rfl rfl (Nat.le_of_ble_eq_true rfl) ⟨Nat.le_of_ble_eq_true rfl, Nat.le_of_ble_eq_true rfl⟩ ⟨Nat.le_of_ble_eq_true rfl, Nat.le_of_ble_eq_true rfl⟩ d_S_agrees_26 rfl ?_
        refine j_aload_n (q := 30) C 0 rfl d_S_agrees_29 rfl ?_
        refine j_get (q := 33) C i_S rfl 0 rfl 0 (by decide) rfl rfl fl_S_39 d_S_agrees_30 rfl ?_
        refine j_iload_n (q := 34) C 2 rfl d_S_agrees_33 rfl ?_
        refine j_iload (q := 36) C 4 rfl d_S_agrees_34 rfl ?_
        have e36 := plAt_r hW wd i
        refine j_callV (q := 39) (wr := wS kI kZ x τ.2.1 τ.2.2.1 τ.2.2.2 sa sm sf ss ++ wY kI kZ x τ.1 ++ wK kI kZ x KS KB KE KZ KV kn kw) C [.int (iI (wd)), .int (iI (i))] [.int (iI (nmAt KS KB KE kn kw cw i)), .ref (x 16)] (c_W_placeAt kI kZ x WP WL WC wn wk hW wd i (by omega) (by omega)) ml_S_117 mk_W_placeAt in_W_placeAt se_W_placeAt rfl rfl rfl [4, 5, 6, 7] [0, 1, 2, 3, 8, 9, 10, 11, 12, 13] [0, 1, 2, 3, 10, 11, 12, 13, 4, 5, 6, 7, 8, 9] rfl (by decide) rfl (by decide) (by decide) (wS kI kZ x τ.2.1 τ.2.2.1 τ.2.2.2 sa sm sf ss ++ wY kI kZ x τ.1 ++ wW kI kZ x WP WL WC wn wk ++ wK kI kZ x KS KB KE KZ KV kn kw) rfl (by decide) rfl rfl rfl (Nat.le_of_ble_eq_true rfl) ⟨Nat.le_of_ble_eq_true rfl, Nat.le_of_ble_eq_true rfl⟩ ⟨Nat.le_of_ble_eq_true rfl, Nat.le_of_ble_eq_true rfl⟩ d_S_agrees_36 rfl ?_
        have e39 := bI_r (gvO τ (nmAt KS KB KE kn kw cw i) (plAt WP WL wn wd i))
        refine j_callV (q := 42) (wr := wW kI kZ x WP WL WC wn wk ++ wK kI kZ x KS KB KE KZ KV kn kw) C [.int (iI (nmAt KS KB KE kn kw cw i)), .int (iI (plAt WP WL wn wd i))] [] (c_S_give kI kZ x τ i3 sa sm sf ss (nmAt KS KB KE kn kw cw i) (plAt WP WL wn wd i) (by omega) (by omega)) ml_S_120 mk_S_give in_S_give se_S_give rfl rfl rfl [0, 1, 2, 3] [4, 5, 6, 7, 8, 9, 10, 11, 12, 13] [10, 11, 12, 13, 0, 1, 2, 3, 4, 5, 6, 7, 8, 9] rfl (by decide) rfl (by decide) (by decide) (wS kI kZ x ((gvS τ (nmAt KS KB KE kn kw cw i) (plAt WP WL wn wd i)).2.1) ((gvS τ (nmAt KS KB KE kn kw cw i) (plAt WP WL wn wd i)).2.2.1) ((gvS τ (nmAt KS KB KE kn kw cw i) (plAt WP WL wn wd i)).2.2.2) sa sm sf ss ++ wY kI kZ x ((gvS τ (nmAt KS KB KE kn kw cw i) (plAt WP WL wn wd i)).1) ++ wW kI kZ x WP WL WC wn wk ++ wK kI kZ x KS KB KE KZ KV kn kw) rfl (by decide) rfl rfl rfl (Nat.le_of_ble_eq_true rfl) ⟨Nat.le_of_ble_eq_true rfl, Nat.le_of_ble_eq_true rfl⟩ ⟨Nat.le_of_ble_eq_true rfl, Nat.le_of_ble_eq_true rfl⟩ d_S_agrees_39 rfl ?_
        refine j_if_ne C 47 45 d_S_agrees_42 rfl rfl (by omega) (fun c2 => ?_) (fun c2 => ?_)
        · have c2 := bI_n c2
          refine j_iinc (q := 50) C 4 [(0, .ref (x 16)), (1, .int (iI (cw))), (2, .int (iI (wd))), (3, .int (iI (lnOf WL wn wd))), (4, .int (iI (i + 1)))] rfl rfl (by decide) d_S_agrees_47 rfl ?_
          refine j_goto C 12 d_S_agrees_50 rfl ?_
          exact ih12 (i + 1) _ (by omega) (by rw [agF_s _ _ _ i0.1, ← i1, if_neg (show ¬ (1 : Int) = 0 by omega), bI_1 c2]) trivial (gvS_r i3 _ _) (by omega)
        · have c2 := bI_z c2
          have k45 : agF (fun j => nmAt KS KB KE kn kw cw j) (fun j => plAt WP WL wn wd j) σ (i + 1).toNat = (gvS τ (nmAt KS KB KE kn kw cw i) (plAt WP WL wn wd i), bI (gvO τ (nmAt KS KB KE kn kw cw i) (plAt WP WL wn wd i))) := by rw [agF_s _ _ _ i0.1, ← i1]; exact if_neg (show ¬ (1 : Int) = 0 by omega)
          have k46 : (agF (fun j => nmAt KS KB KE kn kw cw j) (fun j => plAt WP WL wn wd j) σ (i + 1).toNat).2 = 0 := by rw [k45]; exact bI_0 c2
          refine j_iconst (q := 46) C d_S_agrees_45 rfl ?_
          first | (exfalso; omega) | exact j_zret C hr hlk (by omega) d_S_agrees_46 (congrArg (fun z => some (Value.int (iI z))) (show ((agF (fun j => nmAt KS KB KE kn kw cw j) (fun j => plAt WP WL wn wd j) σ (lnOf WL wn wd).toNat).2) = (0) from by have q := agF_z (k := (lnOf WL wn wd).toNat - (i + 1).toNat) k46; rw [show (i + 1).toNat + ((lnOf WL wn wd).toNat - (i + 1).toNat) = (lnOf WL wn wd).toNat from by omega] at q; rw [q, k46])) (by have q := agF_z (k := (lnOf WL wn wd).toNat - (i + 1).toNat) k46; rw [show (i + 1).toNat + ((lnOf WL wn wd).toNat - (i + 1).toNat) = (lnOf WL wn wd).toNat from by omega] at q; rw [q, k45])
  exact lp12 ((lnOf WL wn wd).toNat + 1) 0 σ (by omega) rfl trivial hσ (by omega)
theorem uI_id {f : Nat → Int} {i : Nat} {v : Int} (h : f i = v) : uI f i v = f := by
  funext j
  unfold uI
  split
  · rename_i q
    rw [q, h]
  · rfl

set_option maxRecDepth 100000 in
set_option maxHeartbeats 4000000 in
theorem c_S_release {l : Launch} {D : va_G} (kI kZ : ClassId) (x : Nat → Nat) (SP : Nat → Int) (hY : IY SP) (ST SG : Nat → Int) (sg sa sm sf ss : Int) (n : Int) (hn : 0 ≤ n ∧ n < 26) : Dt l D (ty2 kI kZ) y_S_release w_S_release { frames := 1, cells := 0, slots := 0, locals := 20 } [.ref (x 16), .int (iI (n))] (wS kI kZ x ST SG sg sa sm sf ss ++ wY kI kZ x SP) none (wS kI kZ x (ifP (0 ≤ SP n.toNat ∧ SP n.toNat < 26) (uI ST (SP n.toNat).toNat 0) ST) SG sg sa sm sf ss ++ wY kI kZ x (uI SP n.toNat (-1))) := by
  refine Met.toJ (own := R_S) (QD D none (wS kI kZ x (ifP (0 ≤ SP n.toNat ∧ SP n.toNat < 26) (uI ST (SP n.toNat).toNat 0) ST) SG sg sa sm sf ss ++ wY kI kZ x (uI SP n.toNat (-1)))) mk_S_release rfl (Nat.le_of_ble_eq_true rfl) ?_
  intro p e s m args below meth c A C hr hlk hnm
  show JJ p l e { frames := 1, cells := 0, slots := 0, locals := 20 } s m args below meth c D A 2 (MQ below (QD D none (wS kI kZ x (ifP (0 ≤ SP n.toNat ∧ SP n.toNat < 26) (uI ST (SP n.toNat).toNat 0) ST) SG sg sa sm sf ss ++ wY kI kZ x (uI SP n.toNat (-1))) A) args s 0 0 A) 0 0 0 [(0, .ref (x 16)), (1, .int (iI (n)))] [] (wS kI kZ x ST SG sg sa sm sf ss ++ wY kI kZ x SP)
  refine j_iload_n (q := 1) C 1 rfl d_S_release_0 rfl ?_
  have e1 := bP_r n
  refine j_callN (q := 4) (wr := wS kI kZ x ST SG sg sa sm sf ss ++ wY kI kZ x SP) C [.int (iI (n))] [] (c_C_isNumber kI kZ x n (by omega)) nl_S_123 mk_C_isNumber st_C_isNumber [] [0, 1, 2, 3] [0, 1, 2, 3] rfl (by decide) rfl (by decide) (by decide) (wS kI kZ x ST SG sg sa sm sf ss ++ wY kI kZ x SP) rfl (by decide) rfl rfl rfl (Nat.le_of_ble_eq_true rfl) ⟨Nat.le_of_ble_eq_true rfl, Nat.le_of_ble_eq_true rfl⟩ ⟨Nat.le_of_ble_eq_true rfl, Nat.le_of_ble_eq_true rfl⟩ d_S_release_1 rfl ?_
  refine j_if_eq C 19 7 d_S_release_4 rfl rfl (by omega) (fun c1 => ?_) (fun c1 => ?_)
  · have c1 := bP_0 c1
    exfalso; omega
  · have c1 := bP_1 c1
    refine j_aload_n (q := 8) C 0 rfl d_S_release_7 rfl ?_
    refine j_get (q := 11) C i_S rfl 0 rfl 3 (by decide) rfl rfl fl_S_9 d_S_release_8 rfl ?_
    refine j_iload_n (q := 12) C 1 rfl d_S_release_11 rfl ?_
    refine j_iald (q := 13) C 3 0 rfl rfl (by decide) (by omega) d_S_release_12 rfl ?_
    have h12 := hY n.toNat
    have e13 := bP_r (SP n.toNat)
    refine j_callN (q := 16) (wr := wS kI kZ x ST SG sg sa sm sf ss ++ wY kI kZ x SP) C [.int (iI (SP n.toNat))] [] (c_C_isPlace kI kZ x (SP n.toNat) (by omega)) nl_S_80 mk_C_isPlace st_C_isPlace [] [0, 1, 2, 3] [0, 1, 2, 3] rfl (by decide) rfl (by decide) (by decide) (wS kI kZ x ST SG sg sa sm sf ss ++ wY kI kZ x SP) rfl (by decide) rfl rfl rfl (Nat.le_of_ble_eq_true rfl) ⟨Nat.le_of_ble_eq_true rfl, Nat.le_of_ble_eq_true rfl⟩ ⟨Nat.le_of_ble_eq_true rfl, Nat.le_of_ble_eq_true rfl⟩ d_S_release_13 rfl ?_
    refine j_if_ne C 20 19 d_S_release_16 rfl rfl (by omega) (fun c2 => ?_) (fun c2 => ?_)
    · have c2 := bP_1 c2
      refine j_aload_n (q := 21) C 0 rfl d_S_release_20 rfl ?_
      refine j_get (q := 24) C i_S rfl 0 rfl 4 (by decide) rfl rfl fl_S_15 d_S_release_21 rfl ?_
      refine j_aload_n (q := 25) C 0 rfl d_S_release_24 rfl ?_
      refine j_get (q := 28) C i_S rfl 0 rfl 3 (by decide) rfl rfl fl_S_9 d_S_release_25 rfl ?_
      refine j_iload_n (q := 29) C 1 rfl d_S_release_28 rfl ?_
      refine j_iald (q := 30) C 3 0 rfl rfl (by decide) (by omega) d_S_release_29 rfl ?_
      have h29 := hY n.toNat
      refine j_iconst (q := 31) C d_S_release_30 rfl ?_
      refine j_zast (q := 32) C 1 1 rfl rfl (by decide) (by omega) (by omega) (wS kI kZ x (uI ST (SP n.toNat).toNat 0) SG sg sa sm sf ss ++ wY kI kZ x SP) rfl d_S_release_31 rfl ?_
      refine j_aload_n (q := 33) C 0 rfl d_S_release_32 rfl ?_
      refine j_get (q := 36) C i_S rfl 0 rfl 3 (by decide) rfl rfl fl_S_9 d_S_release_33 rfl ?_
      refine j_iload_n (q := 37) C 1 rfl d_S_release_36 rfl ?_
      refine j_iconst (q := 38) C d_S_release_37 rfl ?_
      refine j_iast (q := 39) C 3 0 rfl rfl (by decide) (by omega) (wS kI kZ x (uI ST (SP n.toNat).toNat 0) SG sg sa sm sf ss ++ wY kI kZ x (uI SP n.toNat (-1))) rfl d_S_release_38 rfl ?_
      first | (exfalso; omega) | exact j_vret C hr hlk d_S_release_39 (by rw [ifP_t (by omega)])
    · have c2 := bP_0 c2
      first | (exfalso; omega) | exact j_vret C hr hlk d_S_release_19 (by rw [show uI SP n.toNat (-1) = SP from uI_id (by omega), ifP_f (by omega)])
set_option maxRecDepth 100000 in
set_option maxHeartbeats 4000000 in
theorem c_S_takeBack {l : Launch} {D : va_G} (kI kZ : ClassId) (x : Nat → Nat) (σ : T4) (hσ : I4 σ) (sa sm sf ss : Int) (b : Int) (hb : 0 ≤ b ∧ b ≤ σ.2.2.2) : Dt l D (ty2 kI kZ) y_S_takeBack w_S_takeBack { frames := 2, cells := 0, slots := 0, locals := 41 } [.ref (x 16), .int (iI (b))] (wS kI kZ x σ.2.1 σ.2.2.1 σ.2.2.2 sa sm sf ss ++ wY kI kZ x σ.1) none (wS kI kZ x ((unT σ (σ.2.2.2 - b).toNat).2) σ.2.2.1 b sa sm sf ss ++ wY kI kZ x ((unT σ (σ.2.2.2 - b).toNat).1)) := by
  refine Met.toJ (own := R_S) (QD D none (wS kI kZ x ((unT σ (σ.2.2.2 - b).toNat).2) σ.2.2.1 b sa sm sf ss ++ wY kI kZ x ((unT σ (σ.2.2.2 - b).toNat).1))) mk_S_takeBack rfl (Nat.le_of_ble_eq_true rfl) ?_
  intro p e s m args below meth c A C hr hlk hnm
  show JJ p l e { frames := 2, cells := 0, slots := 0, locals := 41 } s m args below meth c D A 3 (MQ below (QD D none (wS kI kZ x ((unT σ (σ.2.2.2 - b).toNat).2) σ.2.2.1 b sa sm sf ss ++ wY kI kZ x ((unT σ (σ.2.2.2 - b).toNat).1)) A) args s 0 0 A) 0 0 0 [(0, .ref (x 16)), (1, .int (iI (b)))] [] (wS kI kZ x σ.2.1 σ.2.2.1 σ.2.2.2 sa sm sf ss ++ wY kI kZ x σ.1)
  obtain ⟨hY, hST, hSG, hsg⟩ := id hσ
  refine j_aload_n (q := 1) C 0 rfl d_S_takeBack_0 rfl ?_
  refine j_get (q := 4) C i_S rfl 0 rfl 6 (by decide) rfl rfl fl_S_22 d_S_takeBack_1 rfl ?_
  refine j_iconst (q := 5) C d_S_takeBack_4 rfl ?_
  refine j_isub (q := 6) C d_S_takeBack_5 rfl ?_
  refine j_istore_n (q := 7) C [(0, .ref (x 16)), (1, .int (iI (b))), (2, .int (iI (σ.2.2.2 - 1)))] rfl (by decide) d_S_takeBack_6 rfl ?_
  have lp7 : ∀ (N : Nat) (kk : Nat), ((kk : Int) ≤ σ.2.2.2 - b) → (σ.2.2.2 - b - kk).toNat < N → JJ p l e { frames := 2, cells := 0, slots := 0, locals := 41 } s m args below meth c D A 3 (MQ below (QD D none (wS kI kZ x ((unT σ (σ.2.2.2 - b).toNat).2) σ.2.2.1 b sa sm sf ss ++ wY kI kZ x ((unT σ (σ.2.2.2 - b).toNat).1)) A) args s 0 0 A) 0 0 7 [(0, .ref (x 16)), (1, .int (iI (b))), (2, .int (iI (σ.2.2.2 - 1 - kk)))] [] (wS kI kZ x ((unT σ kk).2) σ.2.2.1 σ.2.2.2 sa sm sf ss ++ wY kI kZ x ((unT σ kk).1)) := by
    intro N
    induction N with
    | zero =>
      intro kk i0 hN
      omega
    | succ N ih7 =>
      intro kk i0 hN
      refine j_iload_n (q := 8) C 2 rfl d_S_takeBack_7 rfl ?_
      refine j_iload_n (q := 9) C 1 rfl d_S_takeBack_8 rfl ?_
      refine j_icmp_lt C 28 12 d_S_takeBack_9 rfl rfl (by omega) (by omega) (fun c1 => ?_) (fun c1 => ?_)
      · refine j_aload_n (q := 29) C 0 rfl d_S_takeBack_28 rfl ?_
        refine j_iload_n (q := 30) C 1 rfl d_S_takeBack_29 rfl ?_
        refine j_put (q := 33) (ty := .int) C i_S rfl t_S t_S_ok n_S 0 rfl 6 (by decide) rfl fl_S_22 rfl (by decide +kernel) rfl rfl (Nat.le_of_ble_eq_true rfl) (wS kI kZ x ((unT σ kk).2) σ.2.2.1 b sa sm sf ss ++ wY kI kZ x ((unT σ kk).1)) rfl d_S_takeBack_30 rfl ?_
        exact j_vret C hr hlk d_S_takeBack_33 (by rw [show (σ.2.2.2 - b).toNat = kk from by omega])
      · refine j_aload_n (q := 13) C 0 rfl d_S_takeBack_12 rfl ?_
        refine j_aload_n (q := 14) C 0 rfl d_S_takeBack_13 rfl ?_
        refine j_get (q := 17) C i_S rfl 0 rfl 5 (by decide) rfl rfl fl_S_19 d_S_takeBack_14 rfl ?_
        refine j_iload_n (q := 18) C 2 rfl d_S_takeBack_17 rfl ?_
        refine j_iald (q := 19) C 2 0 rfl rfl (by decide) (by omega) d_S_takeBack_18 rfl ?_
        have h18 := hSG (σ.2.2.2 - 1 - kk).toNat
        refine j_callV (q := 22) (wr := []) C [.int (iI (σ.2.2.1 (σ.2.2.2 - 1 - kk).toNat))] [] (c_S_release kI kZ x ((unT σ kk).1) ((unT_r hσ kk).1) ((unT σ kk).2) σ.2.2.1 σ.2.2.2 sa sm sf ss (σ.2.2.1 (σ.2.2.2 - 1 - kk).toNat) (by omega)) ml_S_126 mk_S_release in_S_release se_S_release rfl rfl rfl [0, 1, 2, 3] [] [0, 1, 2, 3] rfl (by decide) rfl (by decide) (by decide) (wS kI kZ x (ifP (0 ≤ ((unT σ kk).1) (σ.2.2.1 (σ.2.2.2 - 1 - kk).toNat).toNat ∧ ((unT σ kk).1) (σ.2.2.1 (σ.2.2.2 - 1 - kk).toNat).toNat < 26) (uI ((unT σ kk).2) (((unT σ kk).1) (σ.2.2.1 (σ.2.2.2 - 1 - kk).toNat).toNat).toNat 0) ((unT σ kk).2)) σ.2.2.1 σ.2.2.2 sa sm sf ss ++ wY kI kZ x (uI ((unT σ kk).1) (σ.2.2.1 (σ.2.2.2 - 1 - kk).toNat).toNat (-1))) rfl (by decide) rfl rfl rfl (Nat.le_of_ble_eq_true rfl) ⟨Nat.le_of_ble_eq_true rfl, Nat.le_of_ble_eq_true rfl⟩ ⟨Nat.le_of_ble_eq_true rfl, Nat.le_of_ble_eq_true rfl⟩ d_S_takeBack_19 rfl ?_
        refine j_iinc (q := 25) C 2 [(0, .ref (x 16)), (1, .int (iI (b))), (2, .int (iI ((σ.2.2.2 - 1 - kk) + (-1))))] rfl rfl (by decide) d_S_takeBack_22 rfl ?_
        refine j_goto C 7 d_S_takeBack_25 rfl ?_
        rw [show σ.2.2.2 - 1 - (kk : Int) + -1 = σ.2.2.2 - 1 - ((kk + 1 : Nat) : Int) from by omega]
        have z1 : unT σ (kk + 1) = (uI ((unT σ kk).1) (σ.2.2.1 (σ.2.2.2 - 1 - kk).toNat).toNat (-1), ifP (0 ≤ ((unT σ kk).1) (σ.2.2.1 (σ.2.2.2 - 1 - kk).toNat).toNat ∧ ((unT σ kk).1) (σ.2.2.1 (σ.2.2.2 - 1 - kk).toNat).toNat < 26) (uI ((unT σ kk).2) (((unT σ kk).1) (σ.2.2.1 (σ.2.2.2 - 1 - kk).toNat).toNat).toNat 0) ((unT σ kk).2)) := by rw [unT_s]
        have z2 := ih7 (kk + 1) (by omega) (by omega)
        rw [z1] at z2
        exact z2
  have z0 : (σ.2.2.2 - 1 : Int) = σ.2.2.2 - 1 - ((0 : Nat) : Int) := by omega
  rw [z0]
  exact lp7 ((σ.2.2.2 - b).toNat + 1) 0 (by omega) (by omega)
