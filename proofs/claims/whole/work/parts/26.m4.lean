theorem mnB_ex {g : Int → Int} {n : Nat} (h : ¬ mnB g n = -1) : ∃ i : Int, (0 ≤ i ∧ i < n) ∧ ¬ g i = -1 ∧ mnB g n = g i + 1 := by
  induction n with
  | zero => exact absurd rfl h
  | succ n ih =>
    have e : mnB g (n + 1) = if ¬ g n = -1 ∧ (mnB g n = -1 ∨ g n + 1 < mnB g n) then g n + 1 else mnB g n := rfl
    rw [e] at h ⊢
    by_cases c : ¬ g n = -1 ∧ (mnB g n = -1 ∨ g n + 1 < mnB g n)
    · rw [if_pos c]
      exact ⟨n, by omega, c.1, rfl⟩
    · rw [if_neg c] at h ⊢
      obtain ⟨i, h1, h2, h3⟩ := ih h
      exact ⟨i, by omega, h2, h3⟩
theorem mnB_c {f g : Int → Int} {n : Nat} (h : ∀ i : Int, 0 ≤ i → i < n → f i = g i) : mnB f n = mnB g n := by
  induction n with
  | zero => rfl
  | succ n ih =>
    have e1 : mnB f (n + 1) = if ¬ f n = -1 ∧ (mnB f n = -1 ∨ f n + 1 < mnB f n) then f n + 1 else mnB f n := rfl
    have e2 : mnB g (n + 1) = if ¬ g n = -1 ∧ (mnB g n = -1 ∨ g n + 1 < mnB g n) then g n + 1 else mnB g n := rfl
    rw [e1, e2, ih (fun i h1 h2 => h i h1 (by omega)), h n (by omega) (by omega)]
theorem fwA_1 (BF WP WL : Nat → Int) (wn : Int) (XP : Nat → Int) (xn : Int) (k : Nat) : fwA BF WP WL wn XP xn (k + 1) = uI (fwA BF WP WL wn XP xn k) (xn - 1 - k).toNat (mnB (fun w => fbB (fwA BF WP WL wn XP xn k) WP WL wn XP xn w (xn - 1 - k)) wn.toNat) := rfl
/-- places done stay as they are -/
theorem fwA_k {BF WP WL : Nat → Int} {wn : Int} {XP : Nat → Int} {xn : Int} (k d : Nat) (hd : (k + d : Nat) ≤ xn) (j : Nat) (hj : xn - k ≤ (j : Int)) : fwA BF WP WL wn XP xn (k + d) j = fwA BF WP WL wn XP xn k j := by
  induction d with
  | zero => rfl
  | succ d ih =>
    rw [show k + (d + 1) = (k + d) + 1 from rfl, fwA_1]
    rw [show uI (fwA BF WP WL wn XP xn (k + d)) (xn - 1 - (k + d : Nat)).toNat (mnB (fun w => fbB (fwA BF WP WL wn XP xn (k + d)) WP WL wn XP xn w (xn - 1 - (k + d : Nat))) wn.toNat) j = fwA BF WP WL wn XP xn (k + d) j from if_neg (by omega)]
    exact ih (by omega)
theorem fbB_c {BF BG WP WL : Nat → Int} {wn : Int} {XP : Nat → Int} {xn a p : Int} (h : 0 ≤ p → p + lnOf WL wn a ≤ xn → BF (p + lnOf WL wn a).toNat = BG (p + lnOf WL wn a).toNat) : fbB BF WP WL wn XP xn a p = fbB BG WP WL wn XP xn a p := by
  unfold fbB
  by_cases c : stB WP WL wn XP xn a p
  · rw [ifP_t c, ifP_t c, h c.1 c.2.1]
  · rw [ifP_f c, ifP_f c]
theorem fwZ_e {BF WP WL : Nat → Int} {wn : Int} {XP : Nat → Int} {xn : Int} (hx : 0 ≤ xn) : fwZ BF WP WL wn XP xn xn.toNat = 0 := by
  have := fwA_k (BF := BF) (WP := WP) (WL := WL) (wn := wn) (XP := XP) (xn := xn) 0 xn.toNat (by omega) xn.toNat (by omega)
  rw [Nat.zero_add] at this
  unfold fwZ
  rw [this]
  exact if_pos rfl
theorem fwZ_at {BF WP WL : Nat → Int} {wn : Int} {XP : Nat → Int} {xn p : Int} (hp : 0 ≤ p ∧ p < xn) (hL1 : ∀ a, 0 ≤ a → a < wn → 1 ≤ lnOf WL wn a) : fwZ BF WP WL wn XP xn p.toNat = mnB (fun w => fbB (fwZ BF WP WL wn XP xn) WP WL wn XP xn w p) wn.toNat := by
  obtain ⟨k, hk⟩ := Int.eq_ofNat_of_zero_le (show 0 ≤ xn - 1 - p by omega)
  have e1 := fwA_k (BF := BF) (WP := WP) (WL := WL) (wn := wn) (XP := XP) (xn := xn) (k + 1) (xn.toNat - (k + 1)) (by omega) p.toNat (by omega)
  rw [show k + 1 + (xn.toNat - (k + 1)) = xn.toNat from by omega] at e1
  rw [show fwZ BF WP WL wn XP xn p.toNat = fwA BF WP WL wn XP xn xn.toNat p.toNat from rfl, e1, fwA_1, show xn - 1 - (k : Int) = p from by omega]
  rw [show uI (fwA BF WP WL wn XP xn k) p.toNat (mnB (fun w => fbB (fwA BF WP WL wn XP xn k) WP WL wn XP xn w p) wn.toNat) p.toNat = mnB (fun w => fbB (fwA BF WP WL wn XP xn k) WP WL wn XP xn w p) wn.toNat from if_pos rfl]
  refine mnB_c (fun i h1 h2 => fbB_c (fun h3 h4 => ?_))
  have h5 := hL1 i h1 (by omega)
  have e2 := fwA_k (BF := BF) (WP := WP) (WL := WL) (wn := wn) (XP := XP) (xn := xn) k (xn.toNat - k) (by omega) (p + lnOf WL wn i).toNat (by omega)
  rw [show k + (xn.toNat - k) = xn.toNat from by omega] at e2
  exact e2.symm
/-- where words are left to come there is one that goes on -/
theorem br_step {BF WP WL : Nat → Int} {wn : Int} {XP : Nat → Int} {xn p : Int} (hp : 0 ≤ p ∧ p ≤ xn) (hL1 : ∀ a, 0 ≤ a → a < wn → 1 ≤ lnOf WL wn a) (h0 : 0 < fwZ BF WP WL wn XP xn p.toNat) :
    (0 ≤ lwB (fwZ BF WP WL wn XP xn) WP WL wn XP xn p ∧ lwB (fwZ BF WP WL wn XP xn) WP WL wn XP xn p < wn) ∧ lwQ (fwZ BF WP WL wn XP xn) WP WL wn XP xn p = lwB (fwZ BF WP WL wn XP xn) WP WL wn XP xn p := by
  have hlt : p < xn := by
    rcases (show p < xn ∨ p = xn by omega) with c | c
    · exact c
    · rw [c, fwZ_e (by omega)] at h0; omega
  have e := fwZ_at (BF := BF) (WP := WP) (XP := XP) ⟨hp.1, hlt⟩ hL1
  obtain ⟨i, h1, h2, h3⟩ := mnB_ex (g := fun w => fbB (fwZ BF WP WL wn XP xn) WP WL wn XP xn w p) (n := wn.toNat) (by rw [← e]; omega)
  have h4 : lwQ (fwZ BF WP WL wn XP xn) WP WL wn XP xn p < wn := by
    unfold lwQ
    rcases lst_sp (fun w => ¬ fbB (fwZ BF WP WL wn XP xn) WP WL wn XP xn w p = -1 ∧ fbB (fwZ BF WP WL wn XP xn) WP WL wn XP xn w p + 1 = fwZ BF WP WL wn XP xn p.toNat) wn with ⟨-, g2, -, -⟩ | ⟨-, g2⟩
    · exact g2
    · exact absurd ⟨h2, by rw [e]; exact h3.symm⟩ (g2 i h1.1 (by omega))
  have h5 : lwB (fwZ BF WP WL wn XP xn) WP WL wn XP xn p = lwQ (fwZ BF WP WL wn XP xn) WP WL wn XP xn p := if_pos h4
  have h6 : 0 ≤ lwQ (fwZ BF WP WL wn XP xn) WP WL wn XP xn p := by
    unfold lwQ
    rcases lst_sp (fun w => ¬ fbB (fwZ BF WP WL wn XP xn) WP WL wn XP xn w p = -1 ∧ fbB (fwZ BF WP WL wn XP xn) WP WL wn XP xn w p + 1 = fwZ BF WP WL wn XP xn p.toNat) wn with ⟨g1, -, -, -⟩ | ⟨g1, -⟩ <;> omega
  rw [h5]
  exact ⟨⟨h6, h4⟩, rfl⟩
theorem uI_uI (f : Nat → Int) (k : Nat) (a b : Int) : uI (uI f k a) k b = uI f k b := by
  funext j
  unfold uI
  split <;> rfl

set_option maxRecDepth 100000 in
set_option maxHeartbeats 4000000 in
theorem c_M_keyed {l : Launch} {D : va_G} (kI kZ : ClassId) (x : Nat → Nat) (th co : Int) (Rw : Nat → Int) (nw : Int) (Le Lt : Nat → Int) (sn : Int) (Cd Kp We : Nat → Int) (mn : Int) (Bg Sz Td Mp : Nat → Int) (ts nr : Int) (Fo : Nat → Int) (np : Int) (Pl Fw : Nat → Int) (hnw : 0 ≤ nw ∧ nw ≤ 60) (hLe : ∀ j, 0 ≤ Le j ∧ Le j ≤ 8) (hLt : ∀ j, 0 ≤ Lt j ∧ Lt j ≤ 122) (hnp : 0 ≤ np ∧ np ≤ 60) (hPl : ∀ j, 0 ≤ Pl j ∧ Pl j ≤ 122) (hLtt : ∀ a j, 0 ≤ a → a < nw → 0 ≤ j → j < Le a.toNat → 97 ≤ Lt (8 * a + j).toNat) (hPq : ∀ i : Int, 0 ≤ i → i < np → 97 ≤ Pl i.toNat) (hL1 : ∀ a, 0 ≤ a → a < nw → 1 ≤ lnOf Le nw a) (a i : Int) (ha : (-2147483648 ≤ a ∧ a < 2147483648)) (hi : (-2147483648 ≤ i ∧ i < 2147483648)) : Dt l D (ty2 kI kZ) y_M_keyed w_M_keyed { frames := 1, cells := 0, slots := 0, locals := 22 } [.ref (x 0), .int (iI (a)), .int (iI (i))] (wM kI kZ x th co Rw nw Le Lt sn Cd Kp We mn Bg Sz Td Mp ts nr Fo np Pl Fw) (some (.int (iI (if (0 ≤ a ∧ a < nw) ∧ (0 ≤ i ∧ i < np) then 97 + (Pl i.toNat - 97 + (Lt (8 * a + i % Le a.toNat).toNat - 97)) % 26 else -1)))) (wM kI kZ x 0 co Rw nw Le Lt sn Cd Kp We mn Bg Sz Td Mp ts nr Fo np Pl Fw) := by
  refine Met.toJ (own := R_M) (QD D (some (.int (iI (if (0 ≤ a ∧ a < nw) ∧ (0 ≤ i ∧ i < np) then 97 + (Pl i.toNat - 97 + (Lt (8 * a + i % Le a.toNat).toNat - 97)) % 26 else -1)))) (wM kI kZ x 0 co Rw nw Le Lt sn Cd Kp We mn Bg Sz Td Mp ts nr Fo np Pl Fw)) mk_M_keyed rfl (Nat.le_of_ble_eq_true rfl) ?_
  intro p e s m args below meth c A C hr hlk hnm
  show JJ p l e { frames := 1, cells := 0, slots := 0, locals := 22 } s m args below meth c D A 3 (MQ below (QD D (some (.int (iI (if (0 ≤ a ∧ a < nw) ∧ (0 ≤ i ∧ i < np) then 97 + (Pl i.toNat - 97 + (Lt (8 * a + i % Le a.toNat).toNat - 97)) % 26 else -1)))) (wM kI kZ x 0 co Rw nw Le Lt sn Cd Kp We mn Bg Sz Td Mp ts nr Fo np Pl Fw) A) args s 0 0 A) 0 0 0 [(0, .ref (x 0)), (1, .int (iI (a))), (2, .int (iI (i)))] [] (wM kI kZ x th co Rw nw Le Lt sn Cd Kp We mn Bg Sz Td Mp ts nr Fo np Pl Fw)
  refine j_aload_n (q := 1) C 0 rfl d_M_keyed_0 rfl ?_
  refine j_iconst (q := 2) C d_M_keyed_1 rfl ?_
  refine j_put (q := 5) (ty := .int) C i_M rfl t_M t_M_ok n_M 0 rfl 0 (by decide) rfl fl_M_49 rfl (by decide +kernel) rfl rfl (Nat.le_of_ble_eq_true rfl) (wM kI kZ x 0 co Rw nw Le Lt sn Cd Kp We mn Bg Sz Td Mp ts nr Fo np Pl Fw) rfl d_M_keyed_2 rfl ?_
  refine j_iload_n (q := 6) C 1 rfl d_M_keyed_5 rfl ?_
  refine j_if_lt C 29 9 d_M_keyed_6 rfl rfl (by omega) (fun c1 => ?_) (fun c1 => ?_)
  · refine j_iconst (q := 30) C d_M_keyed_29 rfl ?_
    exact j_iret C hr hlk d_M_keyed_30 (congrArg (fun z => some (Value.int (iI z))) (show (if (0 ≤ a ∧ a < nw) ∧ (0 ≤ i ∧ i < np) then 97 + (Pl i.toNat - 97 + (Lt (8 * a + i % Le a.toNat).toNat - 97)) % 26 else -1) = (-1) from by split <;> first | rfl | omega)) rfl
  · refine j_iload_n (q := 10) C 1 rfl d_M_keyed_9 rfl ?_
    refine j_aload_n (q := 11) C 0 rfl d_M_keyed_10 rfl ?_
    refine j_get (q := 14) C i_M rfl 0 rfl 3 (by decide) rfl rfl fl_M_64 d_M_keyed_11 rfl ?_
    refine j_icmp_ge C 29 17 d_M_keyed_14 rfl rfl (by omega) (by omega) (fun c2 => ?_) (fun c2 => ?_)
    · refine j_iconst (q := 30) C d_M_keyed_29 rfl ?_
      first | (exfalso; omega) | exact j_iret C hr hlk d_M_keyed_30 (congrArg (fun z => some (Value.int (iI z))) (show (if (0 ≤ a ∧ a < nw) ∧ (0 ≤ i ∧ i < np) then 97 + (Pl i.toNat - 97 + (Lt (8 * a + i % Le a.toNat).toNat - 97)) % 26 else -1) = (-1) from by split <;> first | rfl | omega)) rfl
    · refine j_iload_n (q := 18) C 2 rfl d_M_keyed_17 rfl ?_
      refine j_if_lt C 29 21 d_M_keyed_18 rfl rfl (by omega) (fun c3 => ?_) (fun c3 => ?_)
      · refine j_iconst (q := 30) C d_M_keyed_29 rfl ?_
        first | (exfalso; omega) | exact j_iret C hr hlk d_M_keyed_30 (congrArg (fun z => some (Value.int (iI z))) (show (if (0 ≤ a ∧ a < nw) ∧ (0 ≤ i ∧ i < np) then 97 + (Pl i.toNat - 97 + (Lt (8 * a + i % Le a.toNat).toNat - 97)) % 26 else -1) = (-1) from by split <;> first | rfl | omega)) rfl
      · refine j_iload_n (q := 22) C 2 rfl d_M_keyed_21 rfl ?_
        refine j_aload_n (q := 23) C 0 rfl d_M_keyed_22 rfl ?_
        refine j_get (q := 26) C i_M rfl 0 rfl 18 (by decide) rfl rfl fl_M_113 d_M_keyed_23 rfl ?_
        refine j_icmp_lt C 31 29 d_M_keyed_26 rfl rfl (by omega) (by omega) (fun c4 => ?_) (fun c4 => ?_)
        · refine j_aload_n (q := 32) C 0 rfl d_M_keyed_31 rfl ?_
          refine j_get (q := 35) C i_M rfl 0 rfl 19 (by decide) rfl rfl fl_M_43 d_M_keyed_32 rfl ?_
          refine j_iload_n (q := 36) C 2 rfl d_M_keyed_35 rfl ?_
          refine j_iald (q := 37) C 12 0 rfl rfl (by decide) (by omega) d_M_keyed_36 rfl ?_
          have h36 := hPl i.toNat
          refine j_aload_n (q := 38) C 0 rfl d_M_keyed_37 rfl ?_
          refine j_iload_n (q := 39) C 1 rfl d_M_keyed_38 rfl ?_
          refine j_iload_n (q := 40) C 2 rfl d_M_keyed_39 rfl ?_
          refine j_aload_n (q := 41) C 0 rfl d_M_keyed_40 rfl ?_
          refine j_get (q := 44) C i_M rfl 0 rfl 4 (by decide) rfl rfl fl_M_13 d_M_keyed_41 rfl ?_
          refine j_iload_n (q := 45) C 1 rfl d_M_keyed_44 rfl ?_
          refine j_iald (q := 46) C 2 0 rfl rfl (by decide) (by omega) d_M_keyed_45 rfl ?_
          have h45 := hLe a.toNat
          have q0 := hL1 a (by omega) (by omega)
          rw [show lnOf Le nw a = Le a.toNat from if_pos (by omega)] at q0
          have q1 := Int.emod_nonneg i (show Le a.toNat ≠ 0 from by omega)
          have q2 := Int.emod_lt_of_pos i (show 0 < Le a.toNat from by omega)
          refine j_irem (q := 47) C (by omega) (by omega) d_M_keyed_46 rfl ?_
          have e47 := hLt (8 * a + (i % (Le a.toNat))).toNat
          refine j_callV (q := 50) (wr := []) C [.int (iI (a)), .int (iI (i % (Le a.toNat)))] [.int (iI (Pl i.toNat))] (c_M_at kI kZ x 0 co Rw nw Le Lt sn Cd Kp We mn Bg Sz Td Mp ts nr Fo np Pl Fw hLt a (i % (Le a.toNat)) (by omega)) ml_M_60 mk_M_at in_M_at se_M_at rfl rfl rfl [0, 1, 2, 3, 4, 5, 6, 7, 8, 9, 10, 11, 12, 13] [] [0, 1, 2, 3, 4, 5, 6, 7, 8, 9, 10, 11, 12, 13] rfl (by decide) rfl (by decide) (by decide) (wM kI kZ x 0 co Rw nw Le Lt sn Cd Kp We mn Bg Sz Td Mp ts nr Fo np Pl Fw) rfl (by decide) rfl rfl rfl (Nat.le_of_ble_eq_true rfl) ⟨Nat.le_of_ble_eq_true rfl, Nat.le_of_ble_eq_true rfl⟩ ⟨Nat.le_of_ble_eq_true rfl, Nat.le_of_ble_eq_true rfl⟩ d_M_keyed_47 rfl ?_
          refine j_bipush (q := 52) C d_M_keyed_50 rfl rfl ?_
          refine j_isub (q := 53) C d_M_keyed_52 rfl ?_
          have q53 := hPq i (by omega) (by omega)
          have q3 := hLtt a _ (by omega) (by omega) q1 q2
          have e53 : 97 ≤ 97 + ((Pl i.toNat) - 97 + ((Lt (8 * a + (i % (Le a.toNat))).toNat) - 97)) % 26 ∧ 97 + ((Pl i.toNat) - 97 + ((Lt (8 * a + (i % (Le a.toNat))).toNat) - 97)) % 26 ≤ 122 := by omega
          refine j_callS (q := 56) (wr := wM kI kZ x 0 co Rw nw Le Lt sn Cd Kp We mn Bg Sz Td Mp ts nr Fo np Pl Fw) C [.int (iI (Pl i.toNat)), .int (iI ((Lt (8 * a + (i % (Le a.toNat))).toNat) - 97))] [] (c_M_shift kI kZ x (Pl i.toNat) ((Lt (8 * a + (i % (Le a.toNat))).toNat) - 97) (by omega) (by omega)) ml_M_116 mk_M_shift st_M_shift [] [0, 1, 2, 3, 4, 5, 6, 7, 8, 9, 10, 11, 12, 13] [0, 1, 2, 3, 4, 5, 6, 7, 8, 9, 10, 11, 12, 13] rfl (by decide) rfl (by decide) (by decide) (wM kI kZ x 0 co Rw nw Le Lt sn Cd Kp We mn Bg Sz Td Mp ts nr Fo np Pl Fw) rfl (by decide) rfl rfl rfl (Nat.le_of_ble_eq_true rfl) ⟨Nat.le_of_ble_eq_true rfl, Nat.le_of_ble_eq_true rfl⟩ ⟨Nat.le_of_ble_eq_true rfl, Nat.le_of_ble_eq_true rfl⟩ d_M_keyed_53 rfl ?_
          first | (exfalso; omega) | exact j_iret C hr hlk d_M_keyed_56 (congrArg (fun z => some (Value.int (iI z))) (show (if (0 ≤ a ∧ a < nw) ∧ (0 ≤ i ∧ i < np) then 97 + (Pl i.toNat - 97 + (Lt (8 * a + i % Le a.toNat).toNat - 97)) % 26 else -1) = (97 + ((Pl i.toNat) - 97 + ((Lt (8 * a + (i % (Le a.toNat))).toNat) - 97)) % 26) from by split <;> first | rfl | omega)) rfl
        · refine j_iconst (q := 30) C d_M_keyed_29 rfl ?_
          first | (exfalso; omega) | exact j_iret C hr hlk d_M_keyed_30 (congrArg (fun z => some (Value.int (iI z))) (show (if (0 ≤ a ∧ a < nw) ∧ (0 ≤ i ∧ i < np) then 97 + (Pl i.toNat - 97 + (Lt (8 * a + i % Le a.toNat).toNat - 97)) % 26 else -1) = (-1) from by split <;> first | rfl | omega)) rfl
set_option maxRecDepth 100000 in
set_option maxHeartbeats 4000000 in
theorem c_M_stands {l : Launch} {D : va_G} (kI kZ : ClassId) (x : Nat → Nat) (th co : Int) (Rw : Nat → Int) (nw : Int) (Le Lt : Nat → Int) (sn : Int) (Cd Kp We : Nat → Int) (mn : Int) (Bg Sz Td Mp : Nat → Int) (ts nr : Int) (Fo : Nat → Int) (np : Int) (Pl Fw : Nat → Int) (hnw : 0 ≤ nw ∧ nw ≤ 60) (hLe : ∀ j, 0 ≤ Le j ∧ Le j ≤ 8) (hLt : ∀ j, 0 ≤ Lt j ∧ Lt j ≤ 122) (hnp : 0 ≤ np ∧ np ≤ 60) (hPl : ∀ j, 0 ≤ Pl j ∧ Pl j ≤ 122) (a p0 : Int) (ha : 0 ≤ a ∧ a < nw) (hp : 0 ≤ p0 ∧ p0 ≤ 60) : Dt l D (ty2 kI kZ) y_M_stands w_M_stands { frames := 1, cells := 0, slots := 0, locals := 22 } [.ref (x 0), .int (iI (a)), .int (iI (p0))] (wM kI kZ x th co Rw nw Le Lt sn Cd Kp We mn Bg Sz Td Mp ts nr Fo np Pl Fw) (some (.int (iI (bI (stB Lt Le nw Pl np a p0))))) (wM kI kZ x th co Rw nw Le Lt sn Cd Kp We mn Bg Sz Td Mp ts nr Fo np Pl Fw) := by
  refine Met.toJ (own := R_M) (QD D (some (.int (iI (bI (stB Lt Le nw Pl np a p0))))) (wM kI kZ x th co Rw nw Le Lt sn Cd Kp We mn Bg Sz Td Mp ts nr Fo np Pl Fw)) mk_M_stands rfl (Nat.le_of_ble_eq_true rfl) ?_
  intro p e s m args below meth c A C hr hlk hnm
  show JJ p l e { frames := 1, cells := 0, slots := 0, locals := 22 } s m args below meth c D A 4 (MQ below (QD D (some (.int (iI (bI (stB Lt Le nw Pl np a p0))))) (wM kI kZ x th co Rw nw Le Lt sn Cd Kp We mn Bg Sz Td Mp ts nr Fo np Pl Fw) A) args s 0 0 A) 0 0 0 [(0, .ref (x 0)), (1, .int (iI (a))), (2, .int (iI (p0)))] [] (wM kI kZ x th co Rw nw Le Lt sn Cd Kp We mn Bg Sz Td Mp ts nr Fo np Pl Fw)
  have l0 : lnOf Le nw a = Le a.toNat := if_pos ha
  have l1 := hLe a.toNat
  have l2 : ∀ i, 0 ≤ i → i < Le a.toNat → plAt Lt Le nw a i = Lt (8 * a + i).toNat := fun i h1 h2 => by unfold plAt; rw [if_pos (by omega), Int.mul_comm]
  refine j_iload_n (q := 1) C 2 rfl d_M_stands_0 rfl ?_
  refine j_aload_n (q := 2) C 0 rfl d_M_stands_1 rfl ?_
  refine j_get (q := 5) C i_M rfl 0 rfl 4 (by decide) rfl rfl fl_M_13 d_M_stands_2 rfl ?_
  refine j_iload_n (q := 6) C 1 rfl d_M_stands_5 rfl ?_
  refine j_iald (q := 7) C 2 0 rfl rfl (by decide) (by omega) d_M_stands_6 rfl ?_
  have h6 := hLe a.toNat
  refine j_iadd (q := 8) C d_M_stands_7 rfl ?_
  refine j_aload_n (q := 9) C 0 rfl d_M_stands_8 rfl ?_
  refine j_get (q := 12) C i_M rfl 0 rfl 18 (by decide) rfl rfl fl_M_113 d_M_stands_9 rfl ?_
  refine j_icmp_le C 17 15 d_M_stands_12 rfl rfl (by omega) (by omega) (fun c1 => ?_) (fun c1 => ?_)
  · refine j_iconst (q := 18) C d_M_stands_17 rfl ?_
    refine j_istore_n (q := 19) C [(0, .ref (x 0)), (1, .int (iI (a))), (2, .int (iI (p0))), (3, .int (iI (0)))] rfl (by decide) d_M_stands_18 rfl ?_
    have lp19 : ∀ (N : Nat) (i : Int), (0 ≤ i ∧ i ≤ Le a.toNat) → (∀ j : Int, 0 ≤ j → j < i → Pl (p0 + j).toNat = Lt (8 * a + j).toNat) → (Le a.toNat - i).toNat < N → JJ p l e { frames := 1, cells := 0, slots := 0, locals := 22 } s m args below meth c D A 4 (MQ below (QD D (some (.int (iI (bI (stB Lt Le nw Pl np a p0))))) (wM kI kZ x th co Rw nw Le Lt sn Cd Kp We mn Bg Sz Td Mp ts nr Fo np Pl Fw) A) args s 0 0 A) 0 0 19 [(0, .ref (x 0)), (1, .int (iI (a))), (2, .int (iI (p0))), (3, .int (iI (i)))] [] (wM kI kZ x th co Rw nw Le Lt sn Cd Kp We mn Bg Sz Td Mp ts nr Fo np Pl Fw) := by
      intro N
      induction N with
      | zero =>
        intro i i0 i1 hN
        omega
      | succ N ih19 =>
        intro i i0 i1 hN
        refine j_iload_n (q := 20) C 3 rfl d_M_stands_19 rfl ?_
        refine j_aload_n (q := 21) C 0 rfl d_M_stands_20 rfl ?_
        refine j_get (q := 24) C i_M rfl 0 rfl 4 (by decide) rfl rfl fl_M_13 d_M_stands_21 rfl ?_
        refine j_iload_n (q := 25) C 1 rfl d_M_stands_24 rfl ?_
        refine j_iald (q := 26) C 2 0 rfl rfl (by decide) (by omega) d_M_stands_25 rfl ?_
        have h25 := hLe a.toNat
        refine j_icmp_ge C 54 29 d_M_stands_26 rfl rfl (by omega) (by omega) (fun c2 => ?_) (fun c2 => ?_)
        · refine j_iconst (q := 55) C d_M_stands_54 rfl ?_
          first | (exfalso; omega) | exact j_zret C hr hlk (by omega) d_M_stands_55 (congrArg (fun z => some (Value.int (iI z))) (show (bI (stB Lt Le nw Pl np a p0)) = (1) from bI_1 ⟨by omega, by omega, fun j h1 h2 => by rw [l2 (j - p0) (by omega) (by omega), show sgAt Pl np j = Pl j.toNat from if_pos (by omega)]; have q := i1 (j - p0) (by omega) (by omega); rw [show p0 + (j - p0) = j from by omega] at q; exact q⟩)) rfl
        · refine j_aload_n (q := 30) C 0 rfl d_M_stands_29 rfl ?_
          refine j_get (q := 33) C i_M rfl 0 rfl 19 (by decide) rfl rfl fl_M_43 d_M_stands_30 rfl ?_
          refine j_iload_n (q := 34) C 2 rfl d_M_stands_33 rfl ?_
          refine j_iload_n (q := 35) C 3 rfl d_M_stands_34 rfl ?_
          refine j_iadd (q := 36) C d_M_stands_35 rfl ?_
          refine j_iald (q := 37) C 12 0 rfl rfl (by decide) (by omega) d_M_stands_36 rfl ?_
          have h36 := hPl (p0 + i).toNat
          refine j_aload_n (q := 38) C 0 rfl d_M_stands_37 rfl ?_
          refine j_iload_n (q := 39) C 1 rfl d_M_stands_38 rfl ?_
          refine j_iload_n (q := 40) C 3 rfl d_M_stands_39 rfl ?_
          have e40 := hLt (8 * a + i).toNat
          refine j_callV (q := 43) (wr := []) C [.int (iI (a)), .int (iI (i))] [.int (iI (Pl (p0 + i).toNat))] (c_M_at kI kZ x th co Rw nw Le Lt sn Cd Kp We mn Bg Sz Td Mp ts nr Fo np Pl Fw hLt a i (by omega)) ml_M_60 mk_M_at in_M_at se_M_at rfl rfl rfl [0, 1, 2, 3, 4, 5, 6, 7, 8, 9, 10, 11, 12, 13] [] [0, 1, 2, 3, 4, 5, 6, 7, 8, 9, 10, 11, 12, 13] rfl (by decide) rfl (by decide) (by decide) (wM kI kZ x th co Rw nw Le Lt sn Cd Kp We mn Bg Sz Td Mp ts nr Fo np Pl Fw) rfl (by decide) rfl rfl rfl (Nat.le_of_ble_eq_true rfl) ⟨Nat.le_of_ble_eq_true rfl, Nat.le_of_ble_eq_true rfl⟩ ⟨Nat.le_of_ble_eq_true rfl, Nat.le_of_ble_eq_true rfl⟩ d_M_stands_40 rfl ?_
          refine j_icmp_eq C 48 46 d_M_stands_43 rfl rfl (by omega) (by omega) (fun c3 => ?_) (fun c3 => ?_)
          · refine j_iinc (q := 51) C 3 [(0, .ref (x 0)), (1, .int (iI (a))), (2, .int (iI (p0))), (3, .int (iI (i + 1)))] rfl rfl (by decide) d_M_stands_48 rfl ?_
            refine j_goto C 19 d_M_stands_51 rfl ?_
            exact ih19 (i + 1) (by omega) (fun j h1 h2 => by rcases (show j < i ∨ j = i by omega) with h | h; exact i1 j h1 h; rw [h]; omega) (by omega)
          · refine j_iconst (q := 47) C d_M_stands_46 rfl ?_
            first | (exfalso; omega) | exact j_zret C hr hlk (by omega) d_M_stands_47 (congrArg (fun z => some (Value.int (iI z))) (show (bI (stB Lt Le nw Pl np a p0)) = (0) from bI_0 (fun h => by have q := h.2.2 (p0 + i) (by omega) (by omega); rw [show p0 + i - p0 = i from by omega, l2 i (by omega) (by omega), show sgAt Pl np (p0 + i) = Pl (p0 + i).toNat from if_pos (by omega)] at q; omega))) rfl
    exact lp19 ((Le a.toNat).toNat + 1) 0 (by omega) (fun j h1 h2 => by omega) (by omega)
  · refine j_iconst (q := 16) C d_M_stands_15 rfl ?_
    first | (exfalso; omega) | exact j_zret C hr hlk (by omega) d_M_stands_16 (congrArg (fun z => some (Value.int (iI z))) (show (bI (stB Lt Le nw Pl np a p0)) = (0) from bI_0 (fun h => by have := h.2.1; omega))) rfl
set_option maxRecDepth 100000 in
set_option maxHeartbeats 4000000 in
theorem c_M_reckon {l : Launch} {D : va_G} (kI kZ : ClassId) (x : Nat → Nat) (th co : Int) (Rw : Nat → Int) (nw : Int) (Le Lt : Nat → Int) (sn : Int) (Cd Kp We : Nat → Int) (mn : Int) (Bg Sz Td Mp : Nat → Int) (ts nr : Int) (Fo : Nat → Int) (np : Int) (Pl Fw : Nat → Int) (hnw : 0 ≤ nw ∧ nw ≤ 60) (hLe : ∀ j, 0 ≤ Le j ∧ Le j ≤ 8) (hLt : ∀ j, 0 ≤ Lt j ∧ Lt j ≤ 122) (hnp : 0 ≤ np ∧ np ≤ 60) (hPl : ∀ j, 0 ≤ Pl j ∧ Pl j ≤ 122) (hFw : ∀ j, -1 ≤ Fw j ∧ Fw j ≤ 60) (hL1 : ∀ a, 0 ≤ a → a < nw → 1 ≤ lnOf Le nw a) : Dt l D (ty2 kI kZ) y_M_reckon w_M_reckon { frames := 2, cells := 0, slots := 0, locals := 45 } [.ref (x 0)] (wM kI kZ x th co Rw nw Le Lt sn Cd Kp We mn Bg Sz Td Mp ts nr Fo np Pl Fw) none (wM kI kZ x th co Rw nw Le Lt sn Cd Kp We mn Bg Sz Td Mp ts nr Fo np Pl (fwZ Fw Lt Le nw Pl np)) := by
  refine Met.toJ (own := R_M) (QD D none (wM kI kZ x th co Rw nw Le Lt sn Cd Kp We mn Bg Sz Td Mp ts nr Fo np Pl (fwZ Fw Lt Le nw Pl np))) mk_M_reckon rfl (Nat.le_of_ble_eq_true rfl) ?_
  intro p e s m args below meth c A C hr hlk hnm
  show JJ p l e { frames := 2, cells := 0, slots := 0, locals := 45 } s m args below meth c D A 4 (MQ below (QD D none (wM kI kZ x th co Rw nw Le Lt sn Cd Kp We mn Bg Sz Td Mp ts nr Fo np Pl (fwZ Fw Lt Le nw Pl np)) A) args s 0 0 A) 0 0 0 [(0, .ref (x 0))] [] (wM kI kZ x th co Rw nw Le Lt sn Cd Kp We mn Bg Sz Td Mp ts nr Fo np Pl Fw)
  refine j_aload_n (q := 1) C 0 rfl d_M_reckon_0 rfl ?_
  refine j_get (q := 4) C i_M rfl 0 rfl 20 (by decide) rfl rfl fl_M_46 d_M_reckon_1 rfl ?_
  refine j_aload_n (q := 5) C 0 rfl d_M_reckon_4 rfl ?_
  refine j_get (q := 8) C i_M rfl 0 rfl 18 (by decide) rfl rfl fl_M_113 d_M_reckon_5 rfl ?_
  refine j_iconst (q := 9) C d_M_reckon_8 rfl ?_
  refine j_iast (q := 10) C 13 0 rfl rfl (by decide) (by omega) (wM kI kZ x th co Rw nw Le Lt sn Cd Kp We mn Bg Sz Td Mp ts nr Fo np Pl (uI Fw np.toNat 0)) rfl d_M_reckon_9 rfl ?_
  refine j_aload_n (q := 11) C 0 rfl d_M_reckon_10 rfl ?_
  refine j_get (q := 14) C i_M rfl 0 rfl 18 (by decide) rfl rfl fl_M_113 d_M_reckon_11 rfl ?_
  refine j_iconst (q := 15) C d_M_reckon_14 rfl ?_
  refine j_isub (q := 16) C d_M_reckon_15 rfl ?_
  refine j_istore_n (q := 17) C [(0, .ref (x 0)), (1, .int (iI (np - 1)))] rfl (by decide) d_M_reckon_16 rfl ?_
  have lp17 : ∀ (N : Nat) (mm : Nat), ((mm : Int) ≤ np) → (np - mm).toNat < N → JJ p l e { frames := 2, cells := 0, slots := 0, locals := 45 } s m args below meth c D A 4 (MQ below (QD D none (wM kI kZ x th co Rw nw Le Lt sn Cd Kp We mn Bg Sz Td Mp ts nr Fo np Pl (fwZ Fw Lt Le nw Pl np)) A) args s 0 0 A) 0 0 17 [(0, .ref (x 0)), (1, .int (iI (np - 1 - mm)))] [] (wM kI kZ x th co Rw nw Le Lt sn Cd Kp We mn Bg Sz Td Mp ts nr Fo np Pl (fwA Fw Lt Le nw Pl np mm)) := by
    intro N
    induction N with
    | zero =>
      intro mm m0 hN
      omega
    | succ N ih17 =>
      intro mm m0 hN
      have b0 := fwA_r (WP := Lt) (XP := Pl) hFw hnw.1 hnp hL1 mm m0
      refine j_iload_n (q := 18) C 1 rfl d_M_reckon_17 rfl ?_
      refine j_if_lt C 129 21 d_M_reckon_18 rfl rfl (by omega) (fun c1 => ?_) (fun c1 => ?_)
      · exact j_vret C hr hlk d_M_reckon_129 (by rw [show fwZ Fw Lt Le nw Pl np = fwA Fw Lt Le nw Pl np mm from (by unfold fwZ; rw [show np.toNat = mm from by omega])])
      · refine j_aload_n (q := 22) C 0 rfl d_M_reckon_21 rfl ?_
        refine j_get (q := 25) C i_M rfl 0 rfl 20 (by decide) rfl rfl fl_M_46 d_M_reckon_22 rfl ?_
        refine j_iload_n (q := 26) C 1 rfl d_M_reckon_25 rfl ?_
        refine j_iconst (q := 27) C d_M_reckon_26 rfl ?_
        refine j_iast (q := 28) C 13 0 rfl rfl (by decide) (by omega) (wM kI kZ x th co Rw nw Le Lt sn Cd Kp We mn Bg Sz Td Mp ts nr Fo np Pl (uI (fwA Fw Lt Le nw Pl np mm) (np - 1 - mm).toNat (-1))) rfl d_M_reckon_27 rfl ?_
        refine j_iconst (q := 29) C d_M_reckon_28 rfl ?_
        refine j_istore_n (q := 30) C [(0, .ref (x 0)), (1, .int (iI (np - 1 - mm))), (2, .int (iI (0)))] rfl (by decide) d_M_reckon_29 rfl ?_
        have lp30 : ∀ (N : Nat) (i v : Int), (0 ≤ i ∧ i ≤ nw) → (v = mnB (fun w => fbB (fwA Fw Lt Le nw Pl np mm) Lt Le nw Pl np w (np - 1 - mm)) i.toNat) → (-1 ≤ v ∧ v ≤ 61) → (nw - i).toNat < N → JJ p l e { frames := 2, cells := 0, slots := 0, locals := 45 } s m args below meth c D A 4 (MQ below (QD D none (wM kI kZ x th co Rw nw Le Lt sn Cd Kp We mn Bg Sz Td Mp ts nr Fo np Pl (fwZ Fw Lt Le nw Pl np)) A) args s 0 0 A) 0 0 30 [(0, .ref (x 0)), (1, .int (iI (np - 1 - mm))), (2, .int (iI (i)))] [] (wM kI kZ x th co Rw nw Le Lt sn Cd Kp We mn Bg Sz Td Mp ts nr Fo np Pl (uI (fwA Fw Lt Le nw Pl np mm) (np - 1 - mm).toNat v)) := by
          intro N
          induction N with
          | zero =>
            intro i v i0 i1 i2 hN
            omega
          | succ N ih30 =>
            intro i v i0 i1 i2 hN
            refine j_iload_n (q := 31) C 2 rfl d_M_reckon_30 rfl ?_
            refine j_aload_n (q := 32) C 0 rfl d_M_reckon_31 rfl ?_
            refine j_get (q := 35) C i_M rfl 0 rfl 3 (by decide) rfl rfl fl_M_64 d_M_reckon_32 rfl ?_
            refine j_icmp_ge C 123 38 d_M_reckon_35 rfl rfl (by omega) (by omega) (fun c2 => ?_) (fun c2 => ?_)
            · refine j_iinc (q := 126) C 1 [(0, .ref (x 0)), (1, .int (iI ((np - 1 - mm) + (-1)))), (2, .int (iI (i)))] rfl rfl (by decide) d_M_reckon_123 rfl ?_
              refine j_goto C 17 d_M_reckon_126 rfl ?_
              refine j_lv [0, 1] rfl ?_
              rw [show np - 1 - (mm : Int) + -1 = np - 1 - ((mm + 1 : Nat) : Int) from by omega, show uI (fwA Fw Lt Le nw Pl np mm) (np - 1 - mm).toNat v = fwA Fw Lt Le nw Pl np (mm + 1) from by rw [fwA_1, show nw.toNat = i.toNat from by omega, ← i1]]
              exact ih17 (mm + 1) (by omega) (by omega)
            · have l0 : lnOf Le nw i = Le i.toNat := if_pos (by omega)
              have l1 := hL1 i (by omega) (by omega)
              have l2 := hLe i.toNat
              have g48 : (uI (fwA Fw Lt Le nw Pl np mm) (np - 1 - mm).toNat v) (np - 1 - mm).toNat = v := if_pos rfl
              refine j_aload_n (q := 39) C 0 rfl d_M_reckon_38 rfl ?_
              refine j_iload_n (q := 40) C 2 rfl d_M_reckon_39 rfl ?_
              refine j_iload_n (q := 41) C 1 rfl d_M_reckon_40 rfl ?_
              have e41 := bI_r (stB Lt Le nw Pl np i (np - 1 - mm))
              refine j_callV (q := 44) (wr := []) C [.int (iI (i)), .int (iI (np - 1 - mm))] [] (c_M_stands kI kZ x th co Rw nw Le Lt sn Cd Kp We mn Bg Sz Td Mp ts nr Fo np Pl (uI (fwA Fw Lt Le nw Pl np mm) (np - 1 - mm).toNat v) hnw hLe hLt hnp hPl i (np - 1 - mm) (by omega) (by omega)) ml_M_119 mk_M_stands in_M_stands se_M_stands rfl rfl rfl [0, 1, 2, 3, 4, 5, 6, 7, 8, 9, 10, 11, 12, 13] [] [0, 1, 2, 3, 4, 5, 6, 7, 8, 9, 10, 11, 12, 13] rfl (by decide) rfl (by decide) (by decide) (wM kI kZ x th co Rw nw Le Lt sn Cd Kp We mn Bg Sz Td Mp ts nr Fo np Pl (uI (fwA Fw Lt Le nw Pl np mm) (np - 1 - mm).toNat v)) rfl (by decide) rfl rfl rfl (Nat.le_of_ble_eq_true rfl) ⟨Nat.le_of_ble_eq_true rfl, Nat.le_of_ble_eq_true rfl⟩ ⟨Nat.le_of_ble_eq_true rfl, Nat.le_of_ble_eq_true rfl⟩ d_M_reckon_41 rfl ?_
              refine j_if_eq C 117 47 d_M_reckon_44 rfl rfl (by omega) (fun c3 => ?_) (fun c3 => ?_)
              · have c3 := bI_z c3
                have g44 : fbB (fwA Fw Lt Le nw Pl np mm) Lt Le nw Pl np i (np - 1 - mm) = -1 := ifP_f c3
                refine j_iinc (q := 120) C 2 [(0, .ref (x 0)), (1, .int (iI (np - 1 - mm))), (2, .int (iI (i + 1)))] rfl rfl (by decide) d_M_reckon_117 rfl ?_
                refine j_goto C 30 d_M_reckon_120 rfl ?_
                refine j_lv [0, 1, 2] rfl ?_
                exact ih30 (i + 1) _ (by omega) (by rw [mnB_s _ i0.1, ← i1]; first | (rw [if_neg (by omega)]; done) | (rw [if_neg (by omega)]; omega) | (rw [if_pos (by omega)]; done) | (rw [if_pos (by omega)]; omega)) (by omega) (by omega)
              · have c3 := bI_n c3
                have g44 : fbB (fwA Fw Lt Le nw Pl np mm) Lt Le nw Pl np i (np - 1 - mm) = (fwA Fw Lt Le nw Pl np mm) ((np - 1 - mm) + lnOf Le nw i).toNat := ifP_t c3
                have g45 := c3.2.1
                have g46 : (uI (fwA Fw Lt Le nw Pl np mm) (np - 1 - mm).toNat v) ((np - 1 - mm) + Le i.toNat).toNat = (fwA Fw Lt Le nw Pl np mm) ((np - 1 - mm) + Le i.toNat).toNat := if_neg (by omega)
                rw [l0] at g44 g45
                have g47 := b0.1 ((np - 1 - mm) + Le i.toNat).toNat
                refine j_aload_n (q := 48) C 0 rfl d_M_reckon_47 rfl ?_
                refine j_get (q := 51) C i_M rfl 0 rfl 20 (by decide) rfl rfl fl_M_46 d_M_reckon_48 rfl ?_
                refine j_iload_n (q := 52) C 1 rfl d_M_reckon_51 rfl ?_
                refine j_aload_n (q := 53) C 0 rfl d_M_reckon_52 rfl ?_
                refine j_get (q := 56) C i_M rfl 0 rfl 4 (by decide) rfl rfl fl_M_13 d_M_reckon_53 rfl ?_
                refine j_iload_n (q := 57) C 2 rfl d_M_reckon_56 rfl ?_
                refine j_iald (q := 58) C 2 0 rfl rfl (by decide) (by omega) d_M_reckon_57 rfl ?_
                have h57 := hLe i.toNat
                refine j_iadd (q := 59) C d_M_reckon_58 rfl ?_
                refine j_iald (q := 60) C 13 0 rfl rfl (by decide) (by omega) d_M_reckon_59 rfl ?_
                refine j_if_ge C 66 63 d_M_reckon_60 rfl rfl (by omega) (fun c4 => ?_) (fun c4 => ?_)
                · refine j_aload_n (q := 67) C 0 rfl d_M_reckon_66 rfl ?_
                  refine j_get (q := 70) C i_M rfl 0 rfl 20 (by decide) rfl rfl fl_M_46 d_M_reckon_67 rfl ?_
                  refine j_iload_n (q := 71) C 1 rfl d_M_reckon_70 rfl ?_
                  refine j_aload_n (q := 72) C 0 rfl d_M_reckon_71 rfl ?_
                  refine j_get (q := 75) C i_M rfl 0 rfl 4 (by decide) rfl rfl fl_M_13 d_M_reckon_72 rfl ?_
                  refine j_iload_n (q := 76) C 2 rfl d_M_reckon_75 rfl ?_
                  refine j_iald (q := 77) C 2 0 rfl rfl (by decide) (by omega) d_M_reckon_76 rfl ?_
                  have h76 := hLe i.toNat
                  refine j_iadd (q := 78) C d_M_reckon_77 rfl ?_
                  refine j_iald (q := 79) C 13 0 rfl rfl (by decide) (by omega) d_M_reckon_78 rfl ?_
                  refine j_iconst (q := 80) C d_M_reckon_79 rfl ?_
                  refine j_iadd (q := 81) C d_M_reckon_80 rfl ?_
                  refine j_istore_n (q := 82) C [(0, .ref (x 0)), (1, .int (iI (np - 1 - mm))), (2, .int (iI (i))), (3, .int (iI (((uI (fwA Fw Lt Le nw Pl np mm) (np - 1 - mm).toNat v) ((np - 1 - mm) + (Le i.toNat)).toNat) + 1)))] rfl (by decide) d_M_reckon_81 rfl ?_
                  refine j_aload_n (q := 83) C 0 rfl d_M_reckon_82 rfl ?_
                  refine j_get (q := 86) C i_M rfl 0 rfl 20 (by decide) rfl rfl fl_M_46 d_M_reckon_83 rfl ?_
                  refine j_iload_n (q := 87) C 1 rfl d_M_reckon_86 rfl ?_
                  refine j_aload_n (q := 88) C 0 rfl d_M_reckon_87 rfl ?_
                  refine j_get (q := 91) C i_M rfl 0 rfl 20 (by decide) rfl rfl fl_M_46 d_M_reckon_88 rfl ?_
                  refine j_iload_n (q := 92) C 1 rfl d_M_reckon_91 rfl ?_
                  refine j_iald (q := 93) C 13 0 rfl rfl (by decide) (by omega) d_M_reckon_92 rfl ?_
                  refine j_if_lt C 106 96 d_M_reckon_93 rfl rfl (by omega) (fun c5 => ?_) (fun c5 => ?_)
                  · refine j_iload_n (q := 107) C 3 rfl d_M_reckon_106 rfl ?_
                    refine j_goto C 116 d_M_reckon_107 rfl ?_
                    refine j_iast (q := 117) C 13 0 rfl rfl (by decide) (by omega) (wM kI kZ x th co Rw nw Le Lt sn Cd Kp We mn Bg Sz Td Mp ts nr Fo np Pl (uI (uI (fwA Fw Lt Le nw Pl np mm) (np - 1 - mm).toNat v) (np - 1 - mm).toNat (((uI (fwA Fw Lt Le nw Pl np mm) (np - 1 - mm).toNat v) ((np - 1 - mm) + (Le i.toNat)).toNat) + 1))) rfl d_M_reckon_116 rfl ?_
                    refine j_iinc (q := 120) C 2 [(0, .ref (x 0)), (1, .int (iI (np - 1 - mm))), (2, .int (iI (i + 1))), (3, .int (iI (((uI (fwA Fw Lt Le nw Pl np mm) (np - 1 - mm).toNat v) ((np - 1 - mm) + (Le i.toNat)).toNat) + 1)))] rfl rfl (by decide) d_M_reckon_117 rfl ?_
                    refine j_goto C 30 d_M_reckon_120 rfl ?_
                    refine j_lv [0, 1, 2] rfl ?_
                    rw [uI_uI]
                    exact ih30 (i + 1) _ (by omega) (by rw [mnB_s _ i0.1, ← i1]; first | (rw [if_neg (by omega)]; done) | (rw [if_neg (by omega)]; omega) | (rw [if_pos (by omega)]; done) | (rw [if_pos (by omega)]; omega)) (by omega) (by omega)
                  · refine j_iload_n (q := 97) C 3 rfl d_M_reckon_96 rfl ?_
                    refine j_aload_n (q := 98) C 0 rfl d_M_reckon_97 rfl ?_
                    refine j_get (q := 101) C i_M rfl 0 rfl 20 (by decide) rfl rfl fl_M_46 d_M_reckon_98 rfl ?_
                    refine j_iload_n (q := 102) C 1 rfl d_M_reckon_101 rfl ?_
                    refine j_iald (q := 103) C 13 0 rfl rfl (by decide) (by omega) d_M_reckon_102 rfl ?_
                    refine j_icmp_ge C 110 106 d_M_reckon_103 rfl rfl (by omega) (by omega) (fun c6 => ?_) (fun c6 => ?_)
                    · refine j_aload_n (q := 111) C 0 rfl d_M_reckon_110 rfl ?_
                      refine j_get (q := 114) C i_M rfl 0 rfl 20 (by decide) rfl rfl fl_M_46 d_M_reckon_111 rfl ?_
                      refine j_iload_n (q := 115) C 1 rfl d_M_reckon_114 rfl ?_
                      refine j_iald (q := 116) C 13 0 rfl rfl (by decide) (by omega) d_M_reckon_115 rfl ?_
                      refine j_iast (q := 117) C 13 0 rfl rfl (by decide) (by omega) (wM kI kZ x th co Rw nw Le Lt sn Cd Kp We mn Bg Sz Td Mp ts nr Fo np Pl (uI (uI (fwA Fw Lt Le nw Pl np mm) (np - 1 - mm).toNat v) (np - 1 - mm).toNat ((uI (fwA Fw Lt Le nw Pl np mm) (np - 1 - mm).toNat v) (np - 1 - mm).toNat))) rfl d_M_reckon_116 rfl ?_
                      refine j_iinc (q := 120) C 2 [(0, .ref (x 0)), (1, .int (iI (np - 1 - mm))), (2, .int (iI (i + 1))), (3, .int (iI (((uI (fwA Fw Lt Le nw Pl np mm) (np - 1 - mm).toNat v) ((np - 1 - mm) + (Le i.toNat)).toNat) + 1)))] rfl rfl (by decide) d_M_reckon_117 rfl ?_
                      refine j_goto C 30 d_M_reckon_120 rfl ?_
                      refine j_lv [0, 1, 2] rfl ?_
                      rw [uI_uI]
                      exact ih30 (i + 1) _ (by omega) (by rw [mnB_s _ i0.1, ← i1]; first | (rw [if_neg (by omega)]; done) | (rw [if_neg (by omega)]; omega) | (rw [if_pos (by omega)]; done) | (rw [if_pos (by omega)]; omega)) (by omega) (by omega)
                    · refine j_iload_n (q := 107) C 3 rfl d_M_reckon_106 rfl ?_
                      refine j_goto C 116 d_M_reckon_107 rfl ?_
                      refine j_iast (q := 117) C 13 0 rfl rfl (by decide) (by omega) (wM kI kZ x th co Rw nw Le Lt sn Cd Kp We mn Bg Sz Td Mp ts nr Fo np Pl (uI (uI (fwA Fw Lt Le nw Pl np mm) (np - 1 - mm).toNat v) (np - 1 - mm).toNat (((uI (fwA Fw Lt Le nw Pl np mm) (np - 1 - mm).toNat v) ((np - 1 - mm) + (Le i.toNat)).toNat) + 1))) rfl d_M_reckon_116 rfl ?_
                      refine j_iinc (q := 120) C 2 [(0, .ref (x 0)), (1, .int (iI (np - 1 - mm))), (2, .int (iI (i + 1))), (3, .int (iI (((uI (fwA Fw Lt Le nw Pl np mm) (np - 1 - mm).toNat v) ((np - 1 - mm) + (Le i.toNat)).toNat) + 1)))] rfl rfl (by decide) d_M_reckon_117 rfl ?_
                      refine j_goto C 30 d_M_reckon_120 rfl ?_
                      refine j_lv [0, 1, 2] rfl ?_
                      rw [uI_uI]
                      exact ih30 (i + 1) _ (by omega) (by rw [mnB_s _ i0.1, ← i1]; first | (rw [if_neg (by omega)]; done) | (rw [if_neg (by omega)]; omega) | (rw [if_pos (by omega)]; done) | (rw [if_pos (by omega)]; omega)) (by omega) (by omega)
                · refine j_goto C 117 d_M_reckon_63 rfl ?_
                  refine j_iinc (q := 120) C 2 [(0, .ref (x 0)), (1, .int (iI (np - 1 - mm))), (2, .int (iI (i + 1)))] rfl rfl (by decide) d_M_reckon_117 rfl ?_
                  refine j_goto C 30 d_M_reckon_120 rfl ?_
                  refine j_lv [0, 1, 2] rfl ?_
                  exact ih30 (i + 1) _ (by omega) (by rw [mnB_s _ i0.1, ← i1]; first | (rw [if_neg (by omega)]; done) | (rw [if_neg (by omega)]; omega) | (rw [if_pos (by omega)]; done) | (rw [if_pos (by omega)]; omega)) (by omega) (by omega)
        exact lp30 (nw.toNat + 1) 0 (-1) (by omega) rfl (by omega) (by omega)
  have z0 : (np - 1 : Int) = np - 1 - ((0 : Nat) : Int) := by omega
  rw [z0]
  exact lp17 (np.toNat + 1) 0 (by omega) (by omega)
set_option maxRecDepth 100000 in
set_option maxHeartbeats 4000000 in
theorem c_M_breaks {l : Launch} {D : va_G} (kI kZ : ClassId) (x : Nat → Nat) (th co : Int) (Rw : Nat → Int) (nw : Int) (Le Lt : Nat → Int) (sn : Int) (Cd Kp We : Nat → Int) (mn : Int) (Bg Sz Td Mp : Nat → Int) (ts nr : Int) (Fo : Nat → Int) (np : Int) (Pl Fw : Nat → Int) (hnw : 0 ≤ nw ∧ nw ≤ 60) (hLe : ∀ j, 0 ≤ Le j ∧ Le j ≤ 8) (hLt : ∀ j, 0 ≤ Lt j ∧ Lt j ≤ 122) (hnp : 0 ≤ np ∧ np ≤ 60) (hPl : ∀ j, 0 ≤ Pl j ∧ Pl j ≤ 122) (hFw : ∀ j, -1 ≤ Fw j ∧ Fw j ≤ 60) (hL1 : ∀ a, 0 ≤ a → a < nw → 1 ≤ lnOf Le nw a) : Dt l D (ty2 kI kZ) y_M_breaks w_M_breaks { frames := 3, cells := 0, slots := 0, locals := 68 } [.ref (x 0)] (wM kI kZ x th co Rw nw Le Lt sn Cd Kp We mn Bg Sz Td Mp ts nr Fo np Pl Fw) (some (.int (iI (fwZ Fw Lt Le nw Pl np (0 : Int).toNat)))) (wM kI kZ x 0 co Rw nw Le Lt sn Cd Kp We mn Bg Sz Td Mp ts nr Fo np Pl (fwZ Fw Lt Le nw Pl np)) := by
  refine Met.toJ (own := R_M) (QD D (some (.int (iI (fwZ Fw Lt Le nw Pl np (0 : Int).toNat)))) (wM kI kZ x 0 co Rw nw Le Lt sn Cd Kp We mn Bg Sz Td Mp ts nr Fo np Pl (fwZ Fw Lt Le nw Pl np))) mk_M_breaks rfl (Nat.le_of_ble_eq_true rfl) ?_
  intro p e s m args below meth c A C hr hlk hnm
  show JJ p l e { frames := 3, cells := 0, slots := 0, locals := 68 } s m args below meth c D A 1 (MQ below (QD D (some (.int (iI (fwZ Fw Lt Le nw Pl np (0 : Int).toNat)))) (wM kI kZ x 0 co Rw nw Le Lt sn Cd Kp We mn Bg Sz Td Mp ts nr Fo np Pl (fwZ Fw Lt Le nw Pl np)) A) args s 0 0 A) 0 0 0 [(0, .ref (x 0))] [] (wM kI kZ x th co Rw nw Le Lt sn Cd Kp We mn Bg Sz Td Mp ts nr Fo np Pl Fw)
  have bZ := fwZ_r (WP := Lt) (XP := Pl) hFw hnw.1 hnp hL1
  refine j_aload_n (q := 1) C 0 rfl d_M_breaks_0 rfl ?_
  refine j_iconst (q := 2) C d_M_breaks_1 rfl ?_
  refine j_put (q := 5) (ty := .int) C i_M rfl t_M t_M_ok n_M 0 rfl 0 (by decide) rfl fl_M_49 rfl (by decide +kernel) rfl rfl (Nat.le_of_ble_eq_true rfl) (wM kI kZ x 0 co Rw nw Le Lt sn Cd Kp We mn Bg Sz Td Mp ts nr Fo np Pl Fw) rfl d_M_breaks_2 rfl ?_
  refine j_aload_n (q := 6) C 0 rfl d_M_breaks_5 rfl ?_
  refine j_callV (q := 9) (wr := []) C [] [] (c_M_reckon kI kZ x 0 co Rw nw Le Lt sn Cd Kp We mn Bg Sz Td Mp ts nr Fo np Pl Fw hnw hLe hLt hnp hPl hFw  hL1) ml_M_122 mk_M_reckon in_M_reckon se_M_reckon rfl rfl rfl [0, 1, 2, 3, 4, 5, 6, 7, 8, 9, 10, 11, 12, 13] [] [0, 1, 2, 3, 4, 5, 6, 7, 8, 9, 10, 11, 12, 13] rfl (by decide) rfl (by decide) (by decide) (wM kI kZ x 0 co Rw nw Le Lt sn Cd Kp We mn Bg Sz Td Mp ts nr Fo np Pl (fwZ Fw Lt Le nw Pl np)) rfl (by decide) rfl rfl rfl (Nat.le_of_ble_eq_true rfl) ⟨Nat.le_of_ble_eq_true rfl, Nat.le_of_ble_eq_true rfl⟩ ⟨Nat.le_of_ble_eq_true rfl, Nat.le_of_ble_eq_true rfl⟩ d_M_breaks_6 rfl ?_
  refine j_aload_n (q := 10) C 0 rfl d_M_breaks_9 rfl ?_
  refine j_get (q := 13) C i_M rfl 0 rfl 20 (by decide) rfl rfl fl_M_46 d_M_breaks_10 rfl ?_
  refine j_iconst (q := 14) C d_M_breaks_13 rfl ?_
  refine j_iald (q := 15) C 13 0 rfl rfl (by decide) (by omega) d_M_breaks_14 rfl ?_
  exact j_iret C hr hlk d_M_breaks_15 rfl rfl
set_option maxRecDepth 100000 in
set_option maxHeartbeats 4000000 in
theorem c_M_breakAt {l : Launch} {D : va_G} (kI kZ : ClassId) (x : Nat → Nat) (th co : Int) (Rw : Nat → Int) (nw : Int) (Le Lt : Nat → Int) (sn : Int) (Cd Kp We : Nat → Int) (mn : Int) (Bg Sz Td Mp : Nat → Int) (ts nr : Int) (Fo : Nat → Int) (np : Int) (Pl Fw : Nat → Int) (hnw : 0 ≤ nw ∧ nw ≤ 60) (hLe : ∀ j, 0 ≤ Le j ∧ Le j ≤ 8) (hLt : ∀ j, 0 ≤ Lt j ∧ Lt j ≤ 122) (hnp : 0 ≤ np ∧ np ≤ 60) (hPl : ∀ j, 0 ≤ Pl j ∧ Pl j ≤ 122) (hFw : ∀ j, -1 ≤ Fw j ∧ Fw j ≤ 60) (hL1 : ∀ a, 0 ≤ a → a < nw → 1 ≤ lnOf Le nw a) (k : Int) (hk : (-2147483648 ≤ k ∧ k < 2147483648)) : Dt l D (ty2 kI kZ) y_M_breakAt w_M_breakAt { frames := 3, cells := 0, slots := 0, locals := 68 } [.ref (x 0), .int (iI (k))] (wM kI kZ x th co Rw nw Le Lt sn Cd Kp We mn Bg Sz Td Mp ts nr Fo np Pl Fw) (some (.int (iI (wdB Fw Lt Le nw Pl np k)))) (wM kI kZ x 0 co Rw nw Le Lt sn Cd Kp We mn Bg Sz Td Mp ts nr Fo np Pl (fwZ Fw Lt Le nw Pl np)) := by
  refine Met.toJ (own := R_M) (QD D (some (.int (iI (wdB Fw Lt Le nw Pl np k)))) (wM kI kZ x 0 co Rw nw Le Lt sn Cd Kp We mn Bg Sz Td Mp ts nr Fo np Pl (fwZ Fw Lt Le nw Pl np))) mk_M_breakAt rfl (Nat.le_of_ble_eq_true rfl) ?_
  intro p e s m args below meth c A C hr hlk hnm
  show JJ p l e { frames := 3, cells := 0, slots := 0, locals := 68 } s m args below meth c D A 5 (MQ below (QD D (some (.int (iI (wdB Fw Lt Le nw Pl np k)))) (wM kI kZ x 0 co Rw nw Le Lt sn Cd Kp We mn Bg Sz Td Mp ts nr Fo np Pl (fwZ Fw Lt Le nw Pl np)) A) args s 0 0 A) 0 0 0 [(0, .ref (x 0)), (1, .int (iI (k)))] [] (wM kI kZ x th co Rw nw Le Lt sn Cd Kp We mn Bg Sz Td Mp ts nr Fo np Pl Fw)
  have bZ := fwZ_r (WP := Lt) (XP := Pl) hFw hnw.1 hnp hL1
  refine j_aload_n (q := 1) C 0 rfl d_M_breakAt_0 rfl ?_
  refine j_iconst (q := 2) C d_M_breakAt_1 rfl ?_
  refine j_put (q := 5) (ty := .int) C i_M rfl t_M t_M_ok n_M 0 rfl 0 (by decide) rfl fl_M_49 rfl (by decide +kernel) rfl rfl (Nat.le_of_ble_eq_true rfl) (wM kI kZ x 0 co Rw nw Le Lt sn Cd Kp We mn Bg Sz Td Mp ts nr Fo np Pl Fw) rfl d_M_breakAt_2 rfl ?_
  refine j_aload_n (q := 6) C 0 rfl d_M_breakAt_5 rfl ?_
  refine j_callV (q := 9) (wr := []) C [] [] (c_M_reckon kI kZ x 0 co Rw nw Le Lt sn Cd Kp We mn Bg Sz Td Mp ts nr Fo np Pl Fw hnw hLe hLt hnp hPl hFw  hL1) ml_M_122 mk_M_reckon in_M_reckon se_M_reckon rfl rfl rfl [0, 1, 2, 3, 4, 5, 6, 7, 8, 9, 10, 11, 12, 13] [] [0, 1, 2, 3, 4, 5, 6, 7, 8, 9, 10, 11, 12, 13] rfl (by decide) rfl (by decide) (by decide) (wM kI kZ x 0 co Rw nw Le Lt sn Cd Kp We mn Bg Sz Td Mp ts nr Fo np Pl (fwZ Fw Lt Le nw Pl np)) rfl (by decide) rfl rfl rfl (Nat.le_of_ble_eq_true rfl) ⟨Nat.le_of_ble_eq_true rfl, Nat.le_of_ble_eq_true rfl⟩ ⟨Nat.le_of_ble_eq_true rfl, Nat.le_of_ble_eq_true rfl⟩ d_M_breakAt_6 rfl ?_
  refine j_iload_n (q := 10) C 1 rfl d_M_breakAt_9 rfl ?_
  refine j_if_lt C 23 13 d_M_breakAt_10 rfl rfl (by omega) (fun c1 => ?_) (fun c1 => ?_)
  · refine j_iconst (q := 24) C d_M_breakAt_23 rfl ?_
    exact j_iret C hr hlk d_M_breakAt_24 (congrArg (fun z => some (Value.int (iI z))) (show (wdB Fw Lt Le nw Pl np k) = (-1) from by unfold wdB; rw [if_neg (by omega)])) rfl
  · refine j_iload_n (q := 14) C 1 rfl d_M_breakAt_13 rfl ?_
    refine j_aload_n (q := 15) C 0 rfl d_M_breakAt_14 rfl ?_
    refine j_get (q := 18) C i_M rfl 0 rfl 20 (by decide) rfl rfl fl_M_46 d_M_breakAt_15 rfl ?_
    refine j_iconst (q := 19) C d_M_breakAt_18 rfl ?_
    refine j_iald (q := 20) C 13 0 rfl rfl (by decide) (by omega) d_M_breakAt_19 rfl ?_
    have h19 := bZ (0 : Int).toNat
    refine j_icmp_lt C 25 23 d_M_breakAt_20 rfl rfl (by omega) (by omega) (fun c2 => ?_) (fun c2 => ?_)
    · refine j_iconst (q := 26) C d_M_breakAt_25 rfl ?_
      refine j_istore_n (q := 27) C [(0, .ref (x 0)), (1, .int (iI (k))), (2, .int (iI (0)))] rfl (by decide) d_M_breakAt_26 rfl ?_
      refine j_iconst (q := 28) C d_M_breakAt_27 rfl ?_
      refine j_istore_n (q := 29) C [(0, .ref (x 0)), (1, .int (iI (k))), (2, .int (iI (0))), (3, .int (iI (0)))] rfl (by decide) d_M_breakAt_28 rfl ?_
      refine j_iconst (q := 30) C d_M_breakAt_29 rfl ?_
      refine j_istore (q := 32) C [(0, .ref (x 0)), (1, .int (iI (k))), (2, .int (iI (0))), (3, .int (iI (0))), (4, .int (iI (0)))] rfl (by decide) d_M_breakAt_30 rfl ?_
      have lp32 : ∀ (N : Nat) (j p0 w0 : Int), (0 ≤ j ∧ j ≤ k + 1) → (p0 = poB (fwZ Fw Lt Le nw Pl np) Lt Le nw Pl np j.toNat) → ((fwZ Fw Lt Le nw Pl np) p0.toNat = (fwZ Fw Lt Le nw Pl np) (0 : Int).toNat - j) → (1 ≤ j → w0 = lwB (fwZ Fw Lt Le nw Pl np) Lt Le nw Pl np (poB (fwZ Fw Lt Le nw Pl np) Lt Le nw Pl np (j - 1).toNat)) → (0 ≤ p0 ∧ p0 ≤ np) → (k + 1 - j).toNat < N → JJ p l e { frames := 3, cells := 0, slots := 0, locals := 68 } s m args below meth c D A 5 (MQ below (QD D (some (.int (iI (wdB Fw Lt Le nw Pl np k)))) (wM kI kZ x 0 co Rw nw Le Lt sn Cd Kp We mn Bg Sz Td Mp ts nr Fo np Pl (fwZ Fw Lt Le nw Pl np)) A) args s 0 0 A) 0 0 32 [(0, .ref (x 0)), (1, .int (iI (k))), (2, .int (iI (p0))), (3, .int (iI (w0))), (4, .int (iI (j)))] [] (wM kI kZ x 0 co Rw nw Le Lt sn Cd Kp We mn Bg Sz Td Mp ts nr Fo np Pl (fwZ Fw Lt Le nw Pl np)) := by
        intro N
        induction N with
        | zero =>
          intro j p0 w0 j0 j1 j2 j3 j4 hN
          omega
        | succ N ih32 =>
          intro j p0 w0 j0 j1 j2 j3 j4 hN
          refine j_iload (q := 34) C 4 rfl d_M_breakAt_32 rfl ?_
          refine j_iload_n (q := 35) C 1 rfl d_M_breakAt_34 rfl ?_
          refine j_icmp_gt C 94 38 d_M_breakAt_35 rfl rfl (by omega) (by omega) (fun c3 => ?_) (fun c3 => ?_)
          · refine j_iload_n (q := 95) C 3 rfl d_M_breakAt_94 rfl ?_
            first | (exfalso; omega) | exact j_iret C hr hlk d_M_breakAt_95 (congrArg (fun z => some (Value.int (iI z))) (show (wdB Fw Lt Le nw Pl np k) = (w0) from by unfold wdB; rw [if_pos (by omega), j3 (by omega), show k = j - 1 from by omega])) rfl
          · have r38 : 0 < (fwZ Fw Lt Le nw Pl np) p0.toNat := by rw [j2]; omega
            have s37 := br_step (BF := Fw) (WP := Lt) (XP := Pl) j4 hL1 r38
            have s38 := lwB_s s37.1.1
            have s39 : ∀ w, 0 ≤ w → w < lwB (fwZ Fw Lt Le nw Pl np) Lt Le nw Pl np p0 → ¬ (¬ fbB (fwZ Fw Lt Le nw Pl np) Lt Le nw Pl np w p0 = -1 ∧ fbB (fwZ Fw Lt Le nw Pl np) Lt Le nw Pl np w p0 + 1 = (fwZ Fw Lt Le nw Pl np) p0.toNat) := by intro w h1 h2; rw [← s37.2] at h2; unfold lwQ at h2; rcases lst_sp (fun w => ¬ fbB (fwZ Fw Lt Le nw Pl np) Lt Le nw Pl np w p0 = -1 ∧ fbB (fwZ Fw Lt Le nw Pl np) Lt Le nw Pl np w p0 + 1 = (fwZ Fw Lt Le nw Pl np) p0.toNat) nw with ⟨-, -, -, q⟩ | ⟨q0, q⟩; exact q w h1 h2; exact q w h1 (by omega)
            refine j_iconst (q := 39) C d_M_breakAt_38 rfl ?_
            refine j_istore_n (q := 40) C [(0, .ref (x 0)), (1, .int (iI (k))), (2, .int (iI (p0))), (3, .int (iI (0))), (4, .int (iI (j)))] rfl (by decide) d_M_breakAt_39 rfl ?_
            have lp40 : ∀ (N : Nat) (w : Int), (0 ≤ w ∧ w ≤ lwB (fwZ Fw Lt Le nw Pl np) Lt Le nw Pl np p0) → (nw - w).toNat < N → JJ p l e { frames := 3, cells := 0, slots := 0, locals := 68 } s m args below meth c D A 5 (MQ below (QD D (some (.int (iI (wdB Fw Lt Le nw Pl np k)))) (wM kI kZ x 0 co Rw nw Le Lt sn Cd Kp We mn Bg Sz Td Mp ts nr Fo np Pl (fwZ Fw Lt Le nw Pl np)) A) args s 0 0 A) 0 0 40 [(0, .ref (x 0)), (1, .int (iI (k))), (2, .int (iI (p0))), (3, .int (iI (w))), (4, .int (iI (j)))] [] (wM kI kZ x 0 co Rw nw Le Lt sn Cd Kp We mn Bg Sz Td Mp ts nr Fo np Pl (fwZ Fw Lt Le nw Pl np)) := by
              intro N
              induction N with
              | zero =>
                intro w w1 hN
                omega
              | succ N ih40 =>
                intro w w1 hN
                have w2 := s37.1
                have l0 : lnOf Le nw w = Le w.toNat := if_pos (by omega)
                have l2 := hLe w.toNat
                refine j_aload_n (q := 41) C 0 rfl d_M_breakAt_40 rfl ?_
                refine j_iload_n (q := 42) C 3 rfl d_M_breakAt_41 rfl ?_
                refine j_iload_n (q := 43) C 2 rfl d_M_breakAt_42 rfl ?_
                have e43 := bI_r (stB Lt Le nw Pl np w p0)
                refine j_callV (q := 46) (wr := []) C [.int (iI (w)), .int (iI (p0))] [] (c_M_stands kI kZ x 0 co Rw nw Le Lt sn Cd Kp We mn Bg Sz Td Mp ts nr Fo np Pl (fwZ Fw Lt Le nw Pl np) hnw hLe hLt hnp hPl w p0 (by omega) (by omega)) ml_M_119 mk_M_stands in_M_stands se_M_stands rfl rfl rfl [0, 1, 2, 3, 4, 5, 6, 7, 8, 9, 10, 11, 12, 13] [] [0, 1, 2, 3, 4, 5, 6, 7, 8, 9, 10, 11, 12, 13] rfl (by decide) rfl (by decide) (by decide) (wM kI kZ x 0 co Rw nw Le Lt sn Cd Kp We mn Bg Sz Td Mp ts nr Fo np Pl (fwZ Fw Lt Le nw Pl np)) rfl (by decide) rfl rfl rfl (Nat.le_of_ble_eq_true rfl) ⟨Nat.le_of_ble_eq_true rfl, Nat.le_of_ble_eq_true rfl⟩ ⟨Nat.le_of_ble_eq_true rfl, Nat.le_of_ble_eq_true rfl⟩ d_M_breakAt_43 rfl ?_
                refine j_if_eq C 73 49 d_M_breakAt_46 rfl rfl (by omega) (fun c4 => ?_) (fun c4 => ?_)
                · have c4 := bI_z c4
                  have n46 : ¬ w = lwB (fwZ Fw Lt Le nw Pl np) Lt Le nw Pl np p0 := fun z => c4 (by rw [z]; exact s38.1)
                  refine j_iinc (q := 76) C 3 [(0, .ref (x 0)), (1, .int (iI (k))), (2, .int (iI (p0))), (3, .int (iI (w + 1))), (4, .int (iI (j)))] rfl rfl (by decide) d_M_breakAt_73 rfl ?_
                  refine j_goto C 40 d_M_breakAt_76 rfl ?_
                  exact ih40 (w + 1) (by omega) (by omega)
                · have c4 := bI_n c4
                  have g46 : fbB (fwZ Fw Lt Le nw Pl np) Lt Le nw Pl np w p0 = (fwZ Fw Lt Le nw Pl np) (p0 + lnOf Le nw w).toNat := ifP_t c4
                  have g45 := c4.2.1
                  rw [l0] at g46 g45
                  refine j_aload_n (q := 50) C 0 rfl d_M_breakAt_49 rfl ?_
                  refine j_get (q := 53) C i_M rfl 0 rfl 20 (by decide) rfl rfl fl_M_46 d_M_breakAt_50 rfl ?_
                  refine j_iload_n (q := 54) C 2 rfl d_M_breakAt_53 rfl ?_
                  refine j_aload_n (q := 55) C 0 rfl d_M_breakAt_54 rfl ?_
                  refine j_get (q := 58) C i_M rfl 0 rfl 4 (by decide) rfl rfl fl_M_13 d_M_breakAt_55 rfl ?_
                  refine j_iload_n (q := 59) C 3 rfl d_M_breakAt_58 rfl ?_
                  refine j_iald (q := 60) C 2 0 rfl rfl (by decide) (by omega) d_M_breakAt_59 rfl ?_
                  have h59 := hLe w.toNat
                  refine j_iadd (q := 61) C d_M_breakAt_60 rfl ?_
                  refine j_iald (q := 62) C 13 0 rfl rfl (by decide) (by omega) d_M_breakAt_61 rfl ?_
                  have h61 := bZ (p0 + (Le w.toNat)).toNat
                  refine j_aload_n (q := 63) C 0 rfl d_M_breakAt_62 rfl ?_
                  refine j_get (q := 66) C i_M rfl 0 rfl 20 (by decide) rfl rfl fl_M_46 d_M_breakAt_63 rfl ?_
                  refine j_iload_n (q := 67) C 2 rfl d_M_breakAt_66 rfl ?_
                  refine j_iald (q := 68) C 13 0 rfl rfl (by decide) (by omega) d_M_breakAt_67 rfl ?_
                  have h67 := bZ p0.toNat
                  refine j_iconst (q := 69) C d_M_breakAt_68 rfl ?_
                  refine j_isub (q := 70) C d_M_breakAt_69 rfl ?_
                  refine j_icmp_eq C 79 73 d_M_breakAt_70 rfl rfl (by omega) (by omega) (fun c5 => ?_) (fun c5 => ?_)
                  · have n70 : w = lwB (fwZ Fw Lt Le nw Pl np) Lt Le nw Pl np p0 := by have q := s39 w (by omega); rcases (show w < lwB (fwZ Fw Lt Le nw Pl np) Lt Le nw Pl np p0 ∨ w = lwB (fwZ Fw Lt Le nw Pl np) Lt Le nw Pl np p0 by omega) with z | z; exact absurd ⟨by rw [g46]; omega, by rw [g46]; omega⟩ (q z); exact z
                    refine j_iload_n (q := 80) C 2 rfl d_M_breakAt_79 rfl ?_
                    refine j_aload_n (q := 81) C 0 rfl d_M_breakAt_80 rfl ?_
                    refine j_get (q := 84) C i_M rfl 0 rfl 4 (by decide) rfl rfl fl_M_13 d_M_breakAt_81 rfl ?_
                    refine j_iload_n (q := 85) C 3 rfl d_M_breakAt_84 rfl ?_
                    refine j_iald (q := 86) C 2 0 rfl rfl (by decide) (by omega) d_M_breakAt_85 rfl ?_
                    have h85 := hLe w.toNat
                    refine j_iadd (q := 87) C d_M_breakAt_86 rfl ?_
                    refine j_istore_n (q := 88) C [(0, .ref (x 0)), (1, .int (iI (k))), (2, .int (iI (p0 + (Le w.toNat)))), (3, .int (iI (w))), (4, .int (iI (j)))] rfl (by decide) d_M_breakAt_87 rfl ?_
                    refine j_iinc (q := 91) C 4 [(0, .ref (x 0)), (1, .int (iI (k))), (2, .int (iI (p0 + (Le w.toNat)))), (3, .int (iI (w))), (4, .int (iI (j + 1)))] rfl rfl (by decide) d_M_breakAt_88 rfl ?_
                    refine j_goto C 32 d_M_breakAt_91 rfl ?_
                    have q1 := poB_s (fwZ Fw Lt Le nw Pl np) Lt Le nw Pl np j0.1
                    rw [← j1, ← n70, l0] at q1
                    exact ih32 (j + 1) _ w (by omega) q1.symm (by omega) (fun _ => by rw [show j + 1 - 1 = j from by omega, ← j1]; exact n70) (by omega) (by omega)
                  · have n46 : ¬ w = lwB (fwZ Fw Lt Le nw Pl np) Lt Le nw Pl np p0 := fun z => by have q := s38.2; rw [← z, g46] at q; omega
                    refine j_iinc (q := 76) C 3 [(0, .ref (x 0)), (1, .int (iI (k))), (2, .int (iI (p0))), (3, .int (iI (w + 1))), (4, .int (iI (j)))] rfl rfl (by decide) d_M_breakAt_73 rfl ?_
                    refine j_goto C 40 d_M_breakAt_76 rfl ?_
                    exact ih40 (w + 1) (by omega) (by omega)
            exact lp40 (nw.toNat + 1) 0 (by omega) (by omega)
      exact lp32 (k.toNat + 2) 0 0 0 (by omega) rfl (by omega) (fun h => by omega) (by omega) (by omega)
    · refine j_iconst (q := 24) C d_M_breakAt_23 rfl ?_
      first | (exfalso; omega) | exact j_iret C hr hlk d_M_breakAt_24 (congrArg (fun z => some (Value.int (iI z))) (show (wdB Fw Lt Le nw Pl np k) = (-1) from by unfold wdB; rw [if_neg (by omega)])) rfl
