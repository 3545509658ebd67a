def Z26 (f : Nat → Int) : Prop := ∀ j : Nat, 26 ≤ j → f j = 0
theorem tmM_z {f : Nat → Int} (h : Z26 f) {n : Int} (hn : n.toNat < 26) (q : Int) : Z26 (tmM f n q) := by
  intro j hj
  by_cases c : f n.toNat = 0 ∧ ∀ k : Int, 0 ≤ k → k < 26 → ¬ f k.toNat = q
  · rw [show tmM f n q = uI f n.toNat q from ifP_t c, show uI f n.toNat q j = f j from if_neg (by omega)]
    exact h j hj
  · rw [show tmM f n q = f from ifP_f c]
    exact h j hj
theorem ftK_Z {Kp Cd M0 : Nat → Int} {sn : Int} (h : Z26 M0) (n : Nat) : n ≤ 26 → Z26 (ftK Kp Cd sn M0 n).1 := by
  induction n with
  | zero => intro _; exact h
  | succ n ih =>
    intro hn
    rw [ftK_1]
    split
    · exact ih (by omega)
    · by_cases c : ¬ Kp (n : Int).toNat = 0 ∧ inM Cd sn n
      · rw [ifP_t c]; exact tmM_z (ih (by omega)) (by omega) _
      · rw [ifP_f c]; exact ih (by omega)
theorem ftI_Z {nm pl : Int → Int} {M0 : Nat → Int} (hn : ∀ j, (nm j).toNat < 26) (h : Z26 M0) (n : Nat) : Z26 (ftI nm pl M0 n).1 := by
  induction n with
  | zero => exact h
  | succ n ih =>
    rw [ftI_1]
    split
    · exact ih
    · exact tmM_z ih (hn _) _
theorem ftL_Z {Cd Bg Sz Td Lt M0 : Nat → Int} (hC : ∀ j, -1 ≤ Cd j ∧ Cd j ≤ 25) (h : Z26 M0) (n : Nat) : Z26 (ftL Cd Bg Sz Td Lt M0 n).1 := by
  induction n with
  | zero => exact h
  | succ n ih =>
    rw [ftL_1]
    split
    · exact ih
    · exact ftI_Z (fun j => by have := hC (Bg (n : Int).toNat + j).toNat; omega) ih _
theorem zr_Z {f : Nat → Int} (h : Z26 f) : zrB f 0 = fun _ => 0 := by
  funext j
  unfold zrB
  split
  · rfl
  · exact h j (by omega)
theorem ftM_e {Kp Cd Bg Sz Td Lt Mp : Nat → Int} {sn : Int} (h : Z26 Mp) (v : Int) : ftM Kp Cd sn Bg Sz Td Lt Mp v = if (g0M Kp Cd sn).2 = 0 then g0M Kp Cd sn else ftL Cd Bg Sz Td Lt (g0M Kp Cd sn).1 v.toNat := by
  unfold ftM g0M
  rw [zr_Z h]
theorem g0_Z (Kp Cd : Nat → Int) (sn : Int) : Z26 (g0M Kp Cd sn).1 := ftK_Z (fun _ _ => rfl) 26 (Nat.le_refl 26)
theorem ftL_dn {Cd Bg Sz Td Lt M0 : Nat → Int} {L : Int} (h0 : 1 ≤ L) (h : ¬ (ftL Cd Bg Sz Td Lt M0 L.toNat).2 = 0) : ¬ (ftL Cd Bg Sz Td Lt M0 (L - 1).toNat).2 = 0 := by
  intro z
  refine h ?_
  rw [show L.toNat = (L - 1).toNat + 1 from by omega, ftL_1, if_pos z]
  exact z
theorem erM_r {Mp Fo : Nat → Int} {nr : Int} (h1 : ∀ j, 0 ≤ Mp j ∧ Mp j ≤ 122) (h2 : ∀ j, 0 ≤ Fo j ∧ Fo j ≤ 122) (hn : 0 ≤ nr ∧ nr ≤ 200) : (∀ j, 0 ≤ erM Mp Fo nr j ∧ erM Mp Fo nr j ≤ 122) ∧ (0 ≤ enM Mp Fo nr ∧ enM Mp Fo nr ≤ 200) := by
  refine ⟨fun j => ?_, ?_⟩
  · unfold erM
    split
    · exact h2 j
    · dsimp only
      split
      · exact h1 _
      · unfold shF
        split
        · exact h2 _
        · exact h2 _
  · unfold enM
    split
    · exact hn
    · split <;> omega
theorem cuM_0 {Cd Bg Sz Lt Le : Nat → Int} {nw mo mn : Int} {G T : Nat → Int} (h0 : 0 ≤ mn) (hT : T (0 : Int).toNat = -1) (X : X3 B3) : cuM Cd Bg Sz Lt Le nw mo mn G T 0 X = skM Cd Bg Sz Lt Le nw mo mn.toNat 0 G X := by
  unfold cuM
  by_cases c : (0 : Int) = mn
  · rw [if_pos c, ← c]; rfl
  · rw [if_neg c, hT, show mn.toNat = (mn - 1 - 0).toNat + 1 from by omega, skM_s, fwX_K, show (-1 : Int) + 1 = 0 from by omega, show (nw - 1 - -1).toNat = nw.toNat from by omega]
    rfl

set_option maxRecDepth 100000 in
set_option maxHeartbeats 4000000 in
theorem c_M_run_ok {l : Launch} {D : va_G} (kI kZ : ClassId) (x : Nat → Nat) (th co : Int) (Rw : Nat → Int) (nw : Int) (Le Lt : Nat → Int) (sn : Int) (Cd Kp We : Nat → Int) (mn : Int) (Bg Sz Td Mp : Nat → Int) (ts nr : Int) (Fo : Nat → Int) (np : Int) (Pl Fw : Nat → Int) (hsn : 0 ≤ sn ∧ sn ≤ 60) (hCd : ∀ j, -1 ≤ Cd j ∧ Cd j ≤ 25) (hKp : ∀ j, 0 ≤ Kp j ∧ Kp j ≤ 122) (hLt : ∀ j, 0 ≤ Lt j ∧ Lt j ≤ 122) (hLe : ∀ j, 0 ≤ Le j ∧ Le j ≤ 8) (hnw : 0 ≤ nw ∧ nw ≤ 60) (hTd : ∀ j, -1 ≤ Td j ∧ Td j ≤ 60) (hMp : ∀ j, 0 ≤ Mp j ∧ Mp j ≤ 122) (hnr : 0 ≤ nr ∧ nr ≤ 200) (hFo : ∀ j, 0 ≤ Fo j ∧ Fo j ≤ 122) (m1 : Int) (B1 S1 : Nat → Int) (hptE : ptM Cd Bg Sz sn.toNat = (m1, B1, S1)) (hm1 : 0 ≤ m1 ∧ m1 ≤ 60) (hB1 : ∀ j, 0 ≤ B1 j ∧ B1 j ≤ 59) (hS1 : ∀ j, 0 ≤ S1 j ∧ S1 j ≤ 60) (hpt : ∀ k i, 0 ≤ k → k < m1 → 0 ≤ i → i < S1 k.toNat → (0 ≤ B1 k.toNat + i ∧ B1 k.toNat + i < 60) ∧ 0 ≤ Cd (B1 k.toNat + i).toNat) (hMz : Z26 Mp) (mo : Int) (hmo : 0 ≤ mo ∧ mo ≤ 100000) : Dx l D (ty2 kI kZ) y_M_run w_M_run { frames := 10, cells := 0, slots := 0, locals := 400 } [.ref (x 0), .int (iI (mo))] (wM kI kZ x th co Rw nw Le Lt sn Cd Kp We mn Bg Sz Td Mp ts nr Fo np Pl Fw) (some (.int (iI (if (rnM Kp Cd sn B1 S1 Lt Le nw mo m1 Fo).2.1 = 0 then (rnM Kp Cd sn B1 S1 Lt Le nw mo m1 Fo).2.2.1 else -1)))) (fun q : { q : (Nat → Int) × (Nat → Int) // (∀ j, -1 ≤ q.1 j ∧ q.1 j ≤ 60) ∧ (∀ j, 0 ≤ q.2 j ∧ q.2 j ≤ 122) ∧ Z26 q.2 } => wM kI kZ x 0 co Rw nw Le Lt sn Cd Kp We m1 B1 S1 q.1.1 q.1.2 ((rnM Kp Cd sn B1 S1 Lt Le nw mo m1 Fo).1) (if (rnM Kp Cd sn B1 S1 Lt Le nw mo m1 Fo).2.1 = 0 then (rnM Kp Cd sn B1 S1 Lt Le nw mo m1 Fo).2.2.2.2 else 0) ((rnM Kp Cd sn B1 S1 Lt Le nw mo m1 Fo).2.2.2.1) np Pl Fw) := by
  refine Met.toJ (own := R_M) (QX D (some (.int (iI (if (rnM Kp Cd sn B1 S1 Lt Le nw mo m1 Fo).2.1 = 0 then (rnM Kp Cd sn B1 S1 Lt Le nw mo m1 Fo).2.2.1 else -1)))) (fun q : { q : (Nat → Int) × (Nat → Int) // (∀ j, -1 ≤ q.1 j ∧ q.1 j ≤ 60) ∧ (∀ j, 0 ≤ q.2 j ∧ q.2 j ≤ 122) ∧ Z26 q.2 } => wM kI kZ x 0 co Rw nw Le Lt sn Cd Kp We m1 B1 S1 q.1.1 q.1.2 ((rnM Kp Cd sn B1 S1 Lt Le nw mo m1 Fo).1) (if (rnM Kp Cd sn B1 S1 Lt Le nw mo m1 Fo).2.1 = 0 then (rnM Kp Cd sn B1 S1 Lt Le nw mo m1 Fo).2.2.2.2 else 0) ((rnM Kp Cd sn B1 S1 Lt Le nw mo m1 Fo).2.2.2.1) np Pl Fw)) mk_M_run rfl (Nat.le_of_ble_eq_true rfl) ?_
  intro p e s m args below meth c A C hr hlk hnm
  show JJ p l e { frames := 10, cells := 0, slots := 0, locals := 400 } s m args below meth c D A 4 (MQ below (QX D (some (.int (iI (if (rnM Kp Cd sn B1 S1 Lt Le nw mo m1 Fo).2.1 = 0 then (rnM Kp Cd sn B1 S1 Lt Le nw mo m1 Fo).2.2.1 else -1)))) (fun q : { q : (Nat → Int) × (Nat → Int) // (∀ j, -1 ≤ q.1 j ∧ q.1 j ≤ 60) ∧ (∀ j, 0 ≤ q.2 j ∧ q.2 j ≤ 122) ∧ Z26 q.2 } => wM kI kZ x 0 co Rw nw Le Lt sn Cd Kp We m1 B1 S1 q.1.1 q.1.2 ((rnM Kp Cd sn B1 S1 Lt Le nw mo m1 Fo).1) (if (rnM Kp Cd sn B1 S1 Lt Le nw mo m1 Fo).2.1 = 0 then (rnM Kp Cd sn B1 S1 Lt Le nw mo m1 Fo).2.2.2.2 else 0) ((rnM Kp Cd sn B1 S1 Lt Le nw mo m1 Fo).2.2.2.1) np Pl Fw) A) args s 0 0 A) 0 0 0 [(0, .ref (x 0)), (1, .int (iI (mo)))] [] (wM kI kZ x th co Rw nw Le Lt sn Cd Kp We mn Bg Sz Td Mp ts nr Fo np Pl Fw)
  refine j_aload_n (q := 1) C 0 rfl d_M_run_0 rfl ?_
  refine j_iconst (q := 2) C d_M_run_1 rfl ?_
  refine j_put (q := 5) (ty := .int) C i_M rfl t_M t_M_ok n_M 0 rfl 0 (by decide) rfl fl_M_49 rfl (by decide +kernel) rfl rfl (Nat.le_of_ble_eq_true rfl) (wM kI kZ x 0 co Rw nw Le Lt sn Cd Kp We mn Bg Sz Td Mp ts nr Fo np Pl Fw) rfl d_M_run_2 rfl ?_
  refine j_iload_n (q := 6) C 1 rfl d_M_run_5 rfl ?_
  refine j_if_lt C 15 9 d_M_run_6 rfl rfl (by omega) (fun c1 => ?_) (fun c1 => ?_)
  · exfalso; omega
  · refine j_iload_n (q := 10) C 1 rfl d_M_run_9 rfl ?_
    refine j_ldc (q := 12) C d_M_run_10 rfl co_M_96 ?_
    refine j_icmp_le C 18 15 d_M_run_12 rfl rfl (by omega) (by omega) (fun c2 => ?_) (fun c2 => ?_)
    · refine j_aload_n (q := 19) C 0 rfl d_M_run_18 rfl ?_
      have hpc := c_M_part (l := l) (D := D) kI kZ x 0 co Rw nw Le Lt sn Cd Kp We mn Bg Sz Td Mp ts nr Fo np Pl Fw hsn hCd
      rw [hptE] at hpc
      refine j_callV (q := 22) (wr := []) C [] [] (hpc) ml_M_83 mk_M_part in_M_part se_M_part rfl rfl rfl [0, 1, 2, 3, 4, 5, 6, 7, 8, 9, 10, 11, 12, 13] [] [0, 1, 2, 3, 4, 5, 6, 7, 8, 9, 10, 11, 12, 13] rfl (by decide) rfl (by decide) (by decide) (wM kI kZ x 0 co Rw nw Le Lt sn Cd Kp We m1 B1 S1 Td Mp ts nr Fo np Pl Fw) rfl (by decide) rfl rfl rfl (Nat.le_of_ble_eq_true rfl) ⟨Nat.le_of_ble_eq_true rfl, Nat.le_of_ble_eq_true rfl⟩ ⟨Nat.le_of_ble_eq_true rfl, Nat.le_of_ble_eq_true rfl⟩ d_M_run_19 rfl ?_
      refine j_aload_n (q := 23) C 0 rfl d_M_run_22 rfl ?_
      refine j_iconst (q := 24) C d_M_run_23 rfl ?_
      refine j_put (q := 27) (ty := .int) C i_M rfl t_M t_M_ok n_M 0 rfl 16 (by decide) rfl fl_M_77 rfl (by decide +kernel) rfl rfl (Nat.le_of_ble_eq_true rfl) (wM kI kZ x 0 co Rw nw Le Lt sn Cd Kp We m1 B1 S1 Td Mp ts 0 Fo np Pl Fw) rfl d_M_run_24 rfl ?_
      refine j_aload_n (q := 28) C 0 rfl d_M_run_27 rfl ?_
      refine j_iconst (q := 29) C d_M_run_28 rfl ?_
      refine j_put (q := 32) (ty := .int) C i_M rfl t_M t_M_ok n_M 0 rfl 15 (by decide) rfl fl_M_97 rfl (by decide +kernel) rfl rfl (Nat.le_of_ble_eq_true rfl) (wM kI kZ x 0 co Rw nw Le Lt sn Cd Kp We m1 B1 S1 Td Mp 0 0 Fo np Pl Fw) rfl d_M_run_29 rfl ?_
      refine j_aload_n (q := 33) C 0 rfl d_M_run_32 rfl ?_
      refine j_iconst (q := 34) C d_M_run_33 rfl ?_
      have e34 := ftM_r (Cd := Cd) (Bg := B1) (Sz := S1) (Td := Td) (sn := sn) (v := (0 : Int)) hKp hLt hMp
      refine j_callV (q := 37) (wr := []) C [.int (iI (0))] [] (c_M_fits kI kZ x 0 co Rw nw Le Lt sn Cd Kp We m1 B1 S1 Td Mp 0 0 Fo np Pl Fw hsn hCd hKp hLt hB1 hS1 hTd hMp 0 (by omega) (fun k h1 h2 => by omega)) ml_M_100 mk_M_fits in_M_fits se_M_fits rfl rfl rfl [0, 1, 2, 3, 4, 5, 6, 7, 8, 9, 10, 11, 12, 13] [] [0, 1, 2, 3, 4, 5, 6, 7, 8, 9, 10, 11, 12, 13] rfl (by decide) rfl (by decide) (by decide) (wM kI kZ x 0 co Rw nw Le Lt sn Cd Kp We m1 B1 S1 Td ((ftM Kp Cd sn B1 S1 Td Lt Mp 0).1) 0 0 Fo np Pl Fw) rfl (by decide) rfl rfl rfl (Nat.le_of_ble_eq_true rfl) ⟨Nat.le_of_ble_eq_true rfl, Nat.le_of_ble_eq_true rfl⟩ ⟨Nat.le_of_ble_eq_true rfl, Nat.le_of_ble_eq_true rfl⟩ d_M_run_34 rfl ?_
      refine j_if_ne C 42 40 d_M_run_37 rfl rfl (by omega) (fun c3 => ?_) (fun c3 => ?_)
      · have hg0 : ¬ (g0M Kp Cd sn).2 = 0 := fun z => c3 (by rw [ftM_e hMz, if_pos z]; exact z)
        have z34 : Z26 (ftM Kp Cd sn B1 S1 Td Lt Mp 0).1 := by rw [ftM_e hMz, if_neg hg0]; exact ftL_Z hCd (g0_Z Kp Cd sn) _
        refine j_iconst (q := 43) C d_M_run_42 rfl ?_
        refine j_istore_n (q := 44) C [(0, .ref (x 0)), (1, .int (iI (mo))), (2, .int (iI (0)))] rfl (by decide) d_M_run_43 rfl ?_
        refine j_iconst (q := 45) C d_M_run_44 rfl ?_
        refine j_istore_n (q := 46) C [(0, .ref (x 0)), (1, .int (iI (mo))), (2, .int (iI (0))), (3, .int (iI (0)))] rfl (by decide) d_M_run_45 rfl ?_
        refine j_aload_n (q := 47) C 0 rfl d_M_run_46 rfl ?_
        refine j_get (q := 50) C i_M rfl 0 rfl 13 (by decide) rfl rfl fl_M_34 d_M_run_47 rfl ?_
        refine j_iconst (q := 51) C d_M_run_50 rfl ?_
        refine j_iconst (q := 52) C d_M_run_51 rfl ?_
        refine j_iast (q := 53) C 9 0 rfl rfl (by decide) (by omega) (wM kI kZ x 0 co Rw nw Le Lt sn Cd Kp We m1 B1 S1 (uI Td (0 : Int).toNat (-1)) ((ftM Kp Cd sn B1 S1 Td Lt Mp 0).1) 0 0 Fo np Pl Fw) rfl d_M_run_52 rfl ?_
        have lp53 : ∀ (N : Nat) (L al : Int) (T MM : Nat → Int) (t n : Int) (F : Nat → Int), (-1 ≤ L ∧ L ≤ m1) → (∀ j, -1 ≤ T j ∧ T j ≤ 60) → ((∀ j, 0 ≤ MM j ∧ MM j ≤ 122) ∧ Z26 MM) → ((0 ≤ t ∧ t ≤ mo) ∧ (0 ≤ n ∧ n ≤ 200) ∧ ∀ j, 0 ≤ F j ∧ F j ≤ 122) → (∀ k : Int, 0 ≤ k → k < L → (0 ≤ T k.toNat ∧ T k.toNat < nw) ∧ Le (T k.toNat).toNat = S1 k.toNat) → (0 ≤ L → ¬ (ftL Cd B1 S1 T Lt (g0M Kp Cd sn).1 L.toNat).2 = 0) → (0 ≤ L → L < m1 → T L.toNat < nw) → ((L = -1 ∧ (t, (0 : Int), al, F, n) = (rnM Kp Cd sn B1 S1 Lt Le nw mo m1 Fo)) ∨ (0 ≤ L ∧ coM Cd B1 S1 Lt Le nw mo m1 (g0M Kp Cd sn).1 T L.toNat (cuM Cd B1 S1 Lt Le nw mo m1 (g0M Kp Cd sn).1 T L (t, (0 : Int), al, F, n)) = (rnM Kp Cd sn B1 S1 Lt Le nw mo m1 Fo))) → (2 * (mo - t) + L + 1).toNat < N → JJ p l e { frames := 10, cells := 0, slots := 0, locals := 400 } s m args below meth c D A 4 (MQ below (QX D (some (.int (iI (if (rnM Kp Cd sn B1 S1 Lt Le nw mo m1 Fo).2.1 = 0 then (rnM Kp Cd sn B1 S1 Lt Le nw mo m1 Fo).2.2.1 else -1)))) (fun q : { q : (Nat → Int) × (Nat → Int) // (∀ j, -1 ≤ q.1 j ∧ q.1 j ≤ 60) ∧ (∀ j, 0 ≤ q.2 j ∧ q.2 j ≤ 122) ∧ Z26 q.2 } => wM kI kZ x 0 co Rw nw Le Lt sn Cd Kp We m1 B1 S1 q.1.1 q.1.2 ((rnM Kp Cd sn B1 S1 Lt Le nw mo m1 Fo).1) (if (rnM Kp Cd sn B1 S1 Lt Le nw mo m1 Fo).2.1 = 0 then (rnM Kp Cd sn B1 S1 Lt Le nw mo m1 Fo).2.2.2.2 else 0) ((rnM Kp Cd sn B1 S1 Lt Le nw mo m1 Fo).2.2.2.1) np Pl Fw) A) args s 0 0 A) 0 0 53 [(0, .ref (x 0)), (1, .int (iI (mo))), (2, .int (iI (al))), (3, .int (iI (L)))] [] (wM kI kZ x 0 co Rw nw Le Lt sn Cd Kp We m1 B1 S1 T MM t n F np Pl Fw) := by
          intro N
          induction N with
          | zero =>
            intro L al T MM t n F h0 h1 h2 h3 h4 h5 h6 h7 hN
            omega
          | succ N ih53 =>
            intro L al T MM t n F h0 h1 h2 h3 h4 h5 h6 h7 hN
            have hTL := h1 L.toNat
            refine j_iload_n (q := 54) C 3 rfl d_M_run_53 rfl ?_
            refine j_if_lt C 221 57 d_M_run_54 rfl rfl (by omega) (fun c4 => ?_) (fun c4 => ?_)
            · have kz : (rnM Kp Cd sn B1 S1 Lt Le nw mo m1 Fo) = (t, (0 : Int), al, F, n) := by rcases h7 with z | z; exact z.2.symm; exfalso; omega
              refine j_iload_n (q := 222) C 2 rfl d_M_run_221 rfl ?_
              first | (exfalso; omega) | exact j_iretX C hr hlk ⟨(T, MM), h1, h2.1, h2.2⟩ d_M_run_222 (congrArg (fun z => some (Value.int (iI z))) (show (if (rnM Kp Cd sn B1 S1 Lt Le nw mo m1 Fo).2.1 = 0 then (rnM Kp Cd sn B1 S1 Lt Le nw mo m1 Fo).2.2.1 else -1) = (al) from (by rw [kz]; (try dsimp only); first | rfl | rw [if_pos rfl] | rw [if_neg (by decide)]))) (by show (wM kI kZ x 0 co Rw nw Le Lt sn Cd Kp We m1 B1 S1 T MM t n F np Pl Fw) = (wM kI kZ x 0 co Rw nw Le Lt sn Cd Kp We m1 B1 S1 T MM ((rnM Kp Cd sn B1 S1 Lt Le nw mo m1 Fo).1) (if (rnM Kp Cd sn B1 S1 Lt Le nw mo m1 Fo).2.1 = 0 then (rnM Kp Cd sn B1 S1 Lt Le nw mo m1 Fo).2.2.2.2 else 0) ((rnM Kp Cd sn B1 S1 Lt Le nw mo m1 Fo).2.2.2.1) np Pl Fw); rw [kz]; (try dsimp only); first | rfl | rw [if_pos rfl] | rw [if_neg (by decide)])
            · refine j_iload_n (q := 58) C 3 rfl d_M_run_57 rfl ?_
              refine j_aload_n (q := 59) C 0 rfl d_M_run_58 rfl ?_
              refine j_get (q := 62) C i_M rfl 0 rfl 10 (by decide) rfl rfl fl_M_80 d_M_run_59 rfl ?_
              refine j_icmp_ne C 87 65 d_M_run_62 rfl rfl (by omega) (by omega) (fun c5 => ?_) (fun c5 => ?_)
              · have h8 := h6 (by omega) (by omega)
                refine j_aload_n (q := 88) C 0 rfl d_M_run_87 rfl ?_
                refine j_get (q := 91) C i_M rfl 0 rfl 13 (by decide) rfl rfl fl_M_34 d_M_run_88 rfl ?_
                refine j_iload_n (q := 92) C 3 rfl d_M_run_91 rfl ?_
                refine j_dup2 (q := 93) C rfl rfl d_M_run_92 rfl ?_
                refine j_iald (q := 94) C 9 0 rfl rfl (by decide) (by omega) d_M_run_93 rfl ?_
                refine j_iconst (q := 95) C d_M_run_94 rfl ?_
                refine j_iadd (q := 96) C d_M_run_95 rfl ?_
                refine j_iast (q := 97) C 9 0 rfl rfl (by decide) (by omega) (wM kI kZ x 0 co Rw nw Le Lt sn Cd Kp We m1 B1 S1 (uI T L.toNat ((T L.toNat) + 1)) MM t n F np Pl Fw) rfl d_M_run_96 rfl ?_
                have lp97 : ∀ (N : Nat) (w : Int), (0 ≤ w ∧ w ≤ nw) → (fwK (lpM Cd B1 S1 Lt Le nw mo (m1 - 1 - L).toNat L (ftL Cd B1 S1 T Lt (g0M Kp Cd sn).1 L.toNat).1) (T L.toNat + 1) (nw - 1 - T L.toNat).toNat (t, (0 : Int), al, F, n) = fwK (lpM Cd B1 S1 Lt Le nw mo (m1 - 1 - L).toNat L (ftL Cd B1 S1 T Lt (g0M Kp Cd sn).1 L.toNat).1) w (nw - w).toNat (t, (0 : Int), al, F, n)) → (nw - w).toNat < N → JJ p l e { frames := 10, cells := 0, slots := 0, locals := 400 } s m args below meth c D A 4 (MQ below (QX D (some (.int (iI (if (rnM Kp Cd sn B1 S1 Lt Le nw mo m1 Fo).2.1 = 0 then (rnM Kp Cd sn B1 S1 Lt Le nw mo m1 Fo).2.2.1 else -1)))) (fun q : { q : (Nat → Int) × (Nat → Int) // (∀ j, -1 ≤ q.1 j ∧ q.1 j ≤ 60) ∧ (∀ j, 0 ≤ q.2 j ∧ q.2 j ≤ 122) ∧ Z26 q.2 } => wM kI kZ x 0 co Rw nw Le Lt sn Cd Kp We m1 B1 S1 q.1.1 q.1.2 ((rnM Kp Cd sn B1 S1 Lt Le nw mo m1 Fo).1) (if (rnM Kp Cd sn B1 S1 Lt Le nw mo m1 Fo).2.1 = 0 then (rnM Kp Cd sn B1 S1 Lt Le nw mo m1 Fo).2.2.2.2 else 0) ((rnM Kp Cd sn B1 S1 Lt Le nw mo m1 Fo).2.2.2.1) np Pl Fw) A) args s 0 0 A) 0 0 97 [(0, .ref (x 0)), (1, .int (iI (mo))), (2, .int (iI (al))), (3, .int (iI (L)))] [] (wM kI kZ x 0 co Rw nw Le Lt sn Cd Kp We m1 B1 S1 (uI T L.toNat w) MM t n F np Pl Fw) := by
                  intro N
                  induction N with
                  | zero =>
                    intro w i1 i2 hN
                    omega
                  | succ N ih97 =>
                    intro w i1 i2 hN
                    have hw : (uI T L.toNat w) L.toNat = w := if_pos rfl
                    have hne : ∀ k : Int, 0 ≤ k → k < L → (uI T L.toNat w) k.toNat = T k.toNat := fun k z1 z2 => if_neg (by omega)
                    have hck : ∀ k : Nat, k < L.toNat → (uI T L.toNat w) k = T k := fun k z => if_neg (by omega)
                    have hcg : ftL Cd B1 S1 (uI T L.toNat w) Lt (g0M Kp Cd sn).1 L.toNat = ftL Cd B1 S1 T Lt (g0M Kp Cd sn).1 L.toNat := ftL_cong hck
                    have hcg1 : ∀ K : Int, K ≤ L → ftL Cd B1 S1 (uI T L.toNat w) Lt (g0M Kp Cd sn).1 K.toNat = ftL Cd B1 S1 T Lt (g0M Kp Cd sn).1 K.toNat := fun K hK => ftL_cong (fun k z => hck k (by omega))
                    refine j_aload_n (q := 98) C 0 rfl d_M_run_97 rfl ?_
                    refine j_get (q := 101) C i_M rfl 0 rfl 13 (by decide) rfl rfl fl_M_34 d_M_run_98 rfl ?_
                    refine j_iload_n (q := 102) C 3 rfl d_M_run_101 rfl ?_
                    refine j_iald (q := 103) C 9 0 rfl rfl (by decide) (by omega) d_M_run_102 rfl ?_
                    refine j_aload_n (q := 104) C 0 rfl d_M_run_103 rfl ?_
                    refine j_get (q := 107) C i_M rfl 0 rfl 3 (by decide) rfl rfl fl_M_64 d_M_run_104 rfl ?_
                    refine j_icmp_ge C 143 110 d_M_run_107 rfl rfl (by omega) (by omega) (fun c6 => ?_) (fun c6 => ?_)
                    · refine j_aload_n (q := 144) C 0 rfl d_M_run_143 rfl ?_
                      refine j_get (q := 147) C i_M rfl 0 rfl 13 (by decide) rfl rfl fl_M_34 d_M_run_144 rfl ?_
                      refine j_iload_n (q := 148) C 3 rfl d_M_run_147 rfl ?_
                      refine j_iald (q := 149) C 9 0 rfl rfl (by decide) (by omega) d_M_run_148 rfl ?_
                      refine j_aload_n (q := 150) C 0 rfl d_M_run_149 rfl ?_
                      refine j_get (q := 153) C i_M rfl 0 rfl 3 (by decide) rfl rfl fl_M_64 d_M_run_150 rfl ?_
                      refine j_icmp_ne C 162 156 d_M_run_153 rfl rfl (by omega) (by omega) (fun c7 => ?_) (fun c7 => ?_)
                      · exfalso; omega
                      · refine j_iinc (q := 159) C 3 [(0, .ref (x 0)), (1, .int (iI (mo))), (2, .int (iI (al))), (3, .int (iI (L + (-1))))] rfl rfl (by decide) d_M_run_156 rfl ?_
                        refine j_goto C 53 d_M_run_159 rfl ?_
                        have q2 : coM Cd B1 S1 Lt Le nw mo m1 (g0M Kp Cd sn).1 (uI T L.toNat w) L.toNat (t, (0 : Int), al, F, n) = (rnM Kp Cd sn B1 S1 Lt Le nw mo m1 Fo) := by rw [coM_cong hck]; rcases h7 with z | z; exfalso; omega; rw [← z.2]; unfold cuM; rw [if_neg (by omega), i2, show (nw - w).toNat = 0 from by omega]; rfl
                        have q3 := coM_down (by omega) q2
                        rw [show L + -1 = L - 1 from by omega]
                        exact ih53 (L - 1) (al) (uI T L.toNat w) (MM) (t) (n) (F) (by omega) (fun j => by have q := h1 j; unfold uI; (repeat split) <;> omega) h2 h3 (fun k z1 z2 => by rw [hne k z1 (by omega)]; exact h4 k z1 (by omega)) (fun z => by rw [hcg1 (L - 1) (by omega)]; exact ftL_dn (by omega) (h5 (by omega))) (fun z1 z2 => by rw [hne (L - 1) z1 (by omega)]; exact (h4 (L - 1) z1 (by omega)).1.2) q3 (by omega)
                    · refine j_aload_n (q := 111) C 0 rfl d_M_run_110 rfl ?_
                      refine j_get (q := 114) C i_M rfl 0 rfl 4 (by decide) rfl rfl fl_M_13 d_M_run_111 rfl ?_
                      refine j_aload_n (q := 115) C 0 rfl d_M_run_114 rfl ?_
                      refine j_get (q := 118) C i_M rfl 0 rfl 13 (by decide) rfl rfl fl_M_34 d_M_run_115 rfl ?_
                      refine j_iload_n (q := 119) C 3 rfl d_M_run_118 rfl ?_
                      refine j_iald (q := 120) C 9 0 rfl rfl (by decide) (by omega) d_M_run_119 rfl ?_
                      refine j_iald (q := 121) C 2 0 rfl rfl (by decide) (by omega) d_M_run_120 rfl ?_
                      have h120 := hLe ((uI T L.toNat w) L.toNat).toNat
                      refine j_aload_n (q := 122) C 0 rfl d_M_run_121 rfl ?_
                      refine j_get (q := 125) C i_M rfl 0 rfl 12 (by decide) rfl rfl fl_M_31 d_M_run_122 rfl ?_
                      refine j_iload_n (q := 126) C 3 rfl d_M_run_125 rfl ?_
                      refine j_iald (q := 127) C 8 0 rfl rfl (by decide) (by omega) d_M_run_126 rfl ?_
                      have h126 := hS1 L.toNat
                      refine j_icmp_eq C 143 130 d_M_run_127 rfl rfl (by omega) (by omega) (fun c8 => ?_) (fun c8 => ?_)
                      · have kl : Le w.toNat = S1 L.toNat := by rw [← hw]; omega
                        refine j_aload_n (q := 144) C 0 rfl d_M_run_143 rfl ?_
                        refine j_get (q := 147) C i_M rfl 0 rfl 13 (by decide) rfl rfl fl_M_34 d_M_run_144 rfl ?_
                        refine j_iload_n (q := 148) C 3 rfl d_M_run_147 rfl ?_
                        refine j_iald (q := 149) C 9 0 rfl rfl (by decide) (by omega) d_M_run_148 rfl ?_
                        refine j_aload_n (q := 150) C 0 rfl d_M_run_149 rfl ?_
                        refine j_get (q := 153) C i_M rfl 0 rfl 3 (by decide) rfl rfl fl_M_64 d_M_run_150 rfl ?_
                        refine j_icmp_ne C 162 156 d_M_run_153 rfl rfl (by omega) (by omega) (fun c9 => ?_) (fun c9 => ?_)
                        · have hz1 : coM Cd B1 S1 Lt Le nw mo m1 (g0M Kp Cd sn).1 T L.toNat (fwK (lpM Cd B1 S1 Lt Le nw mo (m1 - 1 - L).toNat L (ftL Cd B1 S1 T Lt (g0M Kp Cd sn).1 L.toNat).1) (w + 1) (nw - 1 - w).toNat ((lpM Cd B1 S1 Lt Le nw mo (m1 - 1 - L).toNat L (ftL Cd B1 S1 T Lt (g0M Kp Cd sn).1 L.toNat).1) w (t, (0 : Int), al, F, n))) = (rnM Kp Cd sn B1 S1 Lt Le nw mo m1 Fo) := by rcases h7 with z | z; exfalso; omega; rw [← z.2]; unfold cuM; rw [if_neg (by omega), i2, show (nw - w).toNat = (nw - 1 - w).toNat + 1 from by omega]; rfl
                          refine j_aload_n (q := 163) C 0 rfl d_M_run_162 rfl ?_
                          refine j_get (q := 166) C i_M rfl 0 rfl 15 (by decide) rfl rfl fl_M_97 d_M_run_163 rfl ?_
                          refine j_iload_n (q := 167) C 1 rfl d_M_run_166 rfl ?_
                          refine j_icmp_ne C 177 170 d_M_run_167 rfl rfl (by omega) (by omega) (fun c10 => ?_) (fun c10 => ?_)
                          · refine j_aload_n (q := 178) C 0 rfl d_M_run_177 rfl ?_
                            refine j_dup (q := 179) C rfl d_M_run_178 rfl ?_
                            refine j_get (q := 182) C i_M rfl 0 rfl 15 (by decide) rfl rfl fl_M_97 d_M_run_179 rfl ?_
                            refine j_iconst (q := 183) C d_M_run_182 rfl ?_
                            refine j_iadd (q := 184) C d_M_run_183 rfl ?_
                            refine j_put (q := 187) (ty := .int) C i_M rfl t_M t_M_ok n_M 0 rfl 15 (by decide) rfl fl_M_97 rfl (by decide +kernel) rfl rfl (Nat.le_of_ble_eq_true rfl) (wM kI kZ x 0 co Rw nw Le Lt sn Cd Kp We m1 B1 S1 (uI T L.toNat w) MM (t + 1) n F np Pl Fw) rfl d_M_run_184 rfl ?_
                            refine j_aload_n (q := 188) C 0 rfl d_M_run_187 rfl ?_
                            refine j_iload_n (q := 189) C 3 rfl d_M_run_188 rfl ?_
                            refine j_iconst (q := 190) C d_M_run_189 rfl ?_
                            refine j_iadd (q := 191) C d_M_run_190 rfl ?_
                            have e191 := ftM_r (Cd := Cd) (Bg := B1) (Sz := S1) (Td := (uI T L.toNat w)) (sn := sn) (v := (L + 1)) hKp hLt h2.1
                            refine j_callV (q := 194) (wr := []) C [.int (iI (L + 1))] [] (c_M_fits kI kZ x 0 co Rw nw Le Lt sn Cd Kp We m1 B1 S1 (uI T L.toNat w) MM (t + 1) n F np Pl Fw hsn hCd hKp hLt hB1 hS1 (fun j => by have q := h1 j; unfold uI; (repeat split) <;> omega) h2.1 (L + 1) (by omega) (fun k z1 z2 => ⟨by rcases (show k = L ∨ k < L by omega) with c | c; rw [c, hw]; omega; rw [hne k z1 c]; have q := h4 k z1 c; omega, by rcases (show k = L ∨ k < L by omega) with c | c; rw [c]; have q2 := hLe w.toNat; omega; have q := h4 k z1 c; have q2 := hLe (T k.toNat).toNat; omega, fun i z3 z4 => hpt k i z1 (by omega) z3 z4⟩)) ml_M_100 mk_M_fits in_M_fits se_M_fits rfl rfl rfl [0, 1, 2, 3, 4, 5, 6, 7, 8, 9, 10, 11, 12, 13] [] [0, 1, 2, 3, 4, 5, 6, 7, 8, 9, 10, 11, 12, 13] rfl (by decide) rfl (by decide) (by decide) (wM kI kZ x 0 co Rw nw Le Lt sn Cd Kp We m1 B1 S1 (uI T L.toNat w) ((ftM Kp Cd sn B1 S1 (uI T L.toNat w) Lt MM (L + 1)).1) (t + 1) n F np Pl Fw) rfl (by decide) rfl rfl rfl (Nat.le_of_ble_eq_true rfl) ⟨Nat.le_of_ble_eq_true rfl, Nat.le_of_ble_eq_true rfl⟩ ⟨Nat.le_of_ble_eq_true rfl, Nat.le_of_ble_eq_true rfl⟩ d_M_run_191 rfl ?_
                            refine j_if_ne C 200 197 d_M_run_194 rfl rfl (by omega) (fun c11 => ?_) (fun c11 => ?_)
                            · have hfe : ftM Kp Cd sn B1 S1 (uI T L.toNat w) Lt MM (L + 1) = ftL Cd B1 S1 (uI T L.toNat w) Lt (g0M Kp Cd sn).1 (L + 1).toNat := by rw [ftM_e h2.2, if_neg hg0]
                              have z191 : Z26 (ftM Kp Cd sn B1 S1 (uI T L.toNat w) Lt MM (L + 1)).1 := by rw [hfe]; exact ftL_Z hCd (g0_Z Kp Cd sn) _
                              have hft : ftL Cd B1 S1 (uI T L.toNat w) Lt (g0M Kp Cd sn).1 (L + 1).toNat = rtM Cd B1 S1 Lt L (ftL Cd B1 S1 T Lt (g0M Kp Cd sn).1 L.toNat).1 w := by rw [ftL_s _ _ _ _ _ _ (by omega), hcg, if_neg (h5 (by omega)), hw]; rfl
                              have kf : ¬ (ftL Cd B1 S1 (uI T L.toNat w) Lt (g0M Kp Cd sn).1 (L + 1).toNat).2 = 0 := by rw [← hfe]; exact c11
                              have hst : (lpM Cd B1 S1 Lt Le nw mo (m1 - 1 - L).toNat L (ftL Cd B1 S1 T Lt (g0M Kp Cd sn).1 L.toNat).1) w (t, (0 : Int), al, F, n) = skM Cd B1 S1 Lt Le nw mo (m1 - 1 - L).toNat (L + 1) (ftL Cd B1 S1 (uI T L.toNat w) Lt (g0M Kp Cd sn).1 (L + 1).toNat).1 (t + 1, (0 : Int), al, F, n) := by unfold lpM; rw [ifP_t ⟨rfl, kl⟩]; exact tWd_some (tr := trM Cd B1 S1 Lt L (ftL Cd B1 S1 T Lt (g0M Kp Cd sn).1 L.toNat).1) (sa := mo) (wd := w) (X := (t, (0 : Int), al, F, n)) (by show ¬ mo ≤ t; omega) (by unfold trM; rw [hft] at kf; rw [if_neg kf, hft])
                              have hz3 := hz1
                              rw [hst] at hz3
                              refine j_iinc (q := 203) C 3 [(0, .ref (x 0)), (1, .int (iI (mo))), (2, .int (iI (al))), (3, .int (iI (L + 1)))] rfl rfl (by decide) d_M_run_200 rfl ?_
                              refine j_iload_n (q := 204) C 3 rfl d_M_run_203 rfl ?_
                              refine j_aload_n (q := 205) C 0 rfl d_M_run_204 rfl ?_
                              refine j_get (q := 208) C i_M rfl 0 rfl 10 (by decide) rfl rfl fl_M_80 d_M_run_205 rfl ?_
                              refine j_icmp_ge C 53 211 d_M_run_208 rfl rfl (by omega) (by omega) (fun c12 => ?_) (fun c12 => ?_)
                              · have hck2 : ∀ k : Nat, k < (L + 1).toNat → (uI T L.toNat w) k = (uI T L.toNat w) k := fun k z => rfl
                                have u1 := coM_up (nw := nw) (mn := m1) (Lt := Lt) (T := uI T L.toNat w) (T1 := uI T L.toNat w) (L := L) (w := w) (X := (t + 1, (0 : Int), al, F, n)) (Z := (rnM Kp Cd sn B1 S1 Lt Le nw mo m1 Fo)) (mo := mo) (Le := Le) (by omega) (by omega) hw (fun k z => hck2 k (by omega)) (fun z => by omega) (by rw [hcg]; exact h5 (by omega)) kf (by rw [hcg, coM_cong hck]; exact hz3)
                                exact ih53 (L + 1) (al) (uI T L.toNat w) ((ftM Kp Cd sn B1 S1 (uI T L.toNat w) Lt MM (L + 1)).1) (t + 1) (n) (F) (by omega) (fun j => by have q := h1 j; unfold uI; (repeat split) <;> omega) ⟨e191.1, z191⟩ ⟨by omega, h3.2⟩ (fun k z1 z2 => by rw [show (uI T L.toNat w) k.toNat = (uI T L.toNat w) k.toNat from hck2 _ (by omega)]; rcases (show k = L ∨ k < L by omega) with c | c; rw [c, hw]; exact ⟨by omega, by omega⟩; rw [hne k z1 c]; exact h4 k z1 c) (fun z => by rw [ftL_cong hck2]; exact kf) (fun z1 z2 => by omega) (Or.inr ⟨by omega, u1⟩) (by omega)
                              · refine j_aload_n (q := 212) C 0 rfl d_M_run_211 rfl ?_
                                refine j_get (q := 215) C i_M rfl 0 rfl 13 (by decide) rfl rfl fl_M_34 d_M_run_212 rfl ?_
                                refine j_iload_n (q := 216) C 3 rfl d_M_run_215 rfl ?_
                                refine j_iconst (q := 217) C d_M_run_216 rfl ?_
                                refine j_iast (q := 218) C 9 0 rfl rfl (by decide) (by omega) (wM kI kZ x 0 co Rw nw Le Lt sn Cd Kp We m1 B1 S1 (uI (uI T L.toNat w) (L + 1).toNat (-1)) ((ftM Kp Cd sn B1 S1 (uI T L.toNat w) Lt MM (L + 1)).1) (t + 1) n F np Pl Fw) rfl d_M_run_217 rfl ?_
                                refine j_goto C 53 d_M_run_218 rfl ?_
                                have hck2 : ∀ k : Nat, k < (L + 1).toNat → (uI (uI T L.toNat w) (L + 1).toNat (-1)) k = (uI T L.toNat w) k := fun k z => if_neg (by omega)
                                have u1 := coM_up (nw := nw) (mn := m1) (Lt := Lt) (T := uI T L.toNat w) (T1 := uI (uI T L.toNat w) (L + 1).toNat (-1)) (L := L) (w := w) (X := (t + 1, (0 : Int), al, F, n)) (Z := (rnM Kp Cd sn B1 S1 Lt Le nw mo m1 Fo)) (mo := mo) (Le := Le) (by omega) (by omega) hw (fun k z => hck2 k (by omega)) (fun z => if_pos (by omega)) (by rw [hcg]; exact h5 (by omega)) kf (by rw [hcg, coM_cong hck]; exact hz3)
                                exact ih53 (L + 1) (al) (uI (uI T L.toNat w) (L + 1).toNat (-1)) ((ftM Kp Cd sn B1 S1 (uI T L.toNat w) Lt MM (L + 1)).1) (t + 1) (n) (F) (by omega) (fun j => by have q := h1 j; unfold uI; (repeat split) <;> omega) ⟨e191.1, z191⟩ ⟨by omega, h3.2⟩ (fun k z1 z2 => by rw [show (uI (uI T L.toNat w) (L + 1).toNat (-1)) k.toNat = (uI T L.toNat w) k.toNat from hck2 _ (by omega)]; rcases (show k = L ∨ k < L by omega) with c | c; rw [c, hw]; exact ⟨by omega, by omega⟩; rw [hne k z1 c]; exact h4 k z1 c) (fun z => by rw [ftL_cong hck2]; exact kf) (fun z1 z2 => by rw [show (uI (uI T L.toNat w) (L + 1).toNat (-1)) (L + 1).toNat = -1 from if_pos rfl]; omega) (Or.inr ⟨by omega, u1⟩) (by omega)
                            · have hfe : ftM Kp Cd sn B1 S1 (uI T L.toNat w) Lt MM (L + 1) = ftL Cd B1 S1 (uI T L.toNat w) Lt (g0M Kp Cd sn).1 (L + 1).toNat := by rw [ftM_e h2.2, if_neg hg0]
                              have z191 : Z26 (ftM Kp Cd sn B1 S1 (uI T L.toNat w) Lt MM (L + 1)).1 := by rw [hfe]; exact ftL_Z hCd (g0_Z Kp Cd sn) _
                              have hft : ftL Cd B1 S1 (uI T L.toNat w) Lt (g0M Kp Cd sn).1 (L + 1).toNat = rtM Cd B1 S1 Lt L (ftL Cd B1 S1 T Lt (g0M Kp Cd sn).1 L.toNat).1 w := by rw [ftL_s _ _ _ _ _ _ (by omega), hcg, if_neg (h5 (by omega)), hw]; rfl
                              have hst : (lpM Cd B1 S1 Lt Le nw mo (m1 - 1 - L).toNat L (ftL Cd B1 S1 T Lt (g0M Kp Cd sn).1 L.toNat).1) w (t, (0 : Int), al, F, n) = (t + 1, (0 : Int), al, F, n) := by unfold lpM; rw [ifP_t ⟨rfl, kl⟩]; exact tWd_none (tr := trM Cd B1 S1 Lt L (ftL Cd B1 S1 T Lt (g0M Kp Cd sn).1 L.toNat).1) (sa := mo) (wd := w) (X := (t, (0 : Int), al, F, n)) (by show ¬ mo ≤ t; omega) (by unfold trM; rw [hfe, hft] at c11; rw [if_pos c11])
                              have hz2 := hz1
                              rw [hst] at hz2
                              refine j_goto C 53 d_M_run_197 rfl ?_
                              exact ih53 (L) (al) (uI T L.toNat w) ((ftM Kp Cd sn B1 S1 (uI T L.toNat w) Lt MM (L + 1)).1) (t + 1) (n) (F) (by omega) (fun j => by have q := h1 j; unfold uI; (repeat split) <;> omega) ⟨e191.1, z191⟩ ⟨by omega, h3.2⟩ (fun k z1 z2 => by rw [hne k z1 z2]; exact h4 k z1 z2) (fun z => by rw [hcg]; exact h5 z) (fun z1 z2 => by rw [hw]; omega) (Or.inr ⟨by omega, by rw [coM_cong hck, ← hz2]; congr 1; unfold cuM; rw [if_neg (by omega), hcg, hw]⟩) (by omega)
                          · have kz : (rnM Kp Cd sn B1 S1 Lt Le nw mo m1 Fo) = (t, (1 : Int), al, F, n) := by rw [← hz1, show (lpM Cd B1 S1 Lt Le nw mo (m1 - 1 - L).toNat L (ftL Cd B1 S1 T Lt (g0M Kp Cd sn).1 L.toNat).1) w (t, (0 : Int), al, F, n) = (t, (1 : Int), al, F, n) from (by unfold lpM; rw [ifP_t ⟨rfl, kl⟩]; exact tWd_stop (by show mo ≤ t; omega)), fwK_stop (fun wd Y hY => lpM_stop Cd B1 S1 Lt Le nw mo _ _ _ wd Y hY) _ _ _ (by show ¬ (1 : Int) = 0; decide), coM_stop _ _ (by show ¬ (1 : Int) = 0; decide)]
                            refine j_aload_n (q := 171) C 0 rfl d_M_run_170 rfl ?_
                            refine j_iconst (q := 172) C d_M_run_171 rfl ?_
                            refine j_put (q := 175) (ty := .int) C i_M rfl t_M t_M_ok n_M 0 rfl 16 (by decide) rfl fl_M_77 rfl (by decide +kernel) rfl rfl (Nat.le_of_ble_eq_true rfl) (wM kI kZ x 0 co Rw nw Le Lt sn Cd Kp We m1 B1 S1 (uI T L.toNat w) MM t 0 F np Pl Fw) rfl d_M_run_172 rfl ?_
                            refine j_iconst (q := 176) C d_M_run_175 rfl ?_
                            first | (exfalso; omega) | exact j_iretX C hr hlk ⟨(uI T L.toNat w, MM), (fun j => by have q := h1 j; show -1 ≤ uI T L.toNat w j ∧ uI T L.toNat w j ≤ 60; unfold uI; split <;> omega), h2.1, h2.2⟩ d_M_run_176 (congrArg (fun z => some (Value.int (iI z))) (show (if (rnM Kp Cd sn B1 S1 Lt Le nw mo m1 Fo).2.1 = 0 then (rnM Kp Cd sn B1 S1 Lt Le nw mo m1 Fo).2.2.1 else -1) = (-1) from (by rw [kz]; (try dsimp only); first | rfl | rw [if_pos rfl] | rw [if_neg (by decide)]))) (by show (wM kI kZ x 0 co Rw nw Le Lt sn Cd Kp We m1 B1 S1 (uI T L.toNat w) MM t 0 F np Pl Fw) = (wM kI kZ x 0 co Rw nw Le Lt sn Cd Kp We m1 B1 S1 (uI T L.toNat w) MM ((rnM Kp Cd sn B1 S1 Lt Le nw mo m1 Fo).1) (if (rnM Kp Cd sn B1 S1 Lt Le nw mo m1 Fo).2.1 = 0 then (rnM Kp Cd sn B1 S1 Lt Le nw mo m1 Fo).2.2.2.2 else 0) ((rnM Kp Cd sn B1 S1 Lt Le nw mo m1 Fo).2.2.2.1) np Pl Fw); rw [kz]; (try dsimp only); first | rfl | rw [if_pos rfl] | rw [if_neg (by decide)])
                        · exfalso; omega
                      · have kl : ¬ Le w.toNat = S1 L.toNat := by rw [← hw]; omega
                        refine j_aload_n (q := 131) C 0 rfl d_M_run_130 rfl ?_
                        refine j_get (q := 134) C i_M rfl 0 rfl 13 (by decide) rfl rfl fl_M_34 d_M_run_131 rfl ?_
                        refine j_iload_n (q := 135) C 3 rfl d_M_run_134 rfl ?_
                        refine j_dup2 (q := 136) C rfl rfl d_M_run_135 rfl ?_
                        refine j_iald (q := 137) C 9 0 rfl rfl (by decide) (by omega) d_M_run_136 rfl ?_
                        refine j_iconst (q := 138) C d_M_run_137 rfl ?_
                        refine j_iadd (q := 139) C d_M_run_138 rfl ?_
                        refine j_iast (q := 140) C 9 0 rfl rfl (by decide) (by omega) (wM kI kZ x 0 co Rw nw Le Lt sn Cd Kp We m1 B1 S1 (uI (uI T L.toNat w) L.toNat (((uI T L.toNat w) L.toNat) + 1)) MM t n F np Pl Fw) rfl d_M_run_139 rfl ?_
                        refine j_goto C 97 d_M_run_140 rfl ?_
                        rw [uI_uI, hw]
                        exact ih97 (w + 1) (by omega) (by rw [i2, show (nw - w).toNat = (nw - (w + 1)).toNat + 1 from by omega]; show fwK (lpM Cd B1 S1 Lt Le nw mo (m1 - 1 - L).toNat L (ftL Cd B1 S1 T Lt (g0M Kp Cd sn).1 L.toNat).1) (w + 1) (nw - (w + 1)).toNat ((lpM Cd B1 S1 Lt Le nw mo (m1 - 1 - L).toNat L (ftL Cd B1 S1 T Lt (g0M Kp Cd sn).1 L.toNat).1) w (t, (0 : Int), al, F, n)) = _; rw [show (lpM Cd B1 S1 Lt Le nw mo (m1 - 1 - L).toNat L (ftL Cd B1 S1 T Lt (g0M Kp Cd sn).1 L.toNat).1) w (t, (0 : Int), al, F, n) = (t, (0 : Int), al, F, n) from ifP_f (fun z => kl z.2)]) (by omega)
                exact lp97 (nw.toNat + 2) _ (by omega) (by rw [show nw - 1 - T L.toNat = nw - (T L.toNat + 1) from by omega]) (by omega)
              · refine j_iinc (q := 68) C 2 [(0, .ref (x 0)), (1, .int (iI (mo))), (2, .int (iI (al + 1))), (3, .int (iI (L)))] rfl rfl (by decide) d_M_run_65 rfl ?_
                refine j_aload_n (q := 69) C 0 rfl d_M_run_68 rfl ?_
                refine j_aload_n (q := 70) C 0 rfl d_M_run_69 rfl ?_
                refine j_get (q := 73) C i_M rfl 0 rfl 10 (by decide) rfl rfl fl_M_80 d_M_run_70 rfl ?_
                have e73 := ftM_r (Cd := Cd) (Bg := B1) (Sz := S1) (Td := T) (sn := sn) (v := m1) hKp hLt h2.1
                refine j_callV (q := 76) (wr := []) C [.int (iI (m1))] [] (c_M_fits kI kZ x 0 co Rw nw Le Lt sn Cd Kp We m1 B1 S1 T MM t n F np Pl Fw hsn hCd hKp hLt hB1 hS1 h1 h2.1 m1 (by omega) (fun k z1 z2 => ⟨by have q := h4 k z1 (by omega); omega, by have q := h4 k z1 (by omega); have q2 := hLe (T k.toNat).toNat; omega, fun i z3 z4 => hpt k i z1 (by omega) z3 z4⟩)) ml_M_100 mk_M_fits in_M_fits se_M_fits rfl rfl rfl [0, 1, 2, 3, 4, 5, 6, 7, 8, 9, 10, 11, 12, 13] [] [0, 1, 2, 3, 4, 5, 6, 7, 8, 9, 10, 11, 12, 13] rfl (by decide) rfl (by decide) (by decide) (wM kI kZ x 0 co Rw nw Le Lt sn Cd Kp We m1 B1 S1 T ((ftM Kp Cd sn B1 S1 T Lt MM m1).1) t n F np Pl Fw) rfl (by decide) rfl rfl rfl (Nat.le_of_ble_eq_true rfl) ⟨Nat.le_of_ble_eq_true rfl, Nat.le_of_ble_eq_true rfl⟩ ⟨Nat.le_of_ble_eq_true rfl, Nat.le_of_ble_eq_true rfl⟩ d_M_run_73 rfl ?_
                refine j_pop (q := 77) C rfl d_M_run_76 rfl ?_
                refine j_aload_n (q := 78) C 0 rfl d_M_run_77 rfl ?_
                refine j_callV (q := 81) (wr := []) C [] [] (c_M_enterReading kI kZ x 0 co Rw nw Le Lt sn Cd Kp We m1 B1 S1 T ((ftM Kp Cd sn B1 S1 T Lt MM m1).1) t n F np Pl Fw e73.1 h3.2.2 h3.2.1  ) ml_M_103 mk_M_enterReading in_M_enterReading se_M_enterReading rfl rfl rfl [0, 1, 2, 3, 4, 5, 6, 7, 8, 9, 10, 11, 12, 13] [] [0, 1, 2, 3, 4, 5, 6, 7, 8, 9, 10, 11, 12, 13] rfl (by decide) rfl (by decide) (by decide) (wM kI kZ x 0 co Rw nw Le Lt sn Cd Kp We m1 B1 S1 T ((ftM Kp Cd sn B1 S1 T Lt MM m1).1) t (enM ((ftM Kp Cd sn B1 S1 T Lt MM m1).1) F n) (erM ((ftM Kp Cd sn B1 S1 T Lt MM m1).1) F n) np Pl Fw) rfl (by decide) rfl rfl rfl (Nat.le_of_ble_eq_true rfl) ⟨Nat.le_of_ble_eq_true rfl, Nat.le_of_ble_eq_true rfl⟩ ⟨Nat.le_of_ble_eq_true rfl, Nat.le_of_ble_eq_true rfl⟩ d_M_run_78 rfl ?_
                refine j_iinc (q := 84) C 3 [(0, .ref (x 0)), (1, .int (iI (mo))), (2, .int (iI (al + 1))), (3, .int (iI (L + (-1))))] rfl rfl (by decide) d_M_run_81 rfl ?_
                refine j_goto C 53 d_M_run_84 rfl ?_
                have q0 : ((ftM Kp Cd sn B1 S1 T Lt MM m1).1) = (ftL Cd B1 S1 T Lt (g0M Kp Cd sn).1 L.toNat).1 := by rw [ftM_e h2.2, if_neg hg0, show m1 = L from by omega]
                have q1 := erM_r (Mp := (ftM Kp Cd sn B1 S1 T Lt MM m1).1) (Fo := F) (nr := n) e73.1 h3.2.2 h3.2.1
                have q2 : coM Cd B1 S1 Lt Le nw mo m1 (g0M Kp Cd sn).1 T L.toNat (t, (0 : Int), offM (al, F, n) (ftL Cd B1 S1 T Lt (g0M Kp Cd sn).1 L.toNat).1) = (rnM Kp Cd sn B1 S1 Lt Le nw mo m1 Fo) := by rcases h7 with z | z; exfalso; omega; rw [← z.2]; unfold cuM; rw [if_pos (by omega)]
                have q3 := coM_down (by omega) q2
                rw [← q0] at q3
                rw [show L + -1 = L - 1 from by omega]
                exact ih53 (L - 1) (al + 1) (T) ((ftM Kp Cd sn B1 S1 T Lt MM m1).1) (t) (enM ((ftM Kp Cd sn B1 S1 T Lt MM m1).1) F n) (erM ((ftM Kp Cd sn B1 S1 T Lt MM m1).1) F n) (by omega) h1 ⟨e73.1, by rw [q0]; exact ftL_Z hCd (g0_Z Kp Cd sn) _⟩ ⟨h3.1, q1.2, q1.1⟩ (fun k z1 z2 => h4 k z1 (by omega)) (fun z => ftL_dn (by omega) (h5 (by omega))) (fun z1 z2 => (h4 (L - 1) z1 (by omega)).1.2) q3 (by omega)
        exact lp53 ((2 * mo + 1).toNat + 1) 0 0 _ _ 0 0 Fo (by omega) (fun j => by have q := hTd j; unfold uI; split <;> omega) ⟨e34.1, z34⟩ ⟨by omega, by omega, hFo⟩ (fun k z1 z2 => by omega) (fun _ => (by show ¬ (1 : Int) = 0; decide)) (fun z1 z2 => by rw [show uI Td (0 : Int).toNat (-1) (0 : Int).toNat = -1 from if_pos rfl]; omega) (Or.inr ⟨by omega, by rw [cuM_0 hm1.1 (if_pos rfl)]; exact (if_neg hg0).symm⟩) (by omega)
      · have hg0 : (g0M Kp Cd sn).2 = 0 := Classical.byContradiction fun z => by have q := c3; rw [ftM_e hMz, if_neg z] at q; exact absurd q (by show ¬ (1 : Int) = 0; decide)
        have z34 : Z26 (ftM Kp Cd sn B1 S1 Td Lt Mp 0).1 := by rw [ftM_e hMz, if_pos hg0]; exact g0_Z Kp Cd sn
        have kz : (rnM Kp Cd sn B1 S1 Lt Le nw mo m1 Fo) = (0, 0, 0, Fo, 0) := if_pos hg0
        refine j_iconst (q := 41) C d_M_run_40 rfl ?_
        first | (exfalso; omega) | exact j_iretX C hr hlk ⟨(Td, (ftM Kp Cd sn B1 S1 Td Lt Mp 0).1), hTd, e34.1, z34⟩ d_M_run_41 (congrArg (fun z => some (Value.int (iI z))) (show (if (rnM Kp Cd sn B1 S1 Lt Le nw mo m1 Fo).2.1 = 0 then (rnM Kp Cd sn B1 S1 Lt Le nw mo m1 Fo).2.2.1 else -1) = (0) from (by rw [kz]; (try dsimp only); first | rfl | rw [if_pos rfl] | rw [if_neg (by decide)]))) (by show (wM kI kZ x 0 co Rw nw Le Lt sn Cd Kp We m1 B1 S1 Td ((ftM Kp Cd sn B1 S1 Td Lt Mp 0).1) 0 0 Fo np Pl Fw) = (wM kI kZ x 0 co Rw nw Le Lt sn Cd Kp We m1 B1 S1 Td ((ftM Kp Cd sn B1 S1 Td Lt Mp 0).1) ((rnM Kp Cd sn B1 S1 Lt Le nw mo m1 Fo).1) (if (rnM Kp Cd sn B1 S1 Lt Le nw mo m1 Fo).2.1 = 0 then (rnM Kp Cd sn B1 S1 Lt Le nw mo m1 Fo).2.2.2.2 else 0) ((rnM Kp Cd sn B1 S1 Lt Le nw mo m1 Fo).2.2.2.1) np Pl Fw); rw [kz]; (try dsimp only); first | rfl | rw [if_pos rfl] | rw [if_neg (by decide)])
    · exfalso; omega
set_option maxRecDepth 100000 in
set_option maxHeartbeats 4000000 in
theorem c_M_run_no {l : Launch} {D : va_G} (kI kZ : ClassId) (x : Nat → Nat) (th co : Int) (Rw : Nat → Int) (nw : Int) (Le Lt : Nat → Int) (sn : Int) (Cd Kp We : Nat → Int) (mn : Int) (Bg Sz Td Mp : Nat → Int) (ts nr : Int) (Fo : Nat → Int) (np : Int) (Pl Fw : Nat → Int)  (mo : Int) (hr0 : (-2147483648 ≤ mo ∧ mo < 2147483648)) (hmo : ¬ (0 ≤ mo ∧ mo ≤ 100000)) : Dt l D (ty2 kI kZ) y_M_run w_M_run { frames := 10, cells := 0, slots := 0, locals := 400 } [.ref (x 0), .int (iI (mo))] (wM kI kZ x th co Rw nw Le Lt sn Cd Kp We mn Bg Sz Td Mp ts nr Fo np Pl Fw) (some (.int (iI (-2)))) (wM kI kZ x 0 co Rw nw Le Lt sn Cd Kp We mn Bg Sz Td Mp ts nr Fo np Pl Fw) := by
  refine Met.toJ (own := R_M) (QD D (some (.int (iI (-2)))) (wM kI kZ x 0 co Rw nw Le Lt sn Cd Kp We mn Bg Sz Td Mp ts nr Fo np Pl Fw)) mk_M_run rfl (Nat.le_of_ble_eq_true rfl) ?_
  intro p e s m args below meth c A C hr hlk hnm
  show JJ p l e { frames := 10, cells := 0, slots := 0, locals := 400 } s m args below meth c D A 4 (MQ below (QD D (some (.int (iI (-2)))) (wM kI kZ x 0 co Rw nw Le Lt sn Cd Kp We mn Bg Sz Td Mp ts nr Fo np Pl Fw) A) args s 0 0 A) 0 0 0 [(0, .ref (x 0)), (1, .int (iI (mo)))] [] (wM kI kZ x th co Rw nw Le Lt sn Cd Kp We mn Bg Sz Td Mp ts nr Fo np Pl Fw)
  refine j_aload_n (q := 1) C 0 rfl d_M_run_0 rfl ?_
  refine j_iconst (q := 2) C d_M_run_1 rfl ?_
  refine j_put (q := 5) (ty := .int) C i_M rfl t_M t_M_ok n_M 0 rfl 0 (by decide) rfl fl_M_49 rfl (by decide +kernel) rfl rfl (Nat.le_of_ble_eq_true rfl) (wM kI kZ x 0 co Rw nw Le Lt sn Cd Kp We mn Bg Sz Td Mp ts nr Fo np Pl Fw) rfl d_M_run_2 rfl ?_
  refine j_iload_n (q := 6) C 1 rfl d_M_run_5 rfl ?_
  refine j_if_lt C 15 9 d_M_run_6 rfl rfl (by omega) (fun c1 => ?_) (fun c1 => ?_)
  · refine j_bipush (q := 17) C d_M_run_15 rfl rfl ?_
    exact j_iret C hr hlk d_M_run_17 rfl rfl
  · refine j_iload_n (q := 10) C 1 rfl d_M_run_9 rfl ?_
    refine j_ldc (q := 12) C d_M_run_10 rfl co_M_96 ?_
    refine j_icmp_le C 18 15 d_M_run_12 rfl rfl (by omega) (by omega) (fun c2 => ?_) (fun c2 => ?_)
    · exfalso; omega
    · refine j_bipush (q := 17) C d_M_run_15 rfl rfl ?_
      first | (exfalso; omega) | exact j_iret C hr hlk d_M_run_17 rfl rfl
