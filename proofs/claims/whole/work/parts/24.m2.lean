/-- the codewords of the first i signs: how many, where they begin, how long they are -/
def ptM (Cd Bg Sz : Nat → Int) : Nat → Int × (Nat → Int) × (Nat → Int)
  | 0 => (0, Bg, Sz)
  | i + 1 => if Cd (i : Int).toNat < 0 then ptM Cd Bg Sz i else if (i : Int) = 0 ∨ Cd ((i : Int) - 1).toNat < 0 then ((ptM Cd Bg Sz i).1 + 1, uI (ptM Cd Bg Sz i).2.1 (ptM Cd Bg Sz i).1.toNat i, uI (uI (ptM Cd Bg Sz i).2.2 (ptM Cd Bg Sz i).1.toNat 0) ((ptM Cd Bg Sz i).1 + 1 - 1).toNat (uI (ptM Cd Bg Sz i).2.2 (ptM Cd Bg Sz i).1.toNat 0 ((ptM Cd Bg Sz i).1 + 1 - 1).toNat + 1)) else ((ptM Cd Bg Sz i).1, (ptM Cd Bg Sz i).2.1, uI (ptM Cd Bg Sz i).2.2 ((ptM Cd Bg Sz i).1 - 1).toNat ((ptM Cd Bg Sz i).2.2 ((ptM Cd Bg Sz i).1 - 1).toNat + 1))
theorem ptM_s (Cd Bg Sz : Nat → Int) {i : Int} (h : 0 ≤ i) : ptM Cd Bg Sz (i + 1).toNat = if Cd i.toNat < 0 then ptM Cd Bg Sz i.toNat else if i = 0 ∨ Cd (i - 1).toNat < 0 then ((ptM Cd Bg Sz i.toNat).1 + 1, uI (ptM Cd Bg Sz i.toNat).2.1 (ptM Cd Bg Sz i.toNat).1.toNat i, uI (uI (ptM Cd Bg Sz i.toNat).2.2 (ptM Cd Bg Sz i.toNat).1.toNat 0) ((ptM Cd Bg Sz i.toNat).1 + 1 - 1).toNat (uI (ptM Cd Bg Sz i.toNat).2.2 (ptM Cd Bg Sz i.toNat).1.toNat 0 ((ptM Cd Bg Sz i.toNat).1 + 1 - 1).toNat + 1)) else ((ptM Cd Bg Sz i.toNat).1, (ptM Cd Bg Sz i.toNat).2.1, uI (ptM Cd Bg Sz i.toNat).2.2 ((ptM Cd Bg Sz i.toNat).1 - 1).toNat ((ptM Cd Bg Sz i.toNat).2.2 ((ptM Cd Bg Sz i.toNat).1 - 1).toNat + 1)) := by
  obtain ⟨n, rfl⟩ := Int.eq_ofNat_of_zero_le h
  rfl
/-- tell: a number stands for a letter, if nothing speaks against it -/
def tlM (Mp : Nat → Int) (n q : Int) : Prop := (¬ Mp n.toNat = 0 ∧ Mp n.toNat = q) ∨ (Mp n.toNat = 0 ∧ ∀ k : Int, 0 ≤ k → k < 26 → ¬ Mp k.toNat = q)
noncomputable def tmM (Mp : Nat → Int) (n q : Int) : Nat → Int := ifP (Mp n.toNat = 0 ∧ ∀ k : Int, 0 ≤ k → k < 26 → ¬ Mp k.toNat = q) (uI Mp n.toNat q) Mp
theorem tmM_r {Mp : Nat → Int} (h : ∀ j, 0 ≤ Mp j ∧ Mp j ≤ 122) (n : Int) {q : Int} (hq : 0 ≤ q ∧ q ≤ 122) : ∀ j, 0 ≤ tmM Mp n q j ∧ tmM Mp n q j ≤ 122 := by
  intro j
  have := h j
  by_cases c : Mp n.toNat = 0 ∧ ∀ k : Int, 0 ≤ k → k < 26 → ¬ Mp k.toNat = q
  · rw [show tmM Mp n q = uI Mp n.toNat q from ifP_t c]
    unfold uI
    split <;> omega
  · rw [show tmM Mp n q = Mp from ifP_f c]
    exact this
noncomputable def ftK (Kp Cd : Nat → Int) (sn : Int) (M0 : Nat → Int) : Nat → (Nat → Int) × Int
  | 0 => (M0, 1)
  | n + 1 => if (ftK Kp Cd sn M0 n).2 = 0 then ftK Kp Cd sn M0 n else ifP (¬ Kp (n : Int).toNat = 0 ∧ inM Cd sn n) (tmM (ftK Kp Cd sn M0 n).1 n (Kp (n : Int).toNat), bI (tlM (ftK Kp Cd sn M0 n).1 n (Kp (n : Int).toNat))) (ftK Kp Cd sn M0 n)
theorem ftK_1 (Kp Cd : Nat → Int) (sn : Int) (M0 : Nat → Int) (n : Nat) : ftK Kp Cd sn M0 (n + 1) = if (ftK Kp Cd sn M0 n).2 = 0 then ftK Kp Cd sn M0 n else ifP (¬ Kp (n : Int).toNat = 0 ∧ inM Cd sn n) (tmM (ftK Kp Cd sn M0 n).1 n (Kp (n : Int).toNat), bI (tlM (ftK Kp Cd sn M0 n).1 n (Kp (n : Int).toNat))) (ftK Kp Cd sn M0 n) := rfl
theorem ftK_s (Kp Cd : Nat → Int) (sn : Int) (M0 : Nat → Int) {i : Int} (h : 0 ≤ i) : ftK Kp Cd sn M0 (i + 1).toNat = if (ftK Kp Cd sn M0 i.toNat).2 = 0 then ftK Kp Cd sn M0 i.toNat else ifP (¬ Kp i.toNat = 0 ∧ inM Cd sn i) (tmM (ftK Kp Cd sn M0 i.toNat).1 i (Kp i.toNat), bI (tlM (ftK Kp Cd sn M0 i.toNat).1 i (Kp i.toNat))) (ftK Kp Cd sn M0 i.toNat) := by
  obtain ⟨n, rfl⟩ := Int.eq_ofNat_of_zero_le h
  rfl
theorem ftK_z {Kp Cd : Nat → Int} {sn : Int} {M0 : Nat → Int} {i : Nat} (h : (ftK Kp Cd sn M0 i).2 = 0) (k : Nat) : ftK Kp Cd sn M0 (i + k) = ftK Kp Cd sn M0 i := by
  induction k with
  | zero => rfl
  | succ k ih =>
    rw [show i + (k + 1) = (i + k) + 1 from rfl, ftK_1, if_pos (by rw [ih]; exact h)]
    exact ih
noncomputable def ftI (nm pl : Int → Int) (M0 : Nat → Int) : Nat → (Nat → Int) × Int
  | 0 => (M0, 1)
  | i + 1 => if (ftI nm pl M0 i).2 = 0 then ftI nm pl M0 i else (tmM (ftI nm pl M0 i).1 (nm i) (pl i), bI (tlM (ftI nm pl M0 i).1 (nm i) (pl i)))
theorem ftI_1 (nm pl : Int → Int) (M0 : Nat → Int) (i : Nat) : ftI nm pl M0 (i + 1) = if (ftI nm pl M0 i).2 = 0 then ftI nm pl M0 i else (tmM (ftI nm pl M0 i).1 (nm i) (pl i), bI (tlM (ftI nm pl M0 i).1 (nm i) (pl i))) := rfl
theorem ftI_s (nm pl : Int → Int) (M0 : Nat → Int) {i : Int} (h : 0 ≤ i) : ftI nm pl M0 (i + 1).toNat = if (ftI nm pl M0 i.toNat).2 = 0 then ftI nm pl M0 i.toNat else (tmM (ftI nm pl M0 i.toNat).1 (nm i) (pl i), bI (tlM (ftI nm pl M0 i.toNat).1 (nm i) (pl i))) := by
  obtain ⟨n, rfl⟩ := Int.eq_ofNat_of_zero_le h
  rfl
theorem ftI_z {nm pl : Int → Int} {M0 : Nat → Int} {i : Nat} (h : (ftI nm pl M0 i).2 = 0) (k : Nat) : ftI nm pl M0 (i + k) = ftI nm pl M0 i := by
  induction k with
  | zero => rfl
  | succ k ih =>
    rw [show i + (k + 1) = (i + k) + 1 from rfl, ftI_1, if_pos (by rw [ih]; exact h)]
    exact ih
noncomputable def ftL (Cd Bg Sz Td Lt : Nat → Int) (M0 : Nat → Int) : Nat → (Nat → Int) × Int
  | 0 => (M0, 1)
  | k + 1 => if (ftL Cd Bg Sz Td Lt M0 k).2 = 0 then ftL Cd Bg Sz Td Lt M0 k else ftI (fun i => Cd (Bg (k : Int).toNat + i).toNat) (fun i => Lt (8 * Td (k : Int).toNat + i).toNat) (ftL Cd Bg Sz Td Lt M0 k).1 (Sz (k : Int).toNat).toNat
theorem ftL_1 (Cd Bg Sz Td Lt : Nat → Int) (M0 : Nat → Int) (k : Nat) : ftL Cd Bg Sz Td Lt M0 (k + 1) = if (ftL Cd Bg Sz Td Lt M0 k).2 = 0 then ftL Cd Bg Sz Td Lt M0 k else ftI (fun i => Cd (Bg (k : Int).toNat + i).toNat) (fun i => Lt (8 * Td (k : Int).toNat + i).toNat) (ftL Cd Bg Sz Td Lt M0 k).1 (Sz (k : Int).toNat).toNat := rfl
theorem ftL_s (Cd Bg Sz Td Lt : Nat → Int) (M0 : Nat → Int) {i : Int} (h : 0 ≤ i) : ftL Cd Bg Sz Td Lt M0 (i + 1).toNat = if (ftL Cd Bg Sz Td Lt M0 i.toNat).2 = 0 then ftL Cd Bg Sz Td Lt M0 i.toNat else ftI (fun j => Cd (Bg i.toNat + j).toNat) (fun j => Lt (8 * Td i.toNat + j).toNat) (ftL Cd Bg Sz Td Lt M0 i.toNat).1 (Sz i.toNat).toNat := by
  obtain ⟨n, rfl⟩ := Int.eq_ofNat_of_zero_le h
  rfl
theorem ftL_z {Cd Bg Sz Td Lt : Nat → Int} {M0 : Nat → Int} {i : Nat} (h : (ftL Cd Bg Sz Td Lt M0 i).2 = 0) (k : Nat) : ftL Cd Bg Sz Td Lt M0 (i + k) = ftL Cd Bg Sz Td Lt M0 i := by
  induction k with
  | zero => rfl
  | succ k ih =>
    rw [show i + (k + 1) = (i + k) + 1 from rfl, ftL_1, if_pos (by rw [ih]; exact h)]
    exact ih
/-- fits(v): the map, and 0 when it does not -/
noncomputable def ftM (Kp Cd : Nat → Int) (sn : Int) (Bg Sz Td Lt Mp : Nat → Int) (v : Int) : (Nat → Int) × Int := if (ftK Kp Cd sn (zrB Mp 0) 26).2 = 0 then ftK Kp Cd sn (zrB Mp 0) 26 else ftL Cd Bg Sz Td Lt (ftK Kp Cd sn (zrB Mp 0) 26).1 v.toNat
/-- what fits(v) wants of the levels below v -/
def flM (Cd Bg Sz Td : Nat → Int) (v : Int) : Prop := ∀ k : Int, 0 ≤ k → k < v → (0 ≤ Td k.toNat ∧ Td k.toNat < 60) ∧ Sz k.toNat ≤ 8 ∧ ∀ i, 0 ≤ i → i < Sz k.toNat → (0 ≤ Bg k.toNat + i ∧ Bg k.toNat + i < 60) ∧ 0 ≤ Cd (Bg k.toNat + i).toNat
def ahM (Mp Fo : Nat → Int) (k : Int) : Prop := lxB (fun n => Mp n.toNat) (fun n => Fo (26 * k + n).toNat)
noncomputable def ekF (Mp Fo : Nat → Int) : Nat → Int
  | 0 => 0
  | n + 1 => ifP (ahM Mp Fo n) (ekF Mp Fo n) (n + 1 : Nat)
theorem ekF_s (Mp Fo : Nat → Int) {k : Int} (h : 1 ≤ k) : ekF Mp Fo k.toNat = ifP (ahM Mp Fo (k - 1)) (ekF Mp Fo (k - 1).toNat) k := by
  obtain ⟨n, hn⟩ := Int.eq_ofNat_of_zero_le (show 0 ≤ k - 1 by omega)
  rw [show k.toNat = n + 1 from by omega, show (k - 1).toNat = n from by omega, hn, show k = ((n + 1 : Nat) : Int) from by omega]
  rfl
theorem ekF_r (Mp Fo : Nat → Int) (n : Nat) : 0 ≤ ekF Mp Fo n ∧ ekF Mp Fo n ≤ n := by
  induction n with
  | zero => exact ⟨Int.le_refl 0, Int.le_refl 0⟩
  | succ n ih =>
    show 0 ≤ ifP (ahM Mp Fo n) (ekF Mp Fo n) ((n + 1 : Nat) : Int) ∧ ifP (ahM Mp Fo n) (ekF Mp Fo n) ((n + 1 : Nat) : Int) ≤ ((n + 1 : Nat) : Int)
    by_cases c : ahM Mp Fo n
    · rw [ifP_t c]; omega
    · rw [ifP_f c]; omega
noncomputable def ekM (Mp Fo : Nat → Int) (nr : Int) : Int := ekF Mp Fo nr.toNat
def shF (Fo : Nat → Int) (k la : Int) : Nat → Int := fun t => if 26 * (k + 1) ≤ (t : Int) ∧ (t : Int) < 26 * (la + 1) then Fo ((t : Int) - 26).toNat else Fo t
noncomputable def erM (Mp Fo : Nat → Int) (nr : Int) : Nat → Int := if ekM Mp Fo nr = 200 then Fo else fun t => if 26 * ekM Mp Fo nr ≤ (t : Int) ∧ (t : Int) < 26 * ekM Mp Fo nr + 26 then Mp ((t : Int) - 26 * ekM Mp Fo nr).toNat else shF Fo (ekM Mp Fo nr) (laR nr) t
noncomputable def enM (Mp Fo : Nat → Int) (nr : Int) : Int := if ekM Mp Fo nr = 200 then nr else if nr < 200 then nr + 1 else nr

set_option maxRecDepth 100000 in
set_option maxHeartbeats 4000000 in
theorem c_M_part {l : Launch} {D : va_G} (kI kZ : ClassId) (x : Nat → Nat) (th co : Int) (Rw : Nat → Int) (nw : Int) (Le Lt : Nat → Int) (sn : Int) (Cd Kp We : Nat → Int) (mn : Int) (Bg Sz Td Mp : Nat → Int) (ts nr : Int) (Fo : Nat → Int) (np : Int) (Pl Fw : Nat → Int) (hsn : 0 ≤ sn ∧ sn ≤ 60) (hCd : ∀ j, -1 ≤ Cd j ∧ Cd j ≤ 25) : Dt l D (ty2 kI kZ) y_M_part w_M_part { frames := 0, cells := 0, slots := 0, locals := 0 } [.ref (x 0)] (wM kI kZ x th co Rw nw Le Lt sn Cd Kp We mn Bg Sz Td Mp ts nr Fo np Pl Fw) none (wM kI kZ x th co Rw nw Le Lt sn Cd Kp We ((ptM Cd Bg Sz sn.toNat).1) ((ptM Cd Bg Sz sn.toNat).2.1) ((ptM Cd Bg Sz sn.toNat).2.2) Td Mp ts nr Fo np Pl Fw) := by
  refine Met.toJ (own := R_M) (QD D none (wM kI kZ x th co Rw nw Le Lt sn Cd Kp We ((ptM Cd Bg Sz sn.toNat).1) ((ptM Cd Bg Sz sn.toNat).2.1) ((ptM Cd Bg Sz sn.toNat).2.2) Td Mp ts nr Fo np Pl Fw)) mk_M_part rfl (Nat.le_of_ble_eq_true rfl) ?_
  intro p e s m args below meth c A C hr hlk hnm
  show JJ p l e { frames := 0, cells := 0, slots := 0, locals := 0 } s m args below meth c D A 2 (MQ below (QD D none (wM kI kZ x th co Rw nw Le Lt sn Cd Kp We ((ptM Cd Bg Sz sn.toNat).1) ((ptM Cd Bg Sz sn.toNat).2.1) ((ptM Cd Bg Sz sn.toNat).2.2) Td Mp ts nr Fo np Pl Fw) A) args s 0 0 A) 0 0 0 [(0, .ref (x 0))] [] (wM kI kZ x th co Rw nw Le Lt sn Cd Kp We mn Bg Sz Td Mp ts nr Fo np Pl Fw)
  refine j_aload_n (q := 1) C 0 rfl d_M_part_0 rfl ?_
  refine j_iconst (q := 2) C d_M_part_1 rfl ?_
  refine j_put (q := 5) (ty := .int) C i_M rfl t_M t_M_ok n_M 0 rfl 10 (by decide) rfl fl_M_80 rfl (by decide +kernel) rfl rfl (Nat.le_of_ble_eq_true rfl) (wM kI kZ x th co Rw nw Le Lt sn Cd Kp We 0 Bg Sz Td Mp ts nr Fo np Pl Fw) rfl d_M_part_2 rfl ?_
  refine j_iconst (q := 6) C d_M_part_5 rfl ?_
  refine j_istore_n (q := 7) C [(0, .ref (x 0)), (1, .int (iI (0)))] rfl (by decide) d_M_part_6 rfl ?_
  have lp7 : ∀ (N : Nat) (i : Int) (τ : Int × (Nat → Int) × (Nat → Int)), (0 ≤ i ∧ i ≤ sn) → (τ = ptM Cd Bg Sz i.toNat) → (0 ≤ τ.1 ∧ τ.1 ≤ i) → (0 < i → 0 ≤ Cd (i - 1).toNat → 1 ≤ τ.1) → (sn - i).toNat < N → JJ p l e { frames := 0, cells := 0, slots := 0, locals := 0 } s m args below meth c D A 2 (MQ below (QD D none (wM kI kZ x th co Rw nw Le Lt sn Cd Kp We ((ptM Cd Bg Sz sn.toNat).1) ((ptM Cd Bg Sz sn.toNat).2.1) ((ptM Cd Bg Sz sn.toNat).2.2) Td Mp ts nr Fo np Pl Fw) A) args s 0 0 A) 0 0 7 [(0, .ref (x 0)), (1, .int (iI (i)))] [] (wM kI kZ x th co Rw nw Le Lt sn Cd Kp We τ.1 τ.2.1 τ.2.2 Td Mp ts nr Fo np Pl Fw) := by
    intro N
    induction N with
    | zero =>
      intro i τ i0 i1 i2 i3 hN
      omega
    | succ N ih7 =>
      intro i τ i0 i1 i2 i3 hN
      refine j_iload_n (q := 8) C 1 rfl d_M_part_7 rfl ?_
      refine j_aload_n (q := 9) C 0 rfl d_M_part_8 rfl ?_
      refine j_get (q := 12) C i_M rfl 0 rfl 6 (by decide) rfl rfl fl_M_74 d_M_part_9 rfl ?_
      refine j_icmp_ge C 93 15 d_M_part_12 rfl rfl (by omega) (by omega) (fun c1 => ?_) (fun c1 => ?_)
      · exact j_vret C hr hlk d_M_part_93 (by rw [show sn.toNat = i.toNat from by omega, ← i1])
      · refine j_aload_n (q := 16) C 0 rfl d_M_part_15 rfl ?_
        refine j_get (q := 19) C i_M rfl 0 rfl 7 (by decide) rfl rfl fl_M_19 d_M_part_16 rfl ?_
        refine j_iload_n (q := 20) C 1 rfl d_M_part_19 rfl ?_
        refine j_iald (q := 21) C 4 0 rfl rfl (by decide) (by omega) d_M_part_20 rfl ?_
        have h20 := hCd i.toNat
        refine j_if_ge C 27 24 d_M_part_21 rfl rfl (by omega) (fun c2 => ?_) (fun c2 => ?_)
        · refine j_iload_n (q := 28) C 1 rfl d_M_part_27 rfl ?_
          refine j_if_eq C 42 31 d_M_part_28 rfl rfl (by omega) (fun c3 => ?_) (fun c3 => ?_)
          · refine j_aload_n (q := 43) C 0 rfl d_M_part_42 rfl ?_
            refine j_get (q := 46) C i_M rfl 0 rfl 11 (by decide) rfl rfl fl_M_28 d_M_part_43 rfl ?_
            refine j_aload_n (q := 47) C 0 rfl d_M_part_46 rfl ?_
            refine j_get (q := 50) C i_M rfl 0 rfl 10 (by decide) rfl rfl fl_M_80 d_M_part_47 rfl ?_
            refine j_iload_n (q := 51) C 1 rfl d_M_part_50 rfl ?_
            refine j_iast (q := 52) C 7 0 rfl rfl (by decide) (by omega) (wM kI kZ x th co Rw nw Le Lt sn Cd Kp We τ.1 (uI τ.2.1 τ.1.toNat i) τ.2.2 Td Mp ts nr Fo np Pl Fw) rfl d_M_part_51 rfl ?_
            refine j_aload_n (q := 53) C 0 rfl d_M_part_52 rfl ?_
            refine j_get (q := 56) C i_M rfl 0 rfl 12 (by decide) rfl rfl fl_M_31 d_M_part_53 rfl ?_
            refine j_aload_n (q := 57) C 0 rfl d_M_part_56 rfl ?_
            refine j_get (q := 60) C i_M rfl 0 rfl 10 (by decide) rfl rfl fl_M_80 d_M_part_57 rfl ?_
            refine j_iconst (q := 61) C d_M_part_60 rfl ?_
            refine j_iast (q := 62) C 8 0 rfl rfl (by decide) (by omega) (wM kI kZ x th co Rw nw Le Lt sn Cd Kp We τ.1 (uI τ.2.1 τ.1.toNat i) (uI τ.2.2 τ.1.toNat 0) Td Mp ts nr Fo np Pl Fw) rfl d_M_part_61 rfl ?_
            refine j_aload_n (q := 63) C 0 rfl d_M_part_62 rfl ?_
            refine j_dup (q := 64) C rfl d_M_part_63 rfl ?_
            refine j_get (q := 67) C i_M rfl 0 rfl 10 (by decide) rfl rfl fl_M_80 d_M_part_64 rfl ?_
            refine j_iconst (q := 68) C d_M_part_67 rfl ?_
            refine j_iadd (q := 69) C d_M_part_68 rfl ?_
            refine j_put (q := 72) (ty := .int) C i_M rfl t_M t_M_ok n_M 0 rfl 10 (by decide) rfl fl_M_80 rfl (by decide +kernel) rfl rfl (Nat.le_of_ble_eq_true rfl) (wM kI kZ x th co Rw nw Le Lt sn Cd Kp We (τ.1 + 1) (uI τ.2.1 τ.1.toNat i) (uI τ.2.2 τ.1.toNat 0) Td Mp ts nr Fo np Pl Fw) rfl d_M_part_69 rfl ?_
            refine j_aload_n (q := 73) C 0 rfl d_M_part_72 rfl ?_
            refine j_get (q := 76) C i_M rfl 0 rfl 12 (by decide) rfl rfl fl_M_31 d_M_part_73 rfl ?_
            refine j_aload_n (q := 77) C 0 rfl d_M_part_76 rfl ?_
            refine j_get (q := 80) C i_M rfl 0 rfl 10 (by decide) rfl rfl fl_M_80 d_M_part_77 rfl ?_
            refine j_iconst (q := 81) C d_M_part_80 rfl ?_
            refine j_isub (q := 82) C d_M_part_81 rfl ?_
            refine j_dup2 (q := 83) C rfl rfl d_M_part_82 rfl ?_
            refine j_iald (q := 84) C 8 0 rfl rfl (by decide) (by omega) d_M_part_83 rfl ?_
            refine j_iconst (q := 85) C d_M_part_84 rfl ?_
            refine j_iadd (q := 86) C d_M_part_85 rfl ?_
            refine j_iast (q := 87) C 8 0 rfl rfl (by decide) (by omega) (wM kI kZ x th co Rw nw Le Lt sn Cd Kp We (τ.1 + 1) (uI τ.2.1 τ.1.toNat i) (uI (uI τ.2.2 τ.1.toNat 0) ((τ.1 + 1) - 1).toNat (((uI τ.2.2 τ.1.toNat 0) ((τ.1 + 1) - 1).toNat) + 1)) Td Mp ts nr Fo np Pl Fw) rfl d_M_part_86 rfl ?_
            refine j_iinc (q := 90) C 1 [(0, .ref (x 0)), (1, .int (iI (i + 1)))] rfl rfl (by decide) d_M_part_87 rfl ?_
            refine j_goto C 7 d_M_part_90 rfl ?_
            exact ih7 (i + 1) (τ.1 + 1, uI τ.2.1 τ.1.toNat i, uI (uI τ.2.2 τ.1.toNat 0) ((τ.1 + 1) - 1).toNat (((uI τ.2.2 τ.1.toNat 0) ((τ.1 + 1) - 1).toNat) + 1)) (by omega) (by rw [ptM_s _ _ _ i0.1, ← i1, if_neg (by omega), if_pos (by omega)]) (by dsimp only; omega) (fun h1 h2 => by dsimp only; omega) (by omega)
          · refine j_aload_n (q := 32) C 0 rfl d_M_part_31 rfl ?_
            refine j_get (q := 35) C i_M rfl 0 rfl 7 (by decide) rfl rfl fl_M_19 d_M_part_32 rfl ?_
            refine j_iload_n (q := 36) C 1 rfl d_M_part_35 rfl ?_
            refine j_iconst (q := 37) C d_M_part_36 rfl ?_
            refine j_isub (q := 38) C d_M_part_37 rfl ?_
            refine j_iald (q := 39) C 4 0 rfl rfl (by decide) (by omega) d_M_part_38 rfl ?_
            have h38 := hCd (i - 1).toNat
            have q39 := i3 (by omega)
            refine j_if_ge C 72 42 d_M_part_39 rfl rfl (by omega) (fun c4 => ?_) (fun c4 => ?_)
            · refine j_aload_n (q := 73) C 0 rfl d_M_part_72 rfl ?_
              refine j_get (q := 76) C i_M rfl 0 rfl 12 (by decide) rfl rfl fl_M_31 d_M_part_73 rfl ?_
              refine j_aload_n (q := 77) C 0 rfl d_M_part_76 rfl ?_
              refine j_get (q := 80) C i_M rfl 0 rfl 10 (by decide) rfl rfl fl_M_80 d_M_part_77 rfl ?_
              refine j_iconst (q := 81) C d_M_part_80 rfl ?_
              refine j_isub (q := 82) C d_M_part_81 rfl ?_
              refine j_dup2 (q := 83) C rfl rfl d_M_part_82 rfl ?_
              refine j_iald (q := 84) C 8 0 rfl rfl (by decide) (by omega) d_M_part_83 rfl ?_
              refine j_iconst (q := 85) C d_M_part_84 rfl ?_
              refine j_iadd (q := 86) C d_M_part_85 rfl ?_
              refine j_iast (q := 87) C 8 0 rfl rfl (by decide) (by omega) (wM kI kZ x th co Rw nw Le Lt sn Cd Kp We τ.1 τ.2.1 (uI τ.2.2 (τ.1 - 1).toNat ((τ.2.2 (τ.1 - 1).toNat) + 1)) Td Mp ts nr Fo np Pl Fw) rfl d_M_part_86 rfl ?_
              refine j_iinc (q := 90) C 1 [(0, .ref (x 0)), (1, .int (iI (i + 1)))] rfl rfl (by decide) d_M_part_87 rfl ?_
              refine j_goto C 7 d_M_part_90 rfl ?_
              exact ih7 (i + 1) (τ.1, τ.2.1, uI τ.2.2 (τ.1 - 1).toNat ((τ.2.2 (τ.1 - 1).toNat) + 1)) (by omega) (by rw [ptM_s _ _ _ i0.1, ← i1, if_neg (by omega), if_neg (by omega)]) (by dsimp only; omega) (fun h1 h2 => by dsimp only; omega) (by omega)
            · refine j_aload_n (q := 43) C 0 rfl d_M_part_42 rfl ?_
              refine j_get (q := 46) C i_M rfl 0 rfl 11 (by decide) rfl rfl fl_M_28 d_M_part_43 rfl ?_
              refine j_aload_n (q := 47) C 0 rfl d_M_part_46 rfl ?_
              refine j_get (q := 50) C i_M rfl 0 rfl 10 (by decide) rfl rfl fl_M_80 d_M_part_47 rfl ?_
              refine j_iload_n (q := 51) C 1 rfl d_M_part_50 rfl ?_
              refine j_iast (q := 52) C 7 0 rfl rfl (by decide) (by omega) (wM kI kZ x th co Rw nw Le Lt sn Cd Kp We τ.1 (uI τ.2.1 τ.1.toNat i) τ.2.2 Td Mp ts nr Fo np Pl Fw) rfl d_M_part_51 rfl ?_
              refine j_aload_n (q := 53) C 0 rfl d_M_part_52 rfl ?_
              refine j_get (q := 56) C i_M rfl 0 rfl 12 (by decide) rfl rfl fl_M_31 d_M_part_53 rfl ?_
              refine j_aload_n (q := 57) C 0 rfl d_M_part_56 rfl ?_
              refine j_get (q := 60) C i_M rfl 0 rfl 10 (by decide) rfl rfl fl_M_80 d_M_part_57 rfl ?_
              refine j_iconst (q := 61) C d_M_part_60 rfl ?_
              refine j_iast (q := 62) C 8 0 rfl rfl (by decide) (by omega) (wM kI kZ x th co Rw nw Le Lt sn Cd Kp We τ.1 (uI τ.2.1 τ.1.toNat i) (uI τ.2.2 τ.1.toNat 0) Td Mp ts nr Fo np Pl Fw) rfl d_M_part_61 rfl ?_
              refine j_aload_n (q := 63) C 0 rfl d_M_part_62 rfl ?_
              refine j_dup (q := 64) C rfl d_M_part_63 rfl ?_
              refine j_get (q := 67) C i_M rfl 0 rfl 10 (by decide) rfl rfl fl_M_80 d_M_part_64 rfl ?_
              refine j_iconst (q := 68) C d_M_part_67 rfl ?_
              refine j_iadd (q := 69) C d_M_part_68 rfl ?_
              refine j_put (q := 72) (ty := .int) C i_M rfl t_M t_M_ok n_M 0 rfl 10 (by decide) rfl fl_M_80 rfl (by decide +kernel) rfl rfl (Nat.le_of_ble_eq_true rfl) (wM kI kZ x th co Rw nw Le Lt sn Cd Kp We (τ.1 + 1) (uI τ.2.1 τ.1.toNat i) (uI τ.2.2 τ.1.toNat 0) Td Mp ts nr Fo np Pl Fw) rfl d_M_part_69 rfl ?_
              refine j_aload_n (q := 73) C 0 rfl d_M_part_72 rfl ?_
              refine j_get (q := 76) C i_M rfl 0 rfl 12 (by decide) rfl rfl fl_M_31 d_M_part_73 rfl ?_
              refine j_aload_n (q := 77) C 0 rfl d_M_part_76 rfl ?_
              refine j_get (q := 80) C i_M rfl 0 rfl 10 (by decide) rfl rfl fl_M_80 d_M_part_77 rfl ?_
              refine j_iconst (q := 81) C d_M_part_80 rfl ?_
              refine j_isub (q := 82) C d_M_part_81 rfl ?_
              refine j_dup2 (q := 83) C rfl rfl d_M_part_82 rfl ?_
              refine j_iald (q := 84) C 8 0 rfl rfl (by decide) (by omega) d_M_part_83 rfl ?_
              refine j_iconst (q := 85) C d_M_part_84 rfl ?_
              refine j_iadd (q := 86) C d_M_part_85 rfl ?_
              refine j_iast (q := 87) C 8 0 rfl rfl (by decide) (by omega) (wM kI kZ x th co Rw nw Le Lt sn Cd Kp We (τ.1 + 1) (uI τ.2.1 τ.1.toNat i) (uI (uI τ.2.2 τ.1.toNat 0) ((τ.1 + 1) - 1).toNat (((uI τ.2.2 τ.1.toNat 0) ((τ.1 + 1) - 1).toNat) + 1)) Td Mp ts nr Fo np Pl Fw) rfl d_M_part_86 rfl ?_
              refine j_iinc (q := 90) C 1 [(0, .ref (x 0)), (1, .int (iI (i + 1)))] rfl rfl (by decide) d_M_part_87 rfl ?_
              refine j_goto C 7 d_M_part_90 rfl ?_
              exact ih7 (i + 1) (τ.1 + 1, uI τ.2.1 τ.1.toNat i, uI (uI τ.2.2 τ.1.toNat 0) ((τ.1 + 1) - 1).toNat (((uI τ.2.2 τ.1.toNat 0) ((τ.1 + 1) - 1).toNat) + 1)) (by omega) (by rw [ptM_s _ _ _ i0.1, ← i1, if_neg (by omega), if_pos (by omega)]) (by dsimp only; omega) (fun h1 h2 => by dsimp only; omega) (by omega)
        · refine j_goto C 87 d_M_part_24 rfl ?_
          refine j_iinc (q := 90) C 1 [(0, .ref (x 0)), (1, .int (iI (i + 1)))] rfl rfl (by decide) d_M_part_87 rfl ?_
          refine j_goto C 7 d_M_part_90 rfl ?_
          exact ih7 (i + 1) τ (by omega) (by rw [ptM_s _ _ _ i0.1, ← i1, if_pos (by omega)]) (by omega) (fun h1 h2 => by rw [show i + 1 - 1 = i from by omega] at h2; omega) (by omega)
  exact lp7 (sn.toNat + 1) 0 (0, Bg, Sz) (by omega) rfl ⟨Int.le_refl 0, Int.le_refl 0⟩ (fun h1 h2 => by omega) (by omega)
set_option maxRecDepth 100000 in
set_option maxHeartbeats 4000000 in
theorem c_M_codewords {l : Launch} {D : va_G} (kI kZ : ClassId) (x : Nat → Nat) (th co : Int) (Rw : Nat → Int) (nw : Int) (Le Lt : Nat → Int) (sn : Int) (Cd Kp We : Nat → Int) (mn : Int) (Bg Sz Td Mp : Nat → Int) (ts nr : Int) (Fo : Nat → Int) (np : Int) (Pl Fw : Nat → Int) (hsn : 0 ≤ sn ∧ sn ≤ 60) (hCd : ∀ j, -1 ≤ Cd j ∧ Cd j ≤ 25) : Dt l D (ty2 kI kZ) y_M_codewords w_M_codewords { frames := 1, cells := 0, slots := 0, locals := 21 } [.ref (x 0)] (wM kI kZ x th co Rw nw Le Lt sn Cd Kp We mn Bg Sz Td Mp ts nr Fo np Pl Fw) (some (.int (iI ((ptM Cd Bg Sz sn.toNat).1)))) (wM kI kZ x 0 co Rw nw Le Lt sn Cd Kp We ((ptM Cd Bg Sz sn.toNat).1) ((ptM Cd Bg Sz sn.toNat).2.1) ((ptM Cd Bg Sz sn.toNat).2.2) Td Mp ts nr Fo np Pl Fw) := by
  refine Met.toJ (own := R_M) (QD D (some (.int (iI ((ptM Cd Bg Sz sn.toNat).1)))) (wM kI kZ x 0 co Rw nw Le Lt sn Cd Kp We ((ptM Cd Bg Sz sn.toNat).1) ((ptM Cd Bg Sz sn.toNat).2.1) ((ptM Cd Bg Sz sn.toNat).2.2) Td Mp ts nr Fo np Pl Fw)) mk_M_codewords rfl (Nat.le_of_ble_eq_true rfl) ?_
  intro p e s m args below meth c A C hr hlk hnm
  show JJ p l e { frames := 1, cells := 0, slots := 0, locals := 21 } s m args below meth c D A 1 (MQ below (QD D (some (.int (iI ((ptM Cd Bg Sz sn.toNat).1)))) (wM kI kZ x 0 co Rw nw Le Lt sn Cd Kp We ((ptM Cd Bg Sz sn.toNat).1) ((ptM Cd Bg Sz sn.toNat).2.1) ((ptM Cd Bg Sz sn.toNat).2.2) Td Mp ts nr Fo np Pl Fw) A) args s 0 0 A) 0 0 0 [(0, .ref (x 0))] [] (wM kI kZ x th co Rw nw Le Lt sn Cd Kp We mn Bg Sz Td Mp ts nr Fo np Pl Fw)
  refine j_aload_n (q := 1) C 0 rfl d_M_codewords_0 rfl ?_
  refine j_iconst (q := 2) C d_M_codewords_1 rfl ?_
  refine j_put (q := 5) (ty := .int) C i_M rfl t_M t_M_ok n_M 0 rfl 0 (by decide) rfl fl_M_49 rfl (by decide +kernel) rfl rfl (Nat.le_of_ble_eq_true rfl) (wM kI kZ x 0 co Rw nw Le Lt sn Cd Kp We mn Bg Sz Td Mp ts nr Fo np Pl Fw) rfl d_M_codewords_2 rfl ?_
  refine j_aload_n (q := 6) C 0 rfl d_M_codewords_5 rfl ?_
  refine j_callV (q := 9) (wr := []) C [] [] (c_M_part kI kZ x 0 co Rw nw Le Lt sn Cd Kp We mn Bg Sz Td Mp ts nr Fo np Pl Fw hsn hCd  ) ml_M_83 mk_M_part in_M_part se_M_part rfl rfl rfl [0, 1, 2, 3, 4, 5, 6, 7, 8, 9, 10, 11, 12, 13] [] [0, 1, 2, 3, 4, 5, 6, 7, 8, 9, 10, 11, 12, 13] rfl (by decide) rfl (by decide) (by decide) (wM kI kZ x 0 co Rw nw Le Lt sn Cd Kp We ((ptM Cd Bg Sz sn.toNat).1) ((ptM Cd Bg Sz sn.toNat).2.1) ((ptM Cd Bg Sz sn.toNat).2.2) Td Mp ts nr Fo np Pl Fw) rfl (by decide) rfl rfl rfl (Nat.le_of_ble_eq_true rfl) ⟨Nat.le_of_ble_eq_true rfl, Nat.le_of_ble_eq_true rfl⟩ ⟨Nat.le_of_ble_eq_true rfl, Nat.le_of_ble_eq_true rfl⟩ d_M_codewords_6 rfl ?_
  refine j_aload_n (q := 10) C 0 rfl d_M_codewords_9 rfl ?_
  refine j_get (q := 13) C i_M rfl 0 rfl 10 (by decide) rfl rfl fl_M_80 d_M_codewords_10 rfl ?_
  exact j_iret C hr hlk d_M_codewords_13 rfl rfl
set_option maxRecDepth 100000 in
set_option maxHeartbeats 4000000 in
theorem c_M_tell {l : Launch} {D : va_G} (kI kZ : ClassId) (x : Nat → Nat) (th co : Int) (Rw : Nat → Int) (nw : Int) (Le Lt : Nat → Int) (sn : Int) (Cd Kp We : Nat → Int) (mn : Int) (Bg Sz Td Mp : Nat → Int) (ts nr : Int) (Fo : Nat → Int) (np : Int) (Pl Fw : Nat → Int) (hMp : ∀ j, 0 ≤ Mp j ∧ Mp j ≤ 122) (a b : Int) (ha : 0 ≤ a ∧ a < 26) (hb : 0 ≤ b ∧ b ≤ 122) : Dt l D (ty2 kI kZ) y_M_tell w_M_tell { frames := 0, cells := 0, slots := 0, locals := 0 } [.ref (x 0), .int (iI (a)), .int (iI (b))] (wM kI kZ x th co Rw nw Le Lt sn Cd Kp We mn Bg Sz Td Mp ts nr Fo np Pl Fw) (some (.int (iI (bI (tlM Mp a b))))) (wM kI kZ x th co Rw nw Le Lt sn Cd Kp We mn Bg Sz Td (tmM Mp a b) ts nr Fo np Pl Fw) := by
  refine Met.toJ (own := R_M) (QD D (some (.int (iI (bI (tlM Mp a b))))) (wM kI kZ x th co Rw nw Le Lt sn Cd Kp We mn Bg Sz Td (tmM Mp a b) ts nr Fo np Pl Fw)) mk_M_tell rfl (Nat.le_of_ble_eq_true rfl) ?_
  intro p e s m args below meth c A C hr hlk hnm
  show JJ p l e { frames := 0, cells := 0, slots := 0, locals := 0 } s m args below meth c D A 4 (MQ below (QD D (some (.int (iI (bI (tlM Mp a b))))) (wM kI kZ x th co Rw nw Le Lt sn Cd Kp We mn Bg Sz Td (tmM Mp a b) ts nr Fo np Pl Fw) A) args s 0 0 A) 0 0 0 [(0, .ref (x 0)), (1, .int (iI (a))), (2, .int (iI (b)))] [] (wM kI kZ x th co Rw nw Le Lt sn Cd Kp We mn Bg Sz Td Mp ts nr Fo np Pl Fw)
  refine j_aload_n (q := 1) C 0 rfl d_M_tell_0 rfl ?_
  refine j_get (q := 4) C i_M rfl 0 rfl 14 (by decide) rfl rfl fl_M_37 d_M_tell_1 rfl ?_
  refine j_iload_n (q := 5) C 1 rfl d_M_tell_4 rfl ?_
  refine j_iald (q := 6) C 10 0 rfl rfl (by decide) (by omega) d_M_tell_5 rfl ?_
  have h5 := hMp a.toNat
  refine j_if_eq C 25 9 d_M_tell_6 rfl rfl (by omega) (fun c1 => ?_) (fun c1 => ?_)
  · refine j_iconst (q := 26) C d_M_tell_25 rfl ?_
    refine j_istore_n (q := 27) C [(0, .ref (x 0)), (1, .int (iI (a))), (2, .int (iI (b))), (3, .int (iI (0)))] rfl (by decide) d_M_tell_26 rfl ?_
    have lp27 : ∀ (N : Nat) (i : Int), (0 ≤ i ∧ i ≤ 26) → (∀ k : Int, 0 ≤ k → k < i → ¬ Mp k.toNat = b) → (26 - i).toNat < N → JJ p l e { frames := 0, cells := 0, slots := 0, locals := 0 } s m args below meth c D A 4 (MQ below (QD D (some (.int (iI (bI (tlM Mp a b))))) (wM kI kZ x th co Rw nw Le Lt sn Cd Kp We mn Bg Sz Td (tmM Mp a b) ts nr Fo np Pl Fw) A) args s 0 0 A) 0 0 27 [(0, .ref (x 0)), (1, .int (iI (a))), (2, .int (iI (b))), (3, .int (iI (i)))] [] (wM kI kZ x th co Rw nw Le Lt sn Cd Kp We mn Bg Sz Td Mp ts nr Fo np Pl Fw) := by
      intro N
      induction N with
      | zero =>
        intro i i0 i1 hN
        omega
      | succ N ih27 =>
        intro i i0 i1 hN
        refine j_iload_n (q := 28) C 3 rfl d_M_tell_27 rfl ?_
        refine j_bipush (q := 30) C d_M_tell_28 rfl rfl ?_
        refine j_icmp_ge C 51 33 d_M_tell_30 rfl rfl (by omega) (by omega) (fun c2 => ?_) (fun c2 => ?_)
        · refine j_aload_n (q := 52) C 0 rfl d_M_tell_51 rfl ?_
          refine j_get (q := 55) C i_M rfl 0 rfl 14 (by decide) rfl rfl fl_M_37 d_M_tell_52 rfl ?_
          refine j_iload_n (q := 56) C 1 rfl d_M_tell_55 rfl ?_
          refine j_iload_n (q := 57) C 2 rfl d_M_tell_56 rfl ?_
          refine j_iast (q := 58) C 10 0 rfl rfl (by decide) (by omega) (wM kI kZ x th co Rw nw Le Lt sn Cd Kp We mn Bg Sz Td (uI Mp a.toNat b) ts nr Fo np Pl Fw) rfl d_M_tell_57 rfl ?_
          refine j_iconst (q := 59) C d_M_tell_58 rfl ?_
          first | (exfalso; omega) | exact j_zret C hr hlk (by omega) d_M_tell_59 (congrArg (fun z => some (Value.int (iI z))) (show (bI (tlM Mp a b)) = (1) from bI_1 (Or.inr ⟨by omega, fun k h1 h2 => i1 k h1 (by omega)⟩))) (by rw [show tmM Mp a b = uI Mp a.toNat b from ifP_t ⟨by omega, fun k h1 h2 => i1 k h1 (by omega)⟩])
        · refine j_aload_n (q := 34) C 0 rfl d_M_tell_33 rfl ?_
          refine j_get (q := 37) C i_M rfl 0 rfl 14 (by decide) rfl rfl fl_M_37 d_M_tell_34 rfl ?_
          refine j_iload_n (q := 38) C 3 rfl d_M_tell_37 rfl ?_
          refine j_iald (q := 39) C 10 0 rfl rfl (by decide) (by omega) d_M_tell_38 rfl ?_
          have h38 := hMp i.toNat
          refine j_iload_n (q := 40) C 2 rfl d_M_tell_39 rfl ?_
          refine j_icmp_ne C 45 43 d_M_tell_40 rfl rfl (by omega) (by omega) (fun c3 => ?_) (fun c3 => ?_)
          · refine j_iinc (q := 48) C 3 [(0, .ref (x 0)), (1, .int (iI (a))), (2, .int (iI (b))), (3, .int (iI (i + 1)))] rfl rfl (by decide) d_M_tell_45 rfl ?_
            refine j_goto C 27 d_M_tell_48 rfl ?_
            exact ih27 (i + 1) (by omega) (fun j h1 h2 => by rcases (show j < i ∨ j = i by omega) with h | h; exact i1 j h1 h; rw [h]; omega) (by omega)
          · refine j_iconst (q := 44) C d_M_tell_43 rfl ?_
            first | (exfalso; omega) | exact j_zret C hr hlk (by omega) d_M_tell_44 (congrArg (fun z => some (Value.int (iI z))) (show (bI (tlM Mp a b)) = (0) from bI_0 (fun h => by rcases h with h | h; omega; exact h.2 i (by omega) (by omega) (by omega)))) (by rw [show tmM Mp a b = Mp from ifP_f (fun h => h.2 i (by omega) (by omega) (by omega))])
    exact lp27 27 0 (by omega) (fun j h1 h2 => by omega) (by omega)
  · refine j_aload_n (q := 10) C 0 rfl d_M_tell_9 rfl ?_
    refine j_get (q := 13) C i_M rfl 0 rfl 14 (by decide) rfl rfl fl_M_37 d_M_tell_10 rfl ?_
    refine j_iload_n (q := 14) C 1 rfl d_M_tell_13 rfl ?_
    refine j_iald (q := 15) C 10 0 rfl rfl (by decide) (by omega) d_M_tell_14 rfl ?_
    have h14 := hMp a.toNat
    refine j_iload_n (q := 16) C 2 rfl d_M_tell_15 rfl ?_
    refine j_icmp_ne C 23 19 d_M_tell_16 rfl rfl (by omega) (by omega) (fun c4 => ?_) (fun c4 => ?_)
    · refine j_iconst (q := 24) C d_M_tell_23 rfl ?_
      first | (exfalso; omega) | exact j_zret C hr hlk (by omega) d_M_tell_24 (congrArg (fun z => some (Value.int (iI z))) (show (bI (tlM Mp a b)) = (0) from by first | exact bI_1 (Or.inl ⟨by omega, by omega⟩) | exact bI_0 (fun h => by rcases h with h | h <;> omega))) (by rw [show tmM Mp a b = Mp from ifP_f (fun h => by omega)])
    · refine j_iconst (q := 20) C d_M_tell_19 rfl ?_
      refine j_goto C 24 d_M_tell_20 rfl ?_
      first | (exfalso; omega) | exact j_zret C hr hlk (by omega) d_M_tell_24 (congrArg (fun z => some (Value.int (iI z))) (show (bI (tlM Mp a b)) = (1) from by first | exact bI_1 (Or.inl ⟨by omega, by omega⟩) | exact bI_0 (fun h => by rcases h with h | h <;> omega))) (by rw [show tmM Mp a b = Mp from ifP_f (fun h => by omega)])
theorem ftK_r {Kp Cd M0 : Nat → Int} {sn : Int} (hK : ∀ j, 0 ≤ Kp j ∧ Kp j ≤ 122) (h : ∀ j, 0 ≤ M0 j ∧ M0 j ≤ 122) (n : Nat) : (∀ j, 0 ≤ (ftK Kp Cd sn M0 n).1 j ∧ (ftK Kp Cd sn M0 n).1 j ≤ 122) ∧ (0 ≤ (ftK Kp Cd sn M0 n).2 ∧ (ftK Kp Cd sn M0 n).2 ≤ 1) := by
  induction n with
  | zero => exact ⟨h, by show 0 ≤ (1 : Int) ∧ (1 : Int) ≤ 1; omega⟩
  | succ n ih =>
    rw [ftK_1]
    split
    · exact ih
    · by_cases c : ¬ Kp (n : Int).toNat = 0 ∧ inM Cd sn n
      · rw [ifP_t c]; exact ⟨tmM_r ih.1 _ (hK _), bI_r _⟩
      · rw [ifP_f c]; exact ih
theorem ftI_r {nm pl : Int → Int} {M0 : Nat → Int} (hp : ∀ j, 0 ≤ pl j ∧ pl j ≤ 122) (h : ∀ j, 0 ≤ M0 j ∧ M0 j ≤ 122) (n : Nat) : (∀ j, 0 ≤ (ftI nm pl M0 n).1 j ∧ (ftI nm pl M0 n).1 j ≤ 122) ∧ (0 ≤ (ftI nm pl M0 n).2 ∧ (ftI nm pl M0 n).2 ≤ 1) := by
  induction n with
  | zero => exact ⟨h, by show 0 ≤ (1 : Int) ∧ (1 : Int) ≤ 1; omega⟩
  | succ n ih =>
    rw [ftI_1]
    split
    · exact ih
    · exact ⟨tmM_r ih.1 _ (hp _), bI_r _⟩
theorem ftL_r {Cd Bg Sz Td Lt M0 : Nat → Int} (hL : ∀ j, 0 ≤ Lt j ∧ Lt j ≤ 122) (h : ∀ j, 0 ≤ M0 j ∧ M0 j ≤ 122) (n : Nat) : (∀ j, 0 ≤ (ftL Cd Bg Sz Td Lt M0 n).1 j ∧ (ftL Cd Bg Sz Td Lt M0 n).1 j ≤ 122) ∧ (0 ≤ (ftL Cd Bg Sz Td Lt M0 n).2 ∧ (ftL Cd Bg Sz Td Lt M0 n).2 ≤ 1) := by
  induction n with
  | zero => exact ⟨h, by show 0 ≤ (1 : Int) ∧ (1 : Int) ≤ 1; omega⟩
  | succ n ih =>
    rw [ftL_1]
    split
    · exact ih
    · exact ftI_r (fun j => hL _) ih.1 _
theorem ftM_r {Kp Cd Bg Sz Td Lt Mp : Nat → Int} {sn v : Int} (hK : ∀ j, 0 ≤ Kp j ∧ Kp j ≤ 122) (hL : ∀ j, 0 ≤ Lt j ∧ Lt j ≤ 122) (hM : ∀ j, 0 ≤ Mp j ∧ Mp j ≤ 122) : (∀ j, 0 ≤ (ftM Kp Cd sn Bg Sz Td Lt Mp v).1 j ∧ (ftM Kp Cd sn Bg Sz Td Lt Mp v).1 j ≤ 122) ∧ (0 ≤ (ftM Kp Cd sn Bg Sz Td Lt Mp v).2 ∧ (ftM Kp Cd sn Bg Sz Td Lt Mp v).2 ≤ 1) := by
  have h0 : ∀ j, 0 ≤ zrB Mp 0 j ∧ zrB Mp 0 j ≤ 122 := fun j => by have := hM j; unfold zrB; split <;> omega
  unfold ftM
  split
  · exact ftK_r hK h0 26
  · exact ftL_r hL (ftK_r hK h0 26).1 _

set_option maxRecDepth 100000 in
set_option maxHeartbeats 4000000 in
theorem c_M_fits {l : Launch} {D : va_G} (kI kZ : ClassId) (x : Nat → Nat) (th co : Int) (Rw : Nat → Int) (nw : Int) (Le Lt : Nat → Int) (sn : Int) (Cd Kp We : Nat → Int) (mn : Int) (Bg Sz Td Mp : Nat → Int) (ts nr : Int) (Fo : Nat → Int) (np : Int) (Pl Fw : Nat → Int) (hsn : 0 ≤ sn ∧ sn ≤ 60) (hCd : ∀ j, -1 ≤ Cd j ∧ Cd j ≤ 25) (hKp : ∀ j, 0 ≤ Kp j ∧ Kp j ≤ 122) (hLt : ∀ j, 0 ≤ Lt j ∧ Lt j ≤ 122) (hBg : ∀ j, 0 ≤ Bg j ∧ Bg j ≤ 59) (hSz : ∀ j, 0 ≤ Sz j ∧ Sz j ≤ 60) (hTd : ∀ j, -1 ≤ Td j ∧ Td j ≤ 60) (hMp : ∀ j, 0 ≤ Mp j ∧ Mp j ≤ 122) (v : Int) (hv : 0 ≤ v ∧ v ≤ 60) (hfl : flM Cd Bg Sz Td v) : Dt l D (ty2 kI kZ) y_M_fits w_M_fits { frames := 1, cells := 0, slots := 0, locals := 23 } [.ref (x 0), .int (iI (v))] (wM kI kZ x th co Rw nw Le Lt sn Cd Kp We mn Bg Sz Td Mp ts nr Fo np Pl Fw) (some (.int (iI ((ftM Kp Cd sn Bg Sz Td Lt Mp v).2)))) (wM kI kZ x th co Rw nw Le Lt sn Cd Kp We mn Bg Sz Td ((ftM Kp Cd sn Bg Sz Td Lt Mp v).1) ts nr Fo np Pl Fw) := by
  refine Met.toJ (own := R_M) (QD D (some (.int (iI ((ftM Kp Cd sn Bg Sz Td Lt Mp v).2)))) (wM kI kZ x th co Rw nw Le Lt sn Cd Kp We mn Bg Sz Td ((ftM Kp Cd sn Bg Sz Td Lt Mp v).1) ts nr Fo np Pl Fw)) mk_M_fits rfl (Nat.le_of_ble_eq_true rfl) ?_
  intro p e s m args below meth c A C hr hlk hnm
  show JJ p l e { frames := 1, cells := 0, slots := 0, locals := 23 } s m args below meth c D A 4 (MQ below (QD D (some (.int (iI ((ftM Kp Cd sn Bg Sz Td Lt Mp v).2)))) (wM kI kZ x th co Rw nw Le Lt sn Cd Kp We mn Bg Sz Td ((ftM Kp Cd sn Bg Sz Td Lt Mp v).1) ts nr Fo np Pl Fw) A) args s 0 0 A) 0 0 0 [(0, .ref (x 0)), (1, .int (iI (v)))] [] (wM kI kZ x th co Rw nw Le Lt sn Cd Kp We mn Bg Sz Td Mp ts nr Fo np Pl Fw)
  refine j_iconst (q := 1) C d_M_fits_0 rfl ?_
  refine j_istore_n (q := 2) C [(0, .ref (x 0)), (1, .int (iI (v))), (2, .int (iI (0)))] rfl (by decide) d_M_fits_1 rfl ?_
  have lp2 : ∀ (N : Nat) (i : Int) (F : Nat → Int), (0 ≤ i ∧ i ≤ 26) → (∀ j : Nat, F j = if (j : Int) < i then 0 else Mp j) → (26 - i).toNat < N → JJ p l e { frames := 1, cells := 0, slots := 0, locals := 23 } s m args below meth c D A 4 (MQ below (QD D (some (.int (iI ((ftM Kp Cd sn Bg Sz Td Lt Mp v).2)))) (wM kI kZ x th co Rw nw Le Lt sn Cd Kp We mn Bg Sz Td ((ftM Kp Cd sn Bg Sz Td Lt Mp v).1) ts nr Fo np Pl Fw) A) args s 0 0 A) 0 0 2 [(0, .ref (x 0)), (1, .int (iI (v))), (2, .int (iI (i)))] [] (wM kI kZ x th co Rw nw Le Lt sn Cd Kp We mn Bg Sz Td F ts nr Fo np Pl Fw) := by
    intro N
    induction N with
    | zero =>
      intro i F i0 i1 hN
      omega
    | succ N ih2 =>
      intro i F i0 i1 hN
      refine j_iload_n (q := 3) C 2 rfl d_M_fits_2 rfl ?_
      refine j_bipush (q := 5) C d_M_fits_3 rfl rfl ?_
      refine j_icmp_ge C 21 8 d_M_fits_5 rfl rfl (by omega) (by omega) (fun c1 => ?_) (fun c1 => ?_)
      · obtain rfl : F = zrB Mp 0 := by funext j; rw [i1 j]; unfold zrB; split <;> split <;> first | rfl | omega
        refine j_iconst (q := 22) C d_M_fits_21 rfl ?_
        refine j_istore_n (q := 23) C [(0, .ref (x 0)), (1, .int (iI (v))), (2, .int (iI (0)))] rfl (by decide) d_M_fits_22 rfl ?_
        have lp23 : ∀ (N : Nat) (j0 : Int) (τ : Nat → Int), (0 ≤ j0 ∧ j0 ≤ 26) → ((τ, (1 : Int)) = ftK Kp Cd sn (zrB Mp 0) j0.toNat) → (∀ j, 0 ≤ τ j ∧ τ j ≤ 122) → (26 - j0).toNat < N → JJ p l e { frames := 1, cells := 0, slots := 0, locals := 23 } s m args below meth c D A 4 (MQ below (QD D (some (.int (iI ((ftM Kp Cd sn Bg Sz Td Lt Mp v).2)))) (wM kI kZ x th co Rw nw Le Lt sn Cd Kp We mn Bg Sz Td ((ftM Kp Cd sn Bg Sz Td Lt Mp v).1) ts nr Fo np Pl Fw) A) args s 0 0 A) 0 0 23 [(0, .ref (x 0)), (1, .int (iI (v))), (2, .int (iI (j0)))] [] (wM kI kZ x th co Rw nw Le Lt sn Cd Kp We mn Bg Sz Td τ ts nr Fo np Pl Fw) := by
          intro N
          induction N with
          | zero =>
            intro j0 τ j0r j1 j2 hN
            omega
          | succ N ih23 =>
            intro j0 τ j0r j1 j2 hN
            have hMp2 := j2
            refine j_iload_n (q := 24) C 2 rfl d_M_fits_23 rfl ?_
            refine j_bipush (q := 26) C d_M_fits_24 rfl rfl ?_
            refine j_icmp_ge C 68 29 d_M_fits_26 rfl rfl (by omega) (by omega) (fun c2 => ?_) (fun c2 => ?_)
            · have kK : ftK Kp Cd sn (zrB Mp 0) 26 = (τ, 1) := by rw [show (26 : Nat) = j0.toNat from by omega, ← j1]
              refine j_iconst (q := 69) C d_M_fits_68 rfl ?_
              refine j_istore_n (q := 70) C [(0, .ref (x 0)), (1, .int (iI (v))), (2, .int (iI (0)))] rfl (by decide) d_M_fits_69 rfl ?_
              have lp70 : ∀ (N : Nat) (l0 : Int) (ρ : Nat → Int), (0 ≤ l0 ∧ l0 ≤ v) → ((ρ, (1 : Int)) = ftL Cd Bg Sz Td Lt (ftK Kp Cd sn (zrB Mp 0) 26).1 l0.toNat) → (∀ j, 0 ≤ ρ j ∧ ρ j ≤ 122) → (v - l0).toNat < N → JJ p l e { frames := 1, cells := 0, slots := 0, locals := 23 } s m args below meth c D A 4 (MQ below (QD D (some (.int (iI ((ftM Kp Cd sn Bg Sz Td Lt Mp v).2)))) (wM kI kZ x th co Rw nw Le Lt sn Cd Kp We mn Bg Sz Td ((ftM Kp Cd sn Bg Sz Td Lt Mp v).1) ts nr Fo np Pl Fw) A) args s 0 0 A) 0 0 70 [(0, .ref (x 0)), (1, .int (iI (v))), (2, .int (iI (l0)))] [] (wM kI kZ x th co Rw nw Le Lt sn Cd Kp We mn Bg Sz Td ρ ts nr Fo np Pl Fw) := by
                intro N
                induction N with
                | zero =>
                  intro l0 ρ l0r l1 l2 hN
                  omega
                | succ N ih70 =>
                  intro l0 ρ l0r l1 l2 hN
                  refine j_iload_n (q := 71) C 2 rfl d_M_fits_70 rfl ?_
                  refine j_iload_n (q := 72) C 1 rfl d_M_fits_71 rfl ?_
                  refine j_icmp_ge C 132 75 d_M_fits_72 rfl rfl (by omega) (by omega) (fun c3 => ?_) (fun c3 => ?_)
                  · have k132 : ftM Kp Cd sn Bg Sz Td Lt Mp v = (ρ, 1) := by unfold ftM; rw [if_neg (by rw [kK]; show ¬ (1 : Int) = 0; decide), l1, show v.toNat = l0.toNat from by omega]
                    refine j_iconst (q := 133) C d_M_fits_132 rfl ?_
                    first | (exfalso; omega) | exact j_zret C hr hlk (by omega) d_M_fits_133 (congrArg (fun z => some (Value.int (iI z))) (show ((ftM Kp Cd sn Bg Sz Td Lt Mp v).2) = (1) from by rw [k132])) (by rw [k132])
                  · have q72 := hfl l0 (by omega) (by omega)
                    refine j_iconst (q := 76) C d_M_fits_75 rfl ?_
                    refine j_istore_n (q := 77) C [(0, .ref (x 0)), (1, .int (iI (v))), (2, .int (iI (l0))), (3, .int (iI (0)))] rfl (by decide) d_M_fits_76 rfl ?_
                    have lp77 : ∀ (N : Nat) (i2 : Int) (ω : Nat → Int), (0 ≤ i2 ∧ i2 ≤ Sz l0.toNat) → ((ω, (1 : Int)) = ftI (fun j => Cd (Bg l0.toNat + j).toNat) (fun j => Lt (8 * Td l0.toNat + j).toNat) ρ i2.toNat) → (∀ j, 0 ≤ ω j ∧ ω j ≤ 122) → (Sz l0.toNat - i2).toNat < N → JJ p l e { frames := 1, cells := 0, slots := 0, locals := 23 } s m args below meth c D A 4 (MQ below (QD D (some (.int (iI ((ftM Kp Cd sn Bg Sz Td Lt Mp v).2)))) (wM kI kZ x th co Rw nw Le Lt sn Cd Kp We mn Bg Sz Td ((ftM Kp Cd sn Bg Sz Td Lt Mp v).1) ts nr Fo np Pl Fw) A) args s 0 0 A) 0 0 77 [(0, .ref (x 0)), (1, .int (iI (v))), (2, .int (iI (l0))), (3, .int (iI (i2)))] [] (wM kI kZ x th co Rw nw Le Lt sn Cd Kp We mn Bg Sz Td ω ts nr Fo np Pl Fw) := by
                      intro N
                      induction N with
                      | zero =>
                        intro i2 ω i2r i2e i2b hN
                        omega
                      | succ N ih77 =>
                        intro i2 ω i2r i2e i2b hN
                        refine j_iload_n (q := 78) C 3 rfl d_M_fits_77 rfl ?_
                        refine j_aload_n (q := 79) C 0 rfl d_M_fits_78 rfl ?_
                        refine j_get (q := 82) C i_M rfl 0 rfl 12 (by decide) rfl rfl fl_M_31 d_M_fits_79 rfl ?_
                        refine j_iload_n (q := 83) C 2 rfl d_M_fits_82 rfl ?_
                        refine j_iald (q := 84) C 8 0 rfl rfl (by decide) (by omega) d_M_fits_83 rfl ?_
                        have h83 := hSz l0.toNat
                        refine j_icmp_ge C 126 87 d_M_fits_84 rfl rfl (by omega) (by omega) (fun c4 => ?_) (fun c4 => ?_)
                        · refine j_iinc (q := 129) C 2 [(0, .ref (x 0)), (1, .int (iI (v))), (2, .int (iI (l0 + 1))), (3, .int (iI (i2)))] rfl rfl (by decide) d_M_fits_126 rfl ?_
                          refine j_goto C 70 d_M_fits_129 rfl ?_
                          refine j_lv [0, 1, 2] rfl ?_
                          exact ih70 (l0 + 1) ω (by omega) (by rw [ftL_s _ _ _ _ _ _ l0r.1, ← l1, if_neg (show ¬ (1 : Int) = 0 by decide), show (Sz l0.toNat).toNat = i2.toNat from by omega]; exact i2e) i2b (by omega)
                        · have q84 := q72.2.2 i2 (by omega) (by omega)
                          refine j_aload_n (q := 88) C 0 rfl d_M_fits_87 rfl ?_
                          refine j_aload_n (q := 89) C 0 rfl d_M_fits_88 rfl ?_
                          refine j_get (q := 92) C i_M rfl 0 rfl 7 (by decide) rfl rfl fl_M_19 d_M_fits_89 rfl ?_
                          refine j_aload_n (q := 93) C 0 rfl d_M_fits_92 rfl ?_
                          refine j_get (q := 96) C i_M rfl 0 rfl 11 (by decide) rfl rfl fl_M_28 d_M_fits_93 rfl ?_
                          refine j_iload_n (q := 97) C 2 rfl d_M_fits_96 rfl ?_
                          refine j_iald (q := 98) C 7 0 rfl rfl (by decide) (by omega) d_M_fits_97 rfl ?_
                          have h97 := hBg l0.toNat
                          refine j_iload_n (q := 99) C 3 rfl d_M_fits_98 rfl ?_
                          refine j_iadd (q := 100) C d_M_fits_99 rfl ?_
                          refine j_iald (q := 101) C 4 0 rfl rfl (by decide) (by omega) d_M_fits_100 rfl ?_
                          have h100 := hCd ((Bg l0.toNat) + i2).toNat
                          refine j_aload_n (q := 102) C 0 rfl d_M_fits_101 rfl ?_
                          refine j_aload_n (q := 103) C 0 rfl d_M_fits_102 rfl ?_
                          refine j_get (q := 106) C i_M rfl 0 rfl 13 (by decide) rfl rfl fl_M_34 d_M_fits_103 rfl ?_
                          refine j_iload_n (q := 107) C 2 rfl d_M_fits_106 rfl ?_
                          refine j_iald (q := 108) C 9 0 rfl rfl (by decide) (by omega) d_M_fits_107 rfl ?_
                          have h107 := hTd l0.toNat
                          refine j_iload_n (q := 109) C 3 rfl d_M_fits_108 rfl ?_
                          have e109 := hLt (8 * (Td l0.toNat) + i2).toNat
                          refine j_callV (q := 112) (wr := []) C [.int (iI (Td l0.toNat)), .int (iI (i2))] [.int (iI (Cd ((Bg l0.toNat) + i2).toNat)), .ref (x 0)] (c_M_at kI kZ x th co Rw nw Le Lt sn Cd Kp We mn Bg Sz Td ω ts nr Fo np Pl Fw hLt (Td l0.toNat) i2 (by omega)) ml_M_60 mk_M_at in_M_at se_M_at rfl rfl rfl [0, 1, 2, 3, 4, 5, 6, 7, 8, 9, 10, 11, 12, 13] [] [0, 1, 2, 3, 4, 5, 6, 7, 8, 9, 10, 11, 12, 13] rfl (by decide) rfl (by decide) (by decide) (wM kI kZ x th co Rw nw Le Lt sn Cd Kp We mn Bg Sz Td ω ts nr Fo np Pl Fw) rfl (by decide) rfl rfl rfl (Nat.le_of_ble_eq_true rfl) ⟨Nat.le_of_ble_eq_true rfl, Nat.le_of_ble_eq_true rfl⟩ ⟨Nat.le_of_ble_eq_true rfl, Nat.le_of_ble_eq_true rfl⟩ d_M_fits_109 rfl ?_
                          have e112 := bI_r (tlM ω (Cd ((Bg l0.toNat) + i2).toNat) (Lt (8 * (Td l0.toNat) + i2).toNat))
                          refine j_callV (q := 115) (wr := []) C [.int (iI (Cd ((Bg l0.toNat) + i2).toNat)), .int (iI (Lt (8 * (Td l0.toNat) + i2).toNat))] [] (c_M_tell kI kZ x th co Rw nw Le Lt sn Cd Kp We mn Bg Sz Td ω ts nr Fo np Pl Fw i2b (Cd ((Bg l0.toNat) + i2).toNat) (Lt (8 * (Td l0.toNat) + i2).toNat) (by omega) (by omega)) ml_M_89 mk_M_tell in_M_tell se_M_tell rfl rfl rfl [0, 1, 2, 3, 4, 5, 6, 7, 8, 9, 10, 11, 12, 13] [] [0, 1, 2, 3, 4, 5, 6, 7, 8, 9, 10, 11, 12, 13] rfl (by decide) rfl (by decide) (by decide) (wM kI kZ x th co Rw nw Le Lt sn Cd Kp We mn Bg Sz Td (tmM ω (Cd ((Bg l0.toNat) + i2).toNat) (Lt (8 * (Td l0.toNat) + i2).toNat)) ts nr Fo np Pl Fw) rfl (by decide) rfl rfl rfl (Nat.le_of_ble_eq_true rfl) ⟨Nat.le_of_ble_eq_true rfl, Nat.le_of_ble_eq_true rfl⟩ ⟨Nat.le_of_ble_eq_true rfl, Nat.le_of_ble_eq_true rfl⟩ d_M_fits_112 rfl ?_
                          refine j_if_ne C 120 118 d_M_fits_115 rfl rfl (by omega) (fun c5 => ?_) (fun c5 => ?_)
                          · have c5 := bI_n c5
                            have kt := c5
                            refine j_iinc (q := 123) C 3 [(0, .ref (x 0)), (1, .int (iI (v))), (2, .int (iI (l0))), (3, .int (iI (i2 + 1)))] rfl rfl (by decide) d_M_fits_120 rfl ?_
                            refine j_goto C 77 d_M_fits_123 rfl ?_
                            exact ih77 (i2 + 1) _ (by omega) (by rw [ftI_s _ _ _ i2r.1, ← i2e, if_neg (show ¬ (1 : Int) = 0 by decide), bI_1 kt]) (tmM_r i2b _ (hLt _)) (by omega)
                          · have c5 := bI_z c5
                            have kt := c5
                            have k118 : ftI (fun j => Cd (Bg l0.toNat + j).toNat) (fun j => Lt (8 * Td l0.toNat + j).toNat) ρ (i2 + 1).toNat = (tmM ω (Cd (Bg l0.toNat + i2).toNat) (Lt (8 * Td l0.toNat + i2).toNat), 0) := by rw [ftI_s _ _ _ i2r.1, ← i2e, if_neg (show ¬ (1 : Int) = 0 by decide), bI_0 kt]
                            have k119 := ftI_z (i := (i2 + 1).toNat) (by rw [k118]) ((Sz l0.toNat).toNat - (i2 + 1).toNat)
                            rw [show (i2 + 1).toNat + ((Sz l0.toNat).toNat - (i2 + 1).toNat) = (Sz l0.toNat).toNat from by omega, k118] at k119
                            have k120 : ftL Cd Bg Sz Td Lt (ftK Kp Cd sn (zrB Mp 0) 26).1 (l0 + 1).toNat = (tmM ω (Cd (Bg l0.toNat + i2).toNat) (Lt (8 * Td l0.toNat + i2).toNat), 0) := by rw [ftL_s _ _ _ _ _ _ l0r.1, ← l1, if_neg (show ¬ (1 : Int) = 0 by decide)]; exact k119
                            have k121 := ftL_z (i := (l0 + 1).toNat) (by rw [k120]) (v.toNat - (l0 + 1).toNat)
                            rw [show (l0 + 1).toNat + (v.toNat - (l0 + 1).toNat) = v.toNat from by omega, k120] at k121
                            have k122 : ftM Kp Cd sn Bg Sz Td Lt Mp v = (tmM ω (Cd (Bg l0.toNat + i2).toNat) (Lt (8 * Td l0.toNat + i2).toNat), 0) := by unfold ftM; rw [if_neg (by rw [kK]; show ¬ (1 : Int) = 0; decide)]; exact k121
                            refine j_iconst (q := 119) C d_M_fits_118 rfl ?_
                            first | (exfalso; omega) | exact j_zret C hr hlk (by omega) d_M_fits_119 (congrArg (fun z => some (Value.int (iI z))) (show ((ftM Kp Cd sn Bg Sz Td Lt Mp v).2) = (0) from by rw [k122])) (by rw [k122])
                    have s77 := hSz l0.toNat
                    exact lp77 ((Sz l0.toNat).toNat + 1) 0 ρ (by omega) rfl l2 (by omega)
              exact lp70 (v.toNat + 1) 0 τ (by omega) (by rw [kK]; rfl) j2 (by omega)
            · refine j_aload_n (q := 30) C 0 rfl d_M_fits_29 rfl ?_
              refine j_get (q := 33) C i_M rfl 0 rfl 8 (by decide) rfl rfl fl_M_22 d_M_fits_30 rfl ?_
              refine j_iload_n (q := 34) C 2 rfl d_M_fits_33 rfl ?_
              refine j_iald (q := 35) C 5 0 rfl rfl (by decide) (by omega) d_M_fits_34 rfl ?_
              have h34 := hKp j0.toNat
              refine j_if_eq C 62 38 d_M_fits_35 rfl rfl (by omega) (fun c6 => ?_) (fun c6 => ?_)
              · refine j_iinc (q := 65) C 2 [(0, .ref (x 0)), (1, .int (iI (v))), (2, .int (iI (j0 + 1)))] rfl rfl (by decide) d_M_fits_62 rfl ?_
                refine j_goto C 23 d_M_fits_65 rfl ?_
                exact ih23 (j0 + 1) τ (by omega) (by rw [ftK_s _ _ _ _ j0r.1, ← j1, if_neg (show ¬ (1 : Int) = 0 by decide), ifP_f (fun z => by first | (exact ki z.2) | (exact absurd (by omega) z.1))]) j2 (by omega)
              · refine j_aload_n (q := 39) C 0 rfl d_M_fits_38 rfl ?_
                refine j_iload_n (q := 40) C 2 rfl d_M_fits_39 rfl ?_
                have e40 := bI_r (inM Cd sn j0)
                refine j_callV (q := 43) (wr := []) C [.int (iI (j0))] [] (c_M_isIn kI kZ x th co Rw nw Le Lt sn Cd Kp We mn Bg Sz Td τ ts nr Fo np Pl Fw hsn hCd j0 (by omega)) ml_M_86 mk_M_isIn in_M_isIn se_M_isIn rfl rfl rfl [0, 1, 2, 3, 4, 5, 6, 7, 8, 9, 10, 11, 12, 13] [] [0, 1, 2, 3, 4, 5, 6, 7, 8, 9, 10, 11, 12, 13] rfl (by decide) rfl (by decide) (by decide) (wM kI kZ x th co Rw nw Le Lt sn Cd Kp We mn Bg Sz Td τ ts nr Fo np Pl Fw) rfl (by decide) rfl rfl rfl (Nat.le_of_ble_eq_true rfl) ⟨Nat.le_of_ble_eq_true rfl, Nat.le_of_ble_eq_true rfl⟩ ⟨Nat.le_of_ble_eq_true rfl, Nat.le_of_ble_eq_true rfl⟩ d_M_fits_40 rfl ?_
                refine j_if_eq C 62 46 d_M_fits_43 rfl rfl (by omega) (fun c7 => ?_) (fun c7 => ?_)
                · have c7 := bI_z c7
                  have ki := c7
                  refine j_iinc (q := 65) C 2 [(0, .ref (x 0)), (1, .int (iI (v))), (2, .int (iI (j0 + 1)))] rfl rfl (by decide) d_M_fits_62 rfl ?_
                  refine j_goto C 23 d_M_fits_65 rfl ?_
                  exact ih23 (j0 + 1) τ (by omega) (by rw [ftK_s _ _ _ _ j0r.1, ← j1, if_neg (show ¬ (1 : Int) = 0 by decide), ifP_f (fun z => by first | (exact ki z.2) | (exact absurd (by omega) z.1))]) j2 (by omega)
                · have c7 := bI_n c7
                  have ki := c7
                  refine j_aload_n (q := 47) C 0 rfl d_M_fits_46 rfl ?_
                  refine j_iload_n (q := 48) C 2 rfl d_M_fits_47 rfl ?_
                  refine j_aload_n (q := 49) C 0 rfl d_M_fits_48 rfl ?_
                  refine j_get (q := 52) C i_M rfl 0 rfl 8 (by decide) rfl rfl fl_M_22 d_M_fits_49 rfl ?_
                  refine j_iload_n (q := 53) C 2 rfl d_M_fits_52 rfl ?_
                  refine j_iald (q := 54) C 5 0 rfl rfl (by decide) (by omega) d_M_fits_53 rfl ?_
                  have h53 := hKp j0.toNat
                  have e54 := bI_r (tlM τ j0 (Kp j0.toNat))
                  refine j_callV (q := 57) (wr := []) C [.int (iI (j0)), .int (iI (Kp j0.toNat))] [] (c_M_tell kI kZ x th co Rw nw Le Lt sn Cd Kp We mn Bg Sz Td τ ts nr Fo np Pl Fw j2 j0 (Kp j0.toNat) (by omega) (by omega)) ml_M_89 mk_M_tell in_M_tell se_M_tell rfl rfl rfl [0, 1, 2, 3, 4, 5, 6, 7, 8, 9, 10, 11, 12, 13] [] [0, 1, 2, 3, 4, 5, 6, 7, 8, 9, 10, 11, 12, 13] rfl (by decide) rfl (by decide) (by decide) (wM kI kZ x th co Rw nw Le Lt sn Cd Kp We mn Bg Sz Td (tmM τ j0 (Kp j0.toNat)) ts nr Fo np Pl Fw) rfl (by decide) rfl rfl rfl (Nat.le_of_ble_eq_true rfl) ⟨Nat.le_of_ble_eq_true rfl, Nat.le_of_ble_eq_true rfl⟩ ⟨Nat.le_of_ble_eq_true rfl, Nat.le_of_ble_eq_true rfl⟩ d_M_fits_54 rfl ?_
                  refine j_if_ne C 62 60 d_M_fits_57 rfl rfl (by omega) (fun c8 => ?_) (fun c8 => ?_)
                  · have c8 := bI_n c8
                    have kt := c8
                    refine j_iinc (q := 65) C 2 [(0, .ref (x 0)), (1, .int (iI (v))), (2, .int (iI (j0 + 1)))] rfl rfl (by decide) d_M_fits_62 rfl ?_
                    refine j_goto C 23 d_M_fits_65 rfl ?_
                    exact ih23 (j0 + 1) _ (by omega) (by rw [ftK_s _ _ _ _ j0r.1, ← j1, if_neg (show ¬ (1 : Int) = 0 by decide), ifP_t ⟨by omega, ki⟩, bI_1 kt]) (tmM_r j2 _ (hKp _)) (by omega)
                  · have c8 := bI_z c8
                    have kt := c8
                    have k60 : ftK Kp Cd sn (zrB Mp 0) (j0 + 1).toNat = (tmM τ j0 (Kp j0.toNat), 0) := by rw [ftK_s _ _ _ _ j0r.1, ← j1, if_neg (show ¬ (1 : Int) = 0 by decide), ifP_t ⟨by omega, ki⟩, bI_0 kt]
                    have k61 := ftK_z (i := (j0 + 1).toNat) (by rw [k60]) (26 - (j0 + 1).toNat)
                    rw [show (j0 + 1).toNat + (26 - (j0 + 1).toNat) = 26 from by omega, k60] at k61
                    have k62 : ftM Kp Cd sn Bg Sz Td Lt Mp v = (tmM τ j0 (Kp j0.toNat), 0) := by unfold ftM; rw [k61]; exact if_pos rfl
                    refine j_iconst (q := 61) C d_M_fits_60 rfl ?_
                    first | (exfalso; omega) | exact j_zret C hr hlk (by omega) d_M_fits_61 (congrArg (fun z => some (Value.int (iI z))) (show ((ftM Kp Cd sn Bg Sz Td Lt Mp v).2) = (0) from by rw [k62])) (by rw [k62])
        exact lp23 27 0 (zrB Mp 0) (by omega) rfl (fun j => by have := hMp j; unfold zrB; split <;> omega) (by omega)
      · refine j_aload_n (q := 9) C 0 rfl d_M_fits_8 rfl ?_
        refine j_get (q := 12) C i_M rfl 0 rfl 14 (by decide) rfl rfl fl_M_37 d_M_fits_9 rfl ?_
        refine j_iload_n (q := 13) C 2 rfl d_M_fits_12 rfl ?_
        refine j_iconst (q := 14) C d_M_fits_13 rfl ?_
        refine j_iast (q := 15) C 10 0 rfl rfl (by decide) (by omega) (wM kI kZ x th co Rw nw Le Lt sn Cd Kp We mn Bg Sz Td (uI F i.toNat 0) ts nr Fo np Pl Fw) rfl d_M_fits_14 rfl ?_
        refine j_iinc (q := 18) C 2 [(0, .ref (x 0)), (1, .int (iI (v))), (2, .int (iI (i + 1)))] rfl rfl (by decide) d_M_fits_15 rfl ?_
        refine j_goto C 2 d_M_fits_18 rfl ?_
        exact ih2 (i + 1) _ (by omega) (fun j => by unfold uI; rw [i1 j]; split <;> split <;> first | rfl | omega) (by omega)
  exact lp2 27 0 Mp (by omega) (fun j => by rw [if_neg (by omega)]) (by omega)
