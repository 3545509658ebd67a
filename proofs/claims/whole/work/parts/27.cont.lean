/-! PURE: the reference's search, as the same function, and what is left of it at a level -/
def fwK {α : Type} (g : Int → X3 α → X3 α) : Int → Nat → X3 α → X3 α
  | _, 0, X => X
  | i, k + 1, X => fwK g (i + 1) k (g i X)
theorem fwK_e {α : Type} (g : Int → X3 α → X3 α) (k : Nat) : ∀ (i : Int) (X : X3 α), fwK g i (k + 1) X = g (i + k) (fwK g i k X) := by
  induction k with
  | zero => intro i X; show g i X = g (i + ((0 : Nat) : Int)) X; rw [show i + ((0 : Nat) : Int) = i from by omega]
  | succ k ih =>
    intro i X
    show fwK g (i + 1) (k + 1) (g i X) = g (i + ((k + 1 : Nat) : Int)) (fwK g (i + 1) k (g i X))
    rw [ih, show i + 1 + (k : Int) = i + ((k + 1 : Nat) : Int) from by omega]
theorem fwX_K {α : Type} (g : Int → X3 α → X3 α) (n : Nat) (X : X3 α) : fwX g n X = fwK g 0 n X := by
  induction n with
  | zero => rfl
  | succ n ih =>
    rw [fwK_e, ← ih, show (0 : Int) + (n : Int) = n from by omega]
    rfl
theorem fwK_stop {α : Type} {g : Int → X3 α → X3 α} (h : ∀ (wd : Int) (Y : X3 α), ¬ Y.2.1 = 0 → g wd Y = Y) (k : Nat) : ∀ (i : Int) (X : X3 α), ¬ X.2.1 = 0 → fwK g i k X = X := by
  induction k with
  | zero => intro i X _; rfl
  | succ k ih =>
    intro i X hX
    show fwK g (i + 1) k (g i X) = X
    rw [h i X hX]
    exact ih _ _ hX
/-- what the reference keeps: how many were found, the rows, how many are kept -/
abbrev B3 : Type := Int × (Nat → Int) × Int
noncomputable def offM (a : B3) (g : Nat → Int) : B3 := (a.1 + 1, erM g a.2.1 a.2.2, enM g a.2.1 a.2.2)
noncomputable def rtM (Cd Bg Sz Lt : Nat → Int) (cw : Int) (g : Nat → Int) (wd : Int) : (Nat → Int) × Int := ftI (fun i => Cd (Bg cw.toNat + i).toNat) (fun i => Lt (8 * wd + i).toNat) g (Sz cw.toNat).toNat
noncomputable def trM (Cd Bg Sz Lt : Nat → Int) (cw : Int) (g : Nat → Int) (wd : Int) : Option (Nat → Int) := if (rtM Cd Bg Sz Lt cw g wd).2 = 0 then none else some (rtM Cd Bg Sz Lt cw g wd).1
def mlM (Le Sz : Nat → Int) (cw wd : Int) : Prop := Le wd.toNat = Sz cw.toNat
noncomputable def skM (Cd Bg Sz Lt Le : Nat → Int) (nw mo : Int) (d : Nat) (cw : Int) (g : Nat → Int) (X : X3 B3) : X3 B3 := skD offM (trM Cd Bg Sz Lt) (mlM Le Sz) mo nw.toNat d cw g X
noncomputable def lpM (Cd Bg Sz Lt Le : Nat → Int) (nw mo : Int) (d : Nat) (cw : Int) (g : Nat → Int) (wd : Int) (Y : X3 B3) : X3 B3 := ifP (Y.2.1 = 0 ∧ mlM Le Sz cw wd) (tWd (trM Cd Bg Sz Lt cw g) mo (skM Cd Bg Sz Lt Le nw mo d (cw + 1)) wd Y) Y
theorem skM_s (Cd Bg Sz Lt Le : Nat → Int) (nw mo : Int) (d : Nat) (cw : Int) (g : Nat → Int) (X : X3 B3) : skM Cd Bg Sz Lt Le nw mo (d + 1) cw g X = fwX (lpM Cd Bg Sz Lt Le nw mo d cw g) nw.toNat X := rfl
theorem skM_0 (Cd Bg Sz Lt Le : Nat → Int) (nw mo : Int) (cw : Int) (g : Nat → Int) (X : X3 B3) : skM Cd Bg Sz Lt Le nw mo 0 cw g X = (X.1, X.2.1, offM X.2.2 g) := rfl
theorem lpM_stop (Cd Bg Sz Lt Le : Nat → Int) (nw mo : Int) (d : Nat) (cw : Int) (g : Nat → Int) (wd : Int) (Y : X3 B3) (h : ¬ Y.2.1 = 0) : lpM Cd Bg Sz Lt Le nw mo d cw g wd Y = Y := ifP_f (fun z => h z.1)
/-- the levels below L go on behind their words -/
noncomputable def coM (Cd Bg Sz Lt Le : Nat → Int) (nw mo mn : Int) (G T : Nat → Int) : Nat → X3 B3 → X3 B3
  | 0, X => X
  | k + 1, X => coM Cd Bg Sz Lt Le nw mo mn G T k (fwK (lpM Cd Bg Sz Lt Le nw mo (mn - 1 - k).toNat k (ftL Cd Bg Sz T Lt G k).1) (T k + 1) (nw - 1 - T k).toNat X)
noncomputable def cuM (Cd Bg Sz Lt Le : Nat → Int) (nw mo mn : Int) (G T : Nat → Int) (L : Int) (X : X3 B3) : X3 B3 := if L = mn then (X.1, X.2.1, offM X.2.2 (ftL Cd Bg Sz T Lt G L.toNat).1) else fwK (lpM Cd Bg Sz Lt Le nw mo (mn - 1 - L).toNat L (ftL Cd Bg Sz T Lt G L.toNat).1) (T L.toNat + 1) (nw - 1 - T L.toNat).toNat X
theorem ftL_cong {Cd Bg Sz Lt G T T' : Nat → Int} {n : Nat} (h : ∀ k : Nat, k < n → T k = T' k) : ftL Cd Bg Sz T Lt G n = ftL Cd Bg Sz T' Lt G n := by
  induction n with
  | zero => rfl
  | succ n ih =>
    rw [ftL_1, ftL_1, ih (fun k hk => h k (by omega)), show T (n : Int).toNat = T' (n : Int).toNat from h _ (by omega)]
theorem coM_cong {Cd Bg Sz Lt Le : Nat → Int} {nw mo mn : Int} {G T T' : Nat → Int} {n : Nat} (h : ∀ k : Nat, k < n → T k = T' k) : ∀ X, coM Cd Bg Sz Lt Le nw mo mn G T n X = coM Cd Bg Sz Lt Le nw mo mn G T' n X := by
  induction n with
  | zero => intro X; rfl
  | succ n ih =>
    intro X
    show coM Cd Bg Sz Lt Le nw mo mn G T n _ = coM Cd Bg Sz Lt Le nw mo mn G T' n _
    rw [h n (by omega), ftL_cong (fun k hk => h k (by omega)), ih (fun k hk => h k (by omega))]
theorem coM_down {Cd Bg Sz Lt Le : Nat → Int} {nw mo mn : Int} {G T : Nat → Int} {L : Int} {Y Z : X3 B3} (h0 : 0 ≤ L ∧ L ≤ mn) (h : coM Cd Bg Sz Lt Le nw mo mn G T L.toNat Y = Z) : (L - 1 = -1 ∧ Y = Z) ∨ (0 ≤ L - 1 ∧ coM Cd Bg Sz Lt Le nw mo mn G T (L - 1).toNat (cuM Cd Bg Sz Lt Le nw mo mn G T (L - 1) Y) = Z) := by
  rcases (show L = 0 ∨ 1 ≤ L by omega) with c | c
  · rw [c] at h
    exact Or.inl ⟨by omega, h⟩
  · obtain ⟨k, hk⟩ := Int.eq_ofNat_of_zero_le (show 0 ≤ L - 1 by omega)
    refine Or.inr ⟨by omega, ?_⟩
    rw [show L.toNat = k + 1 from by omega] at h
    unfold cuM
    rw [if_neg (by omega), hk, show ((k : Int)).toNat = k from by omega]
    exact h
theorem coM_stop {Cd Bg Sz Lt Le : Nat → Int} {nw mo mn : Int} {G T : Nat → Int} (n : Nat) : ∀ X : X3 B3, ¬ X.2.1 = 0 → coM Cd Bg Sz Lt Le nw mo mn G T n X = X := by
  induction n with
  | zero => intro X _; rfl
  | succ n ih =>
    intro X hX
    show coM Cd Bg Sz Lt Le nw mo mn G T n (fwK _ _ _ X) = X
    rw [fwK_stop (fun wd Y hY => lpM_stop Cd Bg Sz Lt Le nw mo _ _ _ wd Y hY) _ _ X hX]
    exact ih X hX
/-- one level up, with a word that fits -/
theorem coM_up {Cd Bg Sz Lt Le : Nat → Int} {nw mo mn : Int} {G T T1 : Nat → Int} {L w : Int} {X Z : X3 B3} (h0 : 0 ≤ L ∧ L < mn) (hw : 0 ≤ w ∧ w < nw) (hT : T L.toNat = w) (hT1 : ∀ k : Nat, (k : Int) ≤ L → T1 k = T k) (hT2 : L + 1 < mn → T1 (L + 1).toNat = -1) (hok : ¬ (ftL Cd Bg Sz T Lt G L.toNat).2 = 0) (hfit : ¬ (ftL Cd Bg Sz T Lt G (L + 1).toNat).2 = 0)
    (h : coM Cd Bg Sz Lt Le nw mo mn G T L.toNat (fwK (lpM Cd Bg Sz Lt Le nw mo (mn - 1 - L).toNat L (ftL Cd Bg Sz T Lt G L.toNat).1) (w + 1) (nw - 1 - w).toNat (skM Cd Bg Sz Lt Le nw mo (mn - 1 - L).toNat (L + 1) (ftL Cd Bg Sz T Lt G (L + 1).toNat).1 X)) = Z) : coM Cd Bg Sz Lt Le nw mo mn G T1 (L + 1).toNat (cuM Cd Bg Sz Lt Le nw mo mn G T1 (L + 1) X) = Z := by
  obtain ⟨k, hk⟩ := Int.eq_ofNat_of_zero_le h0.1
  have e1 : ftL Cd Bg Sz T1 Lt G (L + 1).toNat = ftL Cd Bg Sz T Lt G (L + 1).toNat := ftL_cong (fun j hj => hT1 j (by omega))
  have e2 : cuM Cd Bg Sz Lt Le nw mo mn G T1 (L + 1) X = skM Cd Bg Sz Lt Le nw mo (mn - 1 - L).toNat (L + 1) (ftL Cd Bg Sz T Lt G (L + 1).toNat).1 X := by
    unfold cuM
    by_cases c : L + 1 = mn
    · rw [if_pos c, show (mn - 1 - L).toNat = 0 from by omega, skM_0, e1]
    · rw [if_neg c, e1, hT2 (by omega), show (mn - 1 - L).toNat = (mn - 1 - (L + 1)).toNat + 1 from by omega, skM_s, fwX_K, show (-1 : Int) + 1 = 0 from by omega, show (nw - 1 - -1).toNat = nw.toNat from by omega]
  rw [e2, coM_cong (T' := T) (fun j hj => hT1 j (by omega)), show (L + 1).toNat = k + 1 from by omega]
  show coM Cd Bg Sz Lt Le nw mo mn G T k (fwK (lpM Cd Bg Sz Lt Le nw mo (mn - 1 - (k : Int)).toNat k (ftL Cd Bg Sz T Lt G k).1) (T k + 1) (nw - 1 - T k).toNat _) = Z
  have e3 : T k = w := by rw [← hT]; congr 1; omega
  rw [e3]
  rw [show L.toNat = k from by omega, hk, show ((k : Int) + 1).toNat = k + 1 from by omega] at h
  rw [hk]
  exact h
/-- the whole run of the reference -/
noncomputable def g0M (Kp Cd : Nat → Int) (sn : Int) : (Nat → Int) × Int := ftK Kp Cd sn (fun _ => 0) 26
noncomputable def rnM (Kp Cd : Nat → Int) (sn : Int) (Bg Sz Lt Le : Nat → Int) (nw mo mn : Int) (Fo : Nat → Int) : X3 B3 := if (g0M Kp Cd sn).2 = 0 then (0, 0, 0, Fo, 0) else skM Cd Bg Sz Lt Le nw mo mn.toNat 0 (g0M Kp Cd sn).1 (0, 0, 0, Fo, 0)
