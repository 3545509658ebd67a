/-! THE RELATION: the code, its codewords, the letters kept -/
theorem ptM_1 (Cd Bg Sz : Nat → Int) (i : Nat) : ptM Cd Bg Sz (i + 1) = if Cd (i : Int).toNat < 0 then ptM Cd Bg Sz i else if (i : Int) = 0 ∨ Cd ((i : Int) - 1).toNat < 0 then ((ptM Cd Bg Sz i).1 + 1, uI (ptM Cd Bg Sz i).2.1 (ptM Cd Bg Sz i).1.toNat i, uI (uI (ptM Cd Bg Sz i).2.2 (ptM Cd Bg Sz i).1.toNat 0) ((ptM Cd Bg Sz i).1 + 1 - 1).toNat (uI (ptM Cd Bg Sz i).2.2 (ptM Cd Bg Sz i).1.toNat 0 ((ptM Cd Bg Sz i).1 + 1 - 1).toNat + 1)) else ((ptM Cd Bg Sz i).1, (ptM Cd Bg Sz i).2.1, uI (ptM Cd Bg Sz i).2.2 ((ptM Cd Bg Sz i).1 - 1).toNat ((ptM Cd Bg Sz i).2.2 ((ptM Cd Bg Sz i).1 - 1).toNat + 1)) := rfl
theorem ptM_c {C C' B S : Nat → Int} {n : Nat} (h : ∀ i : Nat, i < n → C i = C' i) : ptM C B S n = ptM C' B S n := by
  induction n with
  | zero => rfl
  | succ n ih =>
    rw [ptM_1, ptM_1, ih (fun i hi => h i (by omega)), h (n : Int).toNat (by omega), h ((n : Int) - 1).toNat (by omega)]
/-- the codewords of the code are those that the reference parts it into -/
def PT (KS KB KE : Nat → Int) (kn kw : Int) : Prop :=
  (∀ B S, (ptM KS B S kn.toNat).1 = kw ∧ ∀ k : Int, 0 ≤ k → k < kw → (ptM KS B S kn.toNat).2.1 k.toNat = KB k.toNat ∧ (ptM KS B S kn.toNat).2.2 k.toNat = KE k.toNat) ∧
  (2 * kw ≤ kn + 1 ∧ ((kn = 0 ∨ KS (kn - 1).toNat < 0) → 2 * kw ≤ kn)) ∧
  (0 < kn → 0 ≤ KS (kn - 1).toNat → 1 ≤ kw ∧ KB (kw - 1).toNat + KE (kw - 1).toNat = kn) ∧
  (∀ k : Int, 0 ≤ k → k < kw → 1 ≤ KE k.toNat ∧ 0 ≤ KB k.toNat ∧ KB k.toNat + KE k.toNat ≤ kn ∧ ∀ i : Int, 0 ≤ i → i < KE k.toNat → 0 ≤ KS (KB k.toNat + i).toNat) ∧
  ∀ i : Int, 0 ≤ i → i < kn → 0 ≤ KS i.toNat → ∃ k j : Int, (0 ≤ k ∧ k < kw) ∧ (0 ≤ j ∧ j < KE k.toNat) ∧ KB k.toNat + j = i
theorem PT.gap {KS KB KE : Nat → Int} {kn kw : Int} (h : PT KS KB KE kn kw) (h0 : 0 ≤ kn) : PT (uI KS kn.toNat (-1)) KB KE (kn + 1) kw := by
  obtain ⟨h1, h2, h3, h4, h5⟩ := h
  have e0 : uI KS kn.toNat (-1) (kn + 1 - 1).toNat = -1 := if_pos (by omega)
  have eo : ∀ i : Int, 0 ≤ i → i < kn → uI KS kn.toNat (-1) i.toNat = KS i.toNat := fun i z0 z1 => if_neg (by omega)
  refine ⟨fun B S => ?_, ⟨by omega, fun _ => by omega⟩, fun _ z => by rw [e0] at z; omega, fun k k0 k1 => ?_, fun i i0 i1 z => ?_⟩
  · have e : ptM (uI KS kn.toNat (-1)) B S (kn + 1).toNat = ptM KS B S kn.toNat := by
      rw [ptM_s _ _ _ h0, if_pos (by rw [show uI KS kn.toNat (-1) kn.toNat = -1 from if_pos rfl]; omega)]
      exact ptM_c (fun i hi => if_neg (by omega))
    rw [e]
    exact h1 B S
  · obtain ⟨a1, a2, a3, a4⟩ := h4 k k0 k1
    exact ⟨a1, a2, by omega, fun i i0 i1 => by rw [eo _ (by omega) (by omega)]; exact a4 i i0 i1⟩
  · rcases (show i < kn ∨ i = kn by omega) with c | c
    · rw [eo i i0 c] at z
      exact h5 i i0 c z
    · rw [c, show uI KS kn.toNat (-1) kn.toNat = -1 from if_pos rfl] at z
      omega
theorem PT.num {KS KB KE : Nat → Int} {kn kw a : Int} (h : PT KS KB KE kn kw) (h0 : 0 ≤ kn ∧ kn < 60) (hw : 0 ≤ kw) (hS : ∀ j, -1 ≤ KS j ∧ KS j < 26) (ha : 0 ≤ a) : PT (uI KS kn.toNat a) (kbG KS KB kn kw) (keG KS KE kn kw) (kn + 1) (kwG KS kn kw) ∧ (0 ≤ kwG KS kn kw ∧ kwG KS kn kw ≤ 30) ∧ (∀ j, 0 ≤ kbG KS KB kn kw j ∧ kbG KS KB kn kw j < 60 ∨ kbG KS KB kn kw j = KB j) ∧ ∀ j, 0 ≤ keG KS KE kn kw j ∧ keG KS KE kn kw j ≤ 60 ∨ keG KS KE kn kw j = KE j := by
  obtain ⟨h1, h2, h3, h4, h5⟩ := h
  have e0 : uI KS kn.toNat a (kn + 1 - 1).toNat = a := if_pos (by omega)
  have ea : uI KS kn.toNat a kn.toNat = a := if_pos rfl
  have eo : ∀ i : Int, 0 ≤ i → i < kn → uI KS kn.toNat a i.toNat = KS i.toNat := fun i z0 z1 => if_neg (by omega)
  have es : sgAt KS kn (kn - 1) = -1 ↔ (kn = 0 ∨ KS (kn - 1).toNat < 0) := by
    have := hS (kn - 1).toNat
    unfold sgAt
    split <;> omega
  have ec : ∀ B S, ptM (uI KS kn.toNat a) B S kn.toNat = ptM KS B S kn.toNat := fun B S => ptM_c (fun i hi => if_neg (by omega))
  by_cases c : kn = 0 ∨ KS (kn - 1).toNat < 0
  · have g : sgAt KS kn (kn - 1) = -1 ∧ kw < 30 := ⟨es.mpr c, by have := h2.2 c; omega⟩
    have w1 : kwG KS kn kw = kw + 1 := if_pos g
    have b1 : kbG KS KB kn kw = uI KB kw.toNat kn := if_pos g
    have k0 : keH KS KE kn kw = uI KE kw.toNat 0 := if_pos g
    have k1 : keG KS KE kn kw = uI KE kw.toNat 1 := by
      unfold keG
      rw [w1, if_pos (by omega), k0, show (kw + 1 - 1).toNat = kw.toNat from by omega, show uI KE kw.toNat 0 kw.toNat = 0 from if_pos rfl, uI_uI]
      rfl
    rw [w1, b1, k1]
    refine ⟨⟨fun B S => ?_, ⟨by omega, fun z => by rw [e0] at z; omega⟩, fun _ _ => ⟨by omega, ?_⟩, fun k z0 z1 => ?_, fun i i0 i1 z => ?_⟩, by omega, fun j => ?_, fun j => ?_⟩
    · obtain ⟨m1, m2⟩ := h1 B S
      rw [ptM_s _ _ _ h0.1, ea, if_neg (by omega), if_pos (by rcases c with c | c; exact Or.inl c; by_cases cz : kn = 0; exact Or.inl cz; exact Or.inr (by rw [eo (kn - 1) (by omega) (by omega)]; exact c)), ec, m1]
      refine ⟨rfl, fun k z0 z1 => ?_⟩
      show uI _ _ _ k.toNat = _ ∧ uI (uI _ _ _) _ _ k.toNat = _
      rw [show (kw + 1 - 1).toNat = kw.toNat from by omega, uI_uI, show uI (ptM KS B S kn.toNat).2.2 kw.toNat 0 kw.toNat = 0 from if_pos rfl]
      by_cases ck : k = kw
      · rw [ck]
        exact ⟨(if_pos rfl).trans (if_pos rfl).symm, (if_pos rfl).trans (if_pos rfl).symm⟩
      · obtain ⟨m3, m4⟩ := m2 k z0 (by omega)
        exact ⟨(if_neg (by omega)).trans (m3.trans (if_neg (by omega)).symm), (if_neg (by omega)).trans (m4.trans (if_neg (by omega)).symm)⟩
    · rw [show (kw + 1 - 1).toNat = kw.toNat from by omega, show uI KB kw.toNat kn kw.toNat = kn from if_pos rfl, show uI KE kw.toNat 1 kw.toNat = 1 from if_pos rfl]
    · by_cases ck : k = kw
      · rw [ck, show uI KB kw.toNat kn kw.toNat = kn from if_pos rfl, show uI KE kw.toNat 1 kw.toNat = 1 from if_pos rfl]
        exact ⟨by omega, by omega, by omega, fun i i0 i1 => by rw [show kn + i = kn from by omega, ea]; exact ha⟩
      · obtain ⟨a1, a2, a3, a4⟩ := h4 k z0 (by omega)
        rw [show uI KB kw.toNat kn k.toNat = KB k.toNat from if_neg (by omega), show uI KE kw.toNat 1 k.toNat = KE k.toNat from if_neg (by omega)]
        exact ⟨a1, a2, by omega, fun i i0 i1 => by rw [eo _ (by omega) (by omega)]; exact a4 i i0 i1⟩
    · rcases (show i < kn ∨ i = kn by omega) with ci | ci
      · rw [eo i i0 ci] at z
        obtain ⟨k, j, p1, p2, p3⟩ := h5 i i0 ci z
        exact ⟨k, j, by omega, by rw [show uI KE kw.toNat 1 k.toNat = KE k.toNat from if_neg (by omega)]; exact p2, by rw [show uI KB kw.toNat kn k.toNat = KB k.toNat from if_neg (by omega)]; exact p3⟩
      · exact ⟨kw, 0, by omega, by rw [show uI KE kw.toNat 1 kw.toNat = 1 from if_pos rfl]; omega, by rw [show uI KB kw.toNat kn kw.toNat = kn from if_pos rfl]; omega⟩
    · unfold uI
      split
      · exact Or.inl (by omega)
      · exact Or.inr rfl
    · unfold uI
      split
      · exact Or.inl (by omega)
      · exact Or.inr rfl
  · have g : ¬ (sgAt KS kn (kn - 1) = -1 ∧ kw < 30) := fun z => c (es.mp z.1)
    have hp : 0 < kn ∧ 0 ≤ KS (kn - 1).toNat := by omega
    obtain ⟨l1, l2⟩ := h3 hp.1 hp.2
    obtain ⟨r1, r2, r3, r4⟩ := h4 (kw - 1) (by omega) (by omega)
    have w1 : kwG KS kn kw = kw := if_neg g
    have b1 : kbG KS KB kn kw = KB := if_neg g
    have k0 : keH KS KE kn kw = KE := if_neg g
    have k1 : keG KS KE kn kw = uI KE (kw - 1).toNat (KE (kw - 1).toNat + 1) := by
      unfold keG
      rw [w1, if_pos (by omega), k0]
    rw [w1, b1, k1]
    refine ⟨⟨fun B S => ?_, ⟨by omega, fun z => by rw [e0] at z; omega⟩, fun _ _ => ⟨by omega, ?_⟩, fun k z0 z1 => ?_, fun i i0 i1 z => ?_⟩, by omega, fun j => Or.inr rfl, fun j => ?_⟩
    · obtain ⟨m1, m2⟩ := h1 B S
      rw [ptM_s _ _ _ h0.1, ea, if_neg (by omega), if_neg (by rw [eo (kn - 1) (by omega) (by omega)]; omega), ec, m1]
      refine ⟨rfl, fun k z0 z1 => ?_⟩
      obtain ⟨m3, m4⟩ := m2 k z0 z1
      obtain ⟨m5, m6⟩ := m2 (kw - 1) (by omega) (by omega)
      refine ⟨m3, ?_⟩
      show uI _ _ _ k.toNat = _
      rw [m6]
      by_cases ck : k = kw - 1
      · rw [ck]
        exact (if_pos rfl).trans (if_pos rfl).symm
      · exact (if_neg (by omega)).trans (m4.trans (if_neg (by omega)).symm)
    · rw [show uI KE (kw - 1).toNat (KE (kw - 1).toNat + 1) (kw - 1).toNat = KE (kw - 1).toNat + 1 from if_pos rfl]
      omega
    · by_cases ck : k = kw - 1
      · rw [ck, show uI KE (kw - 1).toNat (KE (kw - 1).toNat + 1) (kw - 1).toNat = KE (kw - 1).toNat + 1 from if_pos rfl]
        refine ⟨by omega, r2, by omega, fun i i0 i1 => ?_⟩
        rcases (show i < KE (kw - 1).toNat ∨ KB (kw - 1).toNat + i = kn by omega) with cc | cc
        · rw [eo _ (by omega) (by omega)]; exact r4 i i0 cc
        · rw [cc, ea]; exact ha
      · obtain ⟨a1, a2, a3, a4⟩ := h4 k z0 z1
        rw [show uI KE (kw - 1).toNat (KE (kw - 1).toNat + 1) k.toNat = KE k.toNat from if_neg (by omega)]
        exact ⟨a1, a2, by omega, fun i i0 i1 => by rw [eo _ (by omega) (by omega)]; exact a4 i i0 i1⟩
    · rcases (show i < kn ∨ i = kn by omega) with ci | ci
      · rw [eo i i0 ci] at z
        obtain ⟨k, j, p1, p2, p3⟩ := h5 i i0 ci z
        refine ⟨k, j, p1, ⟨p2.1, ?_⟩, p3⟩
        unfold uI
        split
        · rename_i q; rw [show k.toNat = (kw - 1).toNat from q] at p2; omega
        · exact p2.2
      · exact ⟨kw - 1, KE (kw - 1).toNat, by omega, by rw [show uI KE (kw - 1).toNat (KE (kw - 1).toNat + 1) (kw - 1).toNat = KE (kw - 1).toNat + 1 from if_pos rfl]; omega, by omega⟩
    · unfold uI
      split
      · exact Or.inl (by omega)
      · exact Or.inr rfl
def GK (KS KB KE KZ KV : Nat → Int) (kn kw sn : Int) (Cd Kp : Nat → Int) : Prop :=
  IK KS KB KE KZ KV kn kw ∧ sn = kn ∧ (∀ j, -1 ≤ Cd j ∧ Cd j ≤ 25) ∧ (∀ i : Int, 0 ≤ i → i < kn → Cd i.toNat = KS i.toNat) ∧ (∀ j, 0 ≤ Kp j ∧ Kp j ≤ 122) ∧ (∀ n : Int, 0 ≤ n → n < 26 → Kp n.toNat = enc (KV n.toNat)) ∧ (∀ n : Int, 0 ≤ n → n < 26 → (¬ KZ n.toNat = 0 ↔ inM Cd sn n)) ∧ PT KS KB KE kn kw
section RELK
variable {KS KB KE KZ KV : Nat → Int} {kn kw sn : Int} {Cd Kp : Nat → Int}
theorem GK.sign (h : GK KS KB KE KZ KV kn kw sn Cd Kp) (a : Int) : (if kn < 60 ∧ (a = -1 ∨ (0 ≤ a ∧ a < 26)) then (1 : Int) else 0) = (if (-1 ≤ a ∧ a ≤ 25) ∧ ¬ sn = 60 then (1 : Int) else 0) ∧
    GK (if kn < 60 ∧ (a = -1 ∨ (0 ≤ a ∧ a < 26)) then uI KS kn.toNat a else KS) (if kn < 60 ∧ (0 ≤ a ∧ a < 26) then kbG KS KB kn kw else KB) (if kn < 60 ∧ (0 ≤ a ∧ a < 26) then keG KS KE kn kw else KE) (if kn < 60 ∧ (0 ≤ a ∧ a < 26) then uI KZ a.toNat 1 else KZ) KV (if kn < 60 ∧ (a = -1 ∨ (0 ≤ a ∧ a < 26)) then kn + 1 else kn) (if kn < 60 ∧ (0 ≤ a ∧ a < 26) then kwG KS kn kw else kw) (if (-1 ≤ a ∧ a ≤ 25) ∧ ¬ sn = 60 then sn + 1 else sn) (if (-1 ≤ a ∧ a ≤ 25) ∧ ¬ sn = 60 then uI Cd sn.toNat a else Cd) Kp := by
  obtain ⟨⟨g1, g2, g3, g4, g5, g6, g7⟩, h1, h2, h3, h4, h5, h6, h7⟩ := id h
  by_cases c : (-1 ≤ a ∧ a ≤ 25) ∧ ¬ sn = 60
  · have c1 : kn < 60 ∧ (a = -1 ∨ (0 ≤ a ∧ a < 26)) := by omega
    have hC : ∀ j, -1 ≤ uI Cd sn.toNat a j ∧ uI Cd sn.toNat a j ≤ 25 := fun j => by have := h2 j; unfold uI; split <;> omega
    have hCS : ∀ i : Int, 0 ≤ i → i < kn + 1 → uI Cd sn.toNat a i.toNat = uI KS kn.toNat a i.toNat := by
      intro i i0 i1
      unfold uI
      by_cases e : i = kn
      · rw [if_pos (by omega), if_pos (by omega)]
      · rw [if_neg (by omega), if_neg (by omega)]; exact h3 i i0 (by omega)
    have hS : ∀ j, -1 ≤ uI KS kn.toNat a j ∧ uI KS kn.toNat a j < 26 := fun j => by have := g3 j; unfold uI; split <;> omega
    have hin : ∀ n : Int, inM (uI Cd sn.toNat a) (sn + 1) n ↔ (inM Cd sn n ∨ n = a) := by
      intro n
      constructor
      · intro ⟨i, i0, i1, i2⟩
        unfold uI at i2
        by_cases e : i = sn
        · rw [if_pos (by omega)] at i2; exact Or.inr i2.symm
        · rw [if_neg (by omega)] at i2; exact Or.inl ⟨i, i0, by omega, i2⟩
      · intro z
        rcases z with ⟨i, i0, i1, i2⟩ | z
        · exact ⟨i, i0, by omega, by unfold uI; rw [if_neg (by omega)]; exact i2⟩
        · exact ⟨sn, by omega, by omega, by unfold uI; rw [if_pos rfl, z]⟩
    simp only [if_pos c, if_pos c1]
    by_cases ca : 0 ≤ a
    · have c2 : kn < 60 ∧ (0 ≤ a ∧ a < 26) := by omega
      simp only [if_pos c2]
      obtain ⟨q1, q2, q3, q4⟩ := h7.num (a := a) (by omega) g2.1 g3 ca
      refine ⟨trivial, ⟨by omega, q2, hS, fun j => ?_, fun j => ?_, fun j => ?_, g7⟩, by omega, hC, hCS, h4, h5, fun n n0 n1 => ?_, q1⟩
      · have := g4 j; have := q3 j; omega
      · have := g5 j; have := q4 j; omega
      · have := g6 j; unfold uI; split <;> omega
      · rw [hin n]
        unfold uI
        by_cases e : n = a
        · rw [if_pos (by omega)]
          exact ⟨fun _ => Or.inr e, fun _ => by omega⟩
        · rw [if_neg (by omega), h6 n n0 n1]
          exact ⟨fun z => Or.inl z, fun z => z.resolve_right e⟩
    · have c2 : ¬ (kn < 60 ∧ (0 ≤ a ∧ a < 26)) := by omega
      have ea : a = -1 := by omega
      simp only [if_neg c2]
      refine ⟨trivial, ⟨by omega, g2, hS, g4, g5, g6, g7⟩, by omega, hC, hCS, h4, h5, fun n n0 n1 => ?_, ?_⟩
      · rw [hin n, h6 n n0 n1]
        exact ⟨fun z => Or.inl z, fun z => z.resolve_right (by omega)⟩
      · rw [ea]; exact h7.gap g1.1
  · have c1 : ¬ (kn < 60 ∧ (a = -1 ∨ (0 ≤ a ∧ a < 26))) := by omega
    have c2 : ¬ (kn < 60 ∧ (0 ≤ a ∧ a < 26)) := by omega
    simp only [if_neg c, if_neg c1, if_neg c2]
    exact ⟨trivial, h⟩
theorem GK.keep (h : GK KS KB KE KZ KV kn kw sn Cd Kp) (a b : Int) : (if (0 ≤ a ∧ a < 26) ∧ (b = 0 ∨ (97 ≤ b ∧ b < 123)) then (1 : Int) else 0) = (if (0 ≤ a ∧ a ≤ 25) ∧ (b = 0 ∨ (97 ≤ b ∧ b ≤ 122)) then (1 : Int) else 0) ∧
    GK KS KB KE KZ (if (0 ≤ a ∧ a < 26) ∧ (b = 0 ∨ (97 ≤ b ∧ b < 123)) then uI KV a.toNat (plOf b) else KV) kn kw sn Cd (if (0 ≤ a ∧ a ≤ 25) ∧ (b = 0 ∨ (97 ≤ b ∧ b ≤ 122)) then uI Kp a.toNat b else Kp) := by
  obtain ⟨⟨g1, g2, g3, g4, g5, g6, g7⟩, h1, h2, h3, h4, h5, h6, h7⟩ := id h
  by_cases c : (0 ≤ a ∧ a ≤ 25) ∧ (b = 0 ∨ (97 ≤ b ∧ b ≤ 122))
  · have c1 : (0 ≤ a ∧ a < 26) ∧ (b = 0 ∨ (97 ≤ b ∧ b < 123)) := by omega
    simp only [if_pos c, if_pos c1]
    have hp := plOf_r b
    have he : b = enc (plOf b) := by unfold enc plOf; split <;> split <;> omega
    refine ⟨trivial, ⟨g1, g2, g3, g4, g5, g6, fun j => ?_⟩, h1, h2, h3, fun j => ?_, fun n n0 n1 => ?_, h6, h7⟩
    · have := g7 j; unfold uI; split <;> omega
    · have := h4 j; unfold uI; split <;> omega
    · unfold uI
      by_cases e : n = a
      · rw [if_pos (by omega), if_pos (by omega)]; exact he
      · rw [if_neg (by omega), if_neg (by omega)]; exact h5 n n0 n1
  · have c1 : ¬ ((0 ≤ a ∧ a < 26) ∧ (b = 0 ∨ (97 ≤ b ∧ b < 123))) := by omega
    simp only [if_neg c, if_neg c1]
    exact ⟨trivial, h⟩
theorem GK.clear (h : GK KS KB KE KZ KV kn kw sn Cd Kp) : GK KS KB KE (zrB KZ 0) (zrB KV (-1)) 0 0 0 Cd (zrB Kp 0) := by
  obtain ⟨⟨g1, g2, g3, g4, g5, g6, g7⟩, h1, h2, h3, h4, h5, h6, h7⟩ := id h
  refine ⟨⟨by omega, by omega, g3, g4, g5, fun j => ?_, fun j => ?_⟩, rfl, h2, fun i _ _ => by omega, fun j => ?_, fun n n0 n1 => ?_, fun n n0 n1 => ?_, fun B S => ⟨rfl, fun k _ _ => by omega⟩, by omega, fun z _ => by omega, fun k _ _ => by omega, fun i _ _ => by omega⟩
  · have := g6 j; unfold zrB; split <;> omega
  · have := g7 j; unfold zrB; split <;> omega
  · have := h4 j; unfold zrB; split <;> omega
  · rw [show zrB Kp 0 n.toNat = 0 from if_pos (by omega), show zrB KV (-1) n.toNat = -1 from if_pos (by omega)]; rfl
  · rw [show zrB KZ 0 n.toNat = 0 from if_pos (by omega)]
    exact ⟨fun z => absurd rfl z, fun ⟨i, i0, i1, _⟩ => by omega⟩
end RELK
