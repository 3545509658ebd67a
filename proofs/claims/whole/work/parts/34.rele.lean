/-! THE RELATION: letters, ranks, hints; the parts' bounds -/
section RELE
variable {KS KB KE KZ KV : Nat → Int} {kn kw sn : Int} {Cd Kp : Nat → Int} {RP RS : Nat → Int} {rn nr : Int} {Fo PW : Nat → Int}
theorem rdAt_row (RP RS : Nat → Int) {rn k a : Int} (hk : 0 ≤ k ∧ k < rn) (ha : 0 ≤ a ∧ a < 26) : rdAt RP RS rn k a = rowR RP RS k a := if_pos ⟨hk, ha⟩
theorem rel_letter (h : GR RP RS rn nr Fo) (k a : Int) : leOf (rdAt RP RS rn k a) = if ((0 ≤ k ∧ k < nr) ∧ (0 ≤ a ∧ a ≤ 25)) ∧ ¬ Fo (26 * k + a).toNat = 0 then Fo (26 * k + a).toNat else -1 := by
  obtain ⟨h1, h2, h3, h4⟩ := h
  by_cases c : (0 ≤ k ∧ k < rn) ∧ (0 ≤ a ∧ a < 26)
  · have r := rowR_r h1 k a
    rw [rdAt_row RP RS c.1 c.2, h3 k a c.1.1 c.1.2 c.2.1 c.2.2]
    unfold leOf enc
    split <;> split <;> split <;> omega
  · rw [show rdAt RP RS rn k a = -1 from if_neg c, if_neg (fun z => c (by omega))]
    rfl
theorem rel_rank (h : GK KS KB KE KZ KV kn kw sn Cd Kp) (hr : GR RP RS rn nr Fo) (hc : CR KS kn RP RS rn) (hP : ∀ j, -1000 ≤ PW j ∧ PW j ≤ 1000) {k : Int} (hk : 0 ≤ k ∧ k < rn) : rkC KS kn RP RS rn PW k = rkM Cd sn Fo PW k := by
  obtain ⟨⟨g1, g2, g3, g4, g5, g6, g7⟩, k1, k2, k3, k4, k5, k6, k7⟩ := id h
  unfold rkC rkM
  rw [k1]
  refine smI_c (fun i i0 i1 => ?_)
  have hi : 1 ≤ i ∧ i < kn := by omega
  have e1 : sgAt KS kn i = KS i.toNat := if_pos (by omega)
  have e2 : sgAt KS kn (i - 1) = KS (i - 1).toNat := if_pos (by omega)
  have f1 := k3 i (by omega) hi.2
  have f2 := k3 (i - 1) (by omega) (by omega)
  have s1 := g3 i.toNat
  have s2 := g3 (i - 1).toNat
  unfold rkG rgM
  rw [e1, e2, f1, f2]
  by_cases c : 0 ≤ KS i.toNat ∧ 0 ≤ KS (i - 1).toNat
  · have q1 := hc k i hk.1 hk.2 (by omega) hi.2 c.1
    have q2 := hc k (i - 1) hk.1 hk.2 (by omega) (by omega) c.2
    have r1 := rowR_r hr.1 k (KS i.toNat)
    have r2 := rowR_r hr.1 k (KS (i - 1).toNat)
    rw [if_pos c, rdAt_row RP RS hk ⟨c.1, s1.2⟩, rdAt_row RP RS hk ⟨c.2, s2.2⟩, hr.2.2.1 k _ hk.1 hk.2 c.1 s1.2, hr.2.2.1 k _ hk.1 hk.2 c.2 s2.2, enc_p q1, enc_p q2]
    unfold wtOf
    rw [if_pos (by omega)]
    congr 1
    omega
  · rw [if_neg c]
    unfold wtOf
    rw [if_neg]
    intro z
    refine c ⟨?_, ?_⟩
    · rcases (show 0 ≤ KS i.toNat ∨ KS i.toNat < 0 by omega) with y | y
      · exact y
      · have : rdAt RP RS rn k (KS i.toNat) = -1 := if_neg (by omega)
        omega
    · rcases (show 0 ≤ KS (i - 1).toNat ∨ KS (i - 1).toNat < 0 by omega) with y | y
      · exact y
      · have : rdAt RP RS rn k (KS (i - 1).toNat) = -1 := if_neg (by omega)
        omega
theorem rel_best (h : GK KS KB KE KZ KV kn kw sn Cd Kp) (hr : GR RP RS rn nr Fo) (hc : CR KS kn RP RS rn) (hP : ∀ j, -1000 ≤ PW j ∧ PW j ≤ 1000) : bsI (rkC KS kn RP RS rn PW) rn.toNat = bsI (rkM Cd sn Fo PW) nr.toNat := by
  rw [hr.2.1]
  exact bsI_c (fun k k0 k1 => rel_rank h hr hc hP ⟨k0, by omega⟩)
theorem rel_flR (h : GK KS KB KE KZ KV kn kw sn Cd Kp) (hr : GR RP RS rn nr Fo) (hc : CR KS kn RP RS rn) : flR Cd sn Fo nr := by
  obtain ⟨⟨g1, g2, g3, g4, g5, g6, g7⟩, k1, k2, k3, -⟩ := id h
  intro k i k0 k1' i0 i1 z
  have e := k3 i i0 (by omega)
  rw [e] at z ⊢
  have q := hc k i k0 (by have := hr.2.1; omega) i0 (by omega) z
  rw [hr.2.2.1 k _ k0 (by have := hr.2.1; omega) z (g3 _).2, enc_p q]
  omega
theorem rel_hint (h : GK KS KB KE KZ KV kn kw sn Cd Kp) (hr : GR RP RS rn nr Fo) (hc : CR KS kn RP RS rn) :
    (if hiC KZ KV RP RS rn < 26 then hiC KZ KV RP RS rn else -1) = (if 0 < nr ∧ hiM Kp Cd sn Fo nr < 26 then hiM Kp Cd sn Fo nr else -1) ∧
    GK KS KB KE KZ (if hiC KZ KV RP RS rn < 26 then uI KV (hiC KZ KV RP RS rn).toNat (cmP RP RS rn (hiC KZ KV RP RS rn)) else KV) kn kw sn Cd (if 0 < nr ∧ hiM Kp Cd sn Fo nr < 26 then uI Kp (hiM Kp Cd sn Fo nr).toNat (Fo (hiM Kp Cd sn Fo nr).toNat) else Kp) := by
  obtain ⟨⟨g1, g2, g3, g4, g5, g6, g7⟩, k1, k2, k3, k4, k5, k6, k7⟩ := id h
  have hrr := hr.1.1.1
  have hnr := hr.2.1
  rcases (show rn = 0 ∨ 0 < rn by omega) with c0 | c0
  · have e : hiC KZ KV RP RS rn = 26 := lst_no (fun j _ _ z => z.2 (by
      unfold cmP
      rw [ifP_t (fun k a b => by omega)]
      exact if_neg (by omega)))
    rw [e, if_neg (by omega), if_neg (by omega), if_neg (by omega), if_neg (by omega)]
    exact ⟨rfl, h⟩
  · have key : ∀ n : Int, 0 ≤ n → n < 26 → (((¬ ctK KZ n = 0 ∧ kpAt KV n = -1) ∧ ¬ cmP RP RS rn n = -1) ↔ ((Kp n.toNat = 0 ∧ inM Cd sn n) ∧ ∀ k : Int, 1 ≤ k → k < nr → Fo (26 * k + n).toNat = Fo n.toNat)) := by
      intro n n0 n1
      have a1 : ¬ ctK KZ n = 0 ↔ inM Cd sn n := by
        rw [← k6 n n0 n1]
        unfold ctK
        split <;> omega
      have a2 : kpAt KV n = -1 ↔ Kp n.toNat = 0 := by
        rw [show kpAt KV n = KV n.toNat from if_pos ⟨n0, n1⟩, k5 n n0 n1]
        exact (enc_0 (g7 _)).symm
      have fr : ∀ k : Int, 0 ≤ k → k < rn → Fo (26 * k + n).toNat = enc (rdAt RP RS rn k n) := fun k y0 y1 => by
        rw [rdAt_row RP RS ⟨y0, y1⟩ ⟨n0, n1⟩]; exact hr.2.2.1 k n y0 y1 n0 n1
      have f0 : Fo n.toNat = enc (rdAt RP RS rn 0 n) := by
        have := fr 0 (Int.le_refl 0) c0
        rwa [show 26 * (0 : Int) + n = n from by omega] at this
      have a3 : (∀ k : Int, 1 ≤ k → k < nr → Fo (26 * k + n).toNat = Fo n.toNat) ↔ (∀ k, 1 ≤ k → k < rn → rdAt RP RS rn k n = rdAt RP RS rn 0 n) := by
        constructor
        · intro z k y0 y1
          have q := z k y0 (by omega)
          rw [fr k (by omega) y1, f0] at q
          exact (enc_eq (rdAt_r hr.1.1 k n) (rdAt_r hr.1.1 0 n)).mp q
        · intro z k y0 y1
          rw [fr k (by omega) (by omega), f0, z k y0 (by omega)]
      rw [a1, a2, a3]
      constructor
      · intro ⟨⟨b1, b2⟩, b3⟩
        refine ⟨⟨b2, b1⟩, Classical.byContradiction fun y => b3 ?_⟩
        unfold cmP
        rw [ifP_f y]
      · intro ⟨⟨b1, b2⟩, b3⟩
        refine ⟨⟨b2, b1⟩, ?_⟩
        unfold cmP
        rw [ifP_t b3, rdAt_row RP RS ⟨Int.le_refl 0, c0⟩ ⟨n0, n1⟩]
        obtain ⟨i, i0, i1, i2⟩ := b2
        have e := k3 i i0 (by omega)
        have q := hc 0 i (Int.le_refl 0) c0 i0 (by omega) (by omega)
        rw [← e, i2] at q
        omega
    have e : hiC KZ KV RP RS rn = hiM Kp Cd sn Fo nr := lst_c key
    rw [e]
    by_cases c : hiM Kp Cd sn Fo nr < 26
    · have cc : 0 < nr ∧ hiM Kp Cd sn Fo nr < 26 := ⟨by omega, c⟩
      rw [if_pos c, if_pos cc, if_pos c, if_pos cc]
      refine ⟨rfl, ?_⟩
      obtain ⟨p0, p1⟩ : 0 ≤ hiM Kp Cd sn Fo nr ∧ ((Kp (hiM Kp Cd sn Fo nr).toNat = 0 ∧ inM Cd sn (hiM Kp Cd sn Fo nr)) ∧ ∀ k : Int, 1 ≤ k → k < nr → Fo (26 * k + hiM Kp Cd sn Fo nr).toNat = Fo (hiM Kp Cd sn Fo nr).toNat) := by
        unfold hiM at *
        rcases lst_sp (fun n : Int => (Kp n.toNat = 0 ∧ inM Cd sn n) ∧ ∀ k : Int, 1 ≤ k → k < nr → Fo (26 * k + n).toNat = Fo n.toNat) 26 with ⟨y1, y2, y3, -⟩ | ⟨y1, -⟩
        · exact ⟨y1, y3⟩
        · omega
      generalize hiM Kp Cd sn Fo nr = r at *
      have q1 := cmP_r hr.1.1 r
      have q2 : Fo r.toNat = enc (cmP RP RS rn r) := by
        have z := (key r p0 c).mpr p1
        have z2 := z.2
        unfold cmP at z2 ⊢
        by_cases y : ∀ k, 1 ≤ k → k < rn → rdAt RP RS rn k r = rdAt RP RS rn 0 r
        · rw [ifP_t y, rdAt_row RP RS ⟨Int.le_refl 0, c0⟩ ⟨p0, c⟩]
          have := hr.2.2.1 0 r (Int.le_refl 0) c0 p0 c
          rwa [show 26 * (0 : Int) + r = r from by omega] at this
        · rw [ifP_f y] at z2; exact absurd rfl z2
      refine ⟨⟨g1, g2, g3, g4, g5, g6, fun j => ?_⟩, k1, k2, k3, fun j => ?_, fun n n0 n1 => ?_, k6, k7⟩
      · have := g7 j; unfold uI; split <;> omega
      · have := k4 j; have := hr.2.2.2 r.toNat; unfold uI; split <;> omega
      · unfold uI
        by_cases y : n = r
        · rw [if_pos (by omega), if_pos (by omega)]; exact q2
        · rw [if_neg (by omega), if_neg (by omega)]; exact k5 n n0 n1
    · have cc : ¬ (0 < nr ∧ hiM Kp Cd sn Fo nr < 26) := fun z => c z.2
      rw [if_neg c, if_neg cc, if_neg c, if_neg cc]
      exact ⟨rfl, h⟩
theorem pt_b {Cd Bg Sz : Nat → Int} (hB : ∀ j, 0 ≤ Bg j ∧ Bg j ≤ 59) (hS : ∀ j, 0 ≤ Sz j ∧ Sz j ≤ 60) (n : Nat) : n ≤ 60 → (∀ j, 0 ≤ (ptM Cd Bg Sz n).2.1 j ∧ (ptM Cd Bg Sz n).2.1 j ≤ 59) ∧ (∀ j, 0 ≤ (ptM Cd Bg Sz n).2.2 j ∧ (ptM Cd Bg Sz n).2.2 j ≤ 60) ∧ 0 ≤ (ptM Cd Bg Sz n).1 ∧ (0 < n → 0 ≤ Cd ((n : Int) - 1).toNat → 1 ≤ (ptM Cd Bg Sz n).1 ∧ (ptM Cd Bg Sz n).2.2 ((ptM Cd Bg Sz n).1 - 1).toNat ≤ n) := by
  induction n with
  | zero => intro _; exact ⟨hB, hS, Int.le_refl 0, fun z => by omega⟩
  | succ n ih =>
    intro hn
    obtain ⟨a1, a2, a3, a4⟩ := ih (by omega)
    rw [ptM_1]
    by_cases c1 : Cd (n : Int).toNat < 0
    · rw [if_pos c1]
      refine ⟨a1, a2, a3, fun _ z => ?_⟩
      rw [show ((n + 1 : Nat) : Int) - 1 = n from by omega] at z
      omega
    · rw [if_neg c1]
      by_cases c2 : (n : Int) = 0 ∨ Cd ((n : Int) - 1).toNat < 0
      · rw [if_pos c2]
        refine ⟨fun j => ?_, fun j => ?_, by show 0 ≤ (ptM Cd Bg Sz n).1 + 1; omega, fun _ _ => ⟨by show 1 ≤ (ptM Cd Bg Sz n).1 + 1; omega, ?_⟩⟩
        · have := a1 j; show 0 ≤ uI _ _ _ j ∧ uI _ _ _ j ≤ 59; unfold uI; split <;> omega
        · have := a2 j
          show 0 ≤ uI (uI _ _ _) _ _ j ∧ uI (uI _ _ _) _ _ j ≤ 60
          rw [show ((ptM Cd Bg Sz n).1 + 1 - 1).toNat = (ptM Cd Bg Sz n).1.toNat from by omega, uI_uI, show uI (ptM Cd Bg Sz n).2.2 (ptM Cd Bg Sz n).1.toNat 0 (ptM Cd Bg Sz n).1.toNat = 0 from if_pos rfl]
          unfold uI
          split <;> omega
        · show uI (uI _ _ _) _ _ ((ptM Cd Bg Sz n).1 + 1 - 1).toNat ≤ _
          rw [show ((ptM Cd Bg Sz n).1 + 1 - 1).toNat = (ptM Cd Bg Sz n).1.toNat from by omega, uI_uI, show uI (ptM Cd Bg Sz n).2.2 (ptM Cd Bg Sz n).1.toNat 0 (ptM Cd Bg Sz n).1.toNat = 0 from if_pos rfl, show uI (ptM Cd Bg Sz n).2.2 (ptM Cd Bg Sz n).1.toNat (0 + 1) (ptM Cd Bg Sz n).1.toNat = 0 + 1 from if_pos rfl]
          omega
      · rw [if_neg c2]
        obtain ⟨b1, b2⟩ := a4 (by omega) (by omega)
        refine ⟨a1, fun j => ?_, a3, fun _ _ => ⟨b1, ?_⟩⟩
        · have := a2 j
          have := a2 ((ptM Cd Bg Sz n).1 - 1).toNat
          show 0 ≤ uI _ _ _ j ∧ uI _ _ _ j ≤ 60
          unfold uI
          split <;> omega
        · show uI _ _ _ ((ptM Cd Bg Sz n).1 - 1).toNat ≤ _
          rw [show uI (ptM Cd Bg Sz n).2.2 ((ptM Cd Bg Sz n).1 - 1).toNat ((ptM Cd Bg Sz n).2.2 ((ptM Cd Bg Sz n).1 - 1).toNat + 1) ((ptM Cd Bg Sz n).1 - 1).toNat = (ptM Cd Bg Sz n).2.2 ((ptM Cd Bg Sz n).1 - 1).toNat + 1 from if_pos rfl]
          omega
/-- what the reference's run wants of its parts -/
theorem rel_pt (h : GK KS KB KE KZ KV kn kw sn Cd Kp) (Bg Sz : Nat → Int) : (ptM Cd Bg Sz sn.toNat).1 = kw ∧ ∀ k : Int, 0 ≤ k → k < kw → (ptM Cd Bg Sz sn.toNat).2.1 k.toNat = KB k.toNat ∧ (ptM Cd Bg Sz sn.toNat).2.2 k.toNat = KE k.toNat := by
  obtain ⟨-, k1, -, k3, -, -, -, p1, -⟩ := id h
  rw [k1, show ptM Cd Bg Sz kn.toNat = ptM KS Bg Sz kn.toNat from ptM_c (fun i hi => by have := k3 i (by omega) (by omega); rwa [show (i : Int).toNat = i from by omega] at this)]
  exact p1 Bg Sz
end RELE
