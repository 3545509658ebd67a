/-! THE RELATION between the class's state and the reference's: words, plain, weights -/
def enc (v : Int) : Int := if v = -1 then 0 else v + 97
theorem enc_r {v : Int} (h : -1 ≤ v ∧ v < 26) : 0 ≤ enc v ∧ enc v ≤ 122 := by unfold enc; split <;> omega
theorem enc_lt {a b : Int} (ha : -1 ≤ a ∧ a < 26) (hb : -1 ≤ b ∧ b < 26) : enc a < enc b ↔ a < b := by unfold enc; split <;> split <;> omega
theorem enc_eq {a b : Int} (ha : -1 ≤ a ∧ a < 26) (hb : -1 ≤ b ∧ b < 26) : enc a = enc b ↔ a = b := by unfold enc; split <;> split <;> omega
theorem enc_0 {a : Int} (ha : -1 ≤ a ∧ a < 26) : enc a = 0 ↔ a = -1 := by unfold enc; split <;> omega
theorem enc_p {a : Int} (ha : 0 ≤ a) : enc a = a + 97 := by unfold enc; rw [if_neg (by omega)]
theorem pl_ok (a : Int) : (0 ≤ plOf a ∧ plOf a < 26) ↔ (97 ≤ a ∧ a ≤ 122) := by unfold plOf; split <;> omega
theorem pl_v {a : Int} (h : 97 ≤ a ∧ a ≤ 122) : plOf a = a - 97 := by unfold plOf; rw [if_pos (by omega)]
def GW (WP WL WC : Nat → Int) (wn wk co : Int) (Rw : Nat → Int) (nw : Int) (Le Lt : Nat → Int) : Prop :=
  IW WP WL WC wn wk ∧ nw = wn ∧ co = wk ∧ (∀ a : Int, 0 ≤ a → a < wn → Le a.toNat = WL a.toNat ∧ 1 ≤ WL a.toNat) ∧ (∀ a j : Int, 0 ≤ a → a < wn → 0 ≤ j → j < WL a.toNat → Lt (8 * a + j).toNat = WP (a * 8 + j).toNat + 97 ∧ 0 ≤ WP (a * 8 + j).toNat) ∧ (∀ i : Int, 0 ≤ i → i < wk → Rw i.toNat = WC i.toNat + 97) ∧ (∀ j, 0 ≤ Rw j ∧ Rw j ≤ 122) ∧ (∀ j, 0 ≤ Le j ∧ Le j ≤ 8) ∧ ∀ j, 0 ≤ Lt j ∧ Lt j ≤ 122
section REL
variable {WP WL WC : Nat → Int} {wn wk co : Int} {Rw : Nat → Int} {nw : Int} {Le Lt : Nat → Int}
theorem GW.ln (h : GW WP WL WC wn wk co Rw nw Le Lt) (a : Int) : lnOf Le nw a = lnOf WL wn a := by
  obtain ⟨-, h1, -, h2, -⟩ := h
  unfold lnOf
  rw [h1]
  split
  · rename_i c; exact (h2 a c.1 c.2).1
  · rfl
theorem GW.l1 (h : GW WP WL WC wn wk co Rw nw Le Lt) : ∀ a, 0 ≤ a → a < wn → 1 ≤ lnOf WL wn a := by
  intro a h1 h2
  rw [show lnOf WL wn a = WL a.toNat from if_pos ⟨h1, h2⟩]
  exact (h.2.2.2.1 a h1 h2).2
theorem GW.l2 (h : GW WP WL WC wn wk co Rw nw Le Lt) : ∀ a, 0 ≤ a → a < nw → 1 ≤ lnOf Le nw a := by
  intro a h1 h2
  rw [h.ln]
  exact h.l1 a h1 (by have := h.2.1; omega)
theorem GW.pl (h : GW WP WL WC wn wk co Rw nw Le Lt) {a j : Int} (h0 : 0 ≤ j) (h1 : j < lnOf WL wn a) : plAt Lt Le nw a j = plAt WP WL wn a j + 97 ∧ 0 ≤ plAt WP WL wn a j := by
  have hin := lnOf_in (WL := WL) (wn := wn) (a := a) (by omega)
  have e : lnOf WL wn a = WL a.toNat := if_pos hin
  have q := h.2.2.2.2.1 a j hin.1 hin.2 h0 (by omega)
  unfold plAt
  rw [h.ln, if_pos ⟨h0, h1⟩, if_pos ⟨h0, h1⟩, show a * 8 + j = 8 * a + j from by omega]
  rw [show a * 8 + j = 8 * a + j from by omega] at q
  exact q
theorem GW.pn (h : GW WP WL WC wn wk co Rw nw Le Lt) : ∀ a j, 0 ≤ j → j < lnOf WL wn a → 0 ≤ plAt WP WL wn a j := fun a j h0 h1 => (h.pl h0 h1).2
theorem GW.isc (h : GW WP WL WC wn wk co Rw nw Le Lt) {a : Int} : isC WP WL WC wn wk a ↔ isC Lt Le Rw nw co a := by
  have hl := h.ln a
  have hc := h.2.2.1
  unfold isC
  rw [hl, hc]
  constructor
  · intro ⟨e, q⟩
    refine ⟨e, fun i h0 h1 => ?_⟩
    rw [(h.pl h0 (by omega)).1, h.2.2.2.2.2.1 i h0 h1, q i h0 h1]
  · intro ⟨e, q⟩
    refine ⟨e, fun i h0 h1 => ?_⟩
    have z := q i h0 h1
    rw [(h.pl h0 (by omega)).1, h.2.2.2.2.2.1 i h0 h1] at z
    omega
theorem GW.fd (h : GW WP WL WC wn wk co Rw nw Le Lt) : fdC Lt Le Rw nw co = fdC WP WL WC wn wk := by
  unfold fdC
  rw [h.2.1]
  refine lst_c (fun j _ _ => ?_)
  have q := (h.isc (a := j)).symm
  rw [h.2.1] at q
  exact q
theorem GW.nr (h : GW WP WL WC wn wk co Rw nw Le Lt) : nrC Lt Le Rw nw co = nrC WP WL WC wn wk := by
  unfold nrC
  rw [h.fd, h.2.1]
theorem GW.unit (h : GW WP WL WC wn wk co Rw nw Le Lt) (a : Int) : (if (0 ≤ plOf a ∧ plOf a < 26) ∧ wk < 8 then (1 : Int) else 0) = (if (97 ≤ a ∧ a ≤ 122) ∧ ¬ co = 8 then (1 : Int) else 0) ∧
    GW WP WL (if (0 ≤ plOf a ∧ plOf a < 26) ∧ wk < 8 then uI WC wk.toNat (plOf a) else WC) wn (if (0 ≤ plOf a ∧ plOf a < 26) ∧ wk < 8 then wk + 1 else wk) (if (97 ≤ a ∧ a ≤ 122) ∧ ¬ co = 8 then co + 1 else co) (if (97 ≤ a ∧ a ≤ 122) ∧ ¬ co = 8 then uI Rw co.toNat a else Rw) nw Le Lt := by
  have hp := pl_ok a
  obtain ⟨⟨g1, g2, g3, g4, g5⟩, h1, h2, h3, h4, h5, h6, h7, h8⟩ := id h
  by_cases c : (97 ≤ a ∧ a ≤ 122) ∧ ¬ co = 8
  · have c2 : (0 ≤ plOf a ∧ plOf a < 26) ∧ wk < 8 := ⟨hp.mpr c.1, by omega⟩
    simp only [if_pos c, if_pos c2]
    refine ⟨trivial, ⟨g1, by omega, g3, g4, fun j => ?_⟩, h1, by omega, h3, h4, fun i i0 i1 => ?_, fun j => ?_, h7, h8⟩
    · have := g5 j; unfold uI; split <;> omega
    · unfold uI
      by_cases e : i = wk
      · rw [if_pos (by omega), if_pos (by omega), pl_v c.1]; omega
      · rw [if_neg (by omega), if_neg (by omega)]; exact h5 i i0 (by omega)
    · have := h6 j; unfold uI; split <;> omega
  · have c2 : ¬ ((0 ≤ plOf a ∧ plOf a < 26) ∧ wk < 8) := fun z => c ⟨hp.mp z.1, by omega⟩
    simp only [if_neg c, if_neg c2]
    exact ⟨trivial, h⟩
theorem GW.word (h : GW WP WL WC wn wk co Rw nw Le Lt) : (if wk = 0 then -1 else nrC WP WL WC wn wk) = (if co = 0 then -1 else nrC Lt Le Rw nw co) ∧
    GW (if wk = 0 then WP else wpC WP WL WC wn wk) (if wk = 0 then WL else wlC WP WL WC wn wk) WC (if wk = 0 then wn else wnC WP WL WC wn wk) 0 0 Rw (if co = 0 then nw else wnC Lt Le Rw nw co) (if co = 0 then Le else wlC Lt Le Rw nw co) (if co = 0 then Lt else wpC Lt Le Rw nw co) := by
  have hfd := h.fd
  have hnr := h.nr
  obtain ⟨⟨g1, g2, g3, g4, g5⟩, h1, h2, h3, h4, h5, h6, h7, h8⟩ := id h
  have hz : GW WP WL WC wn 0 0 Rw nw Le Lt := ⟨⟨g1, by omega, g3, g4, g5⟩, h1, rfl, h3, h4, fun i _ _ => by omega, h6, h7, h8⟩
  by_cases c : wk = 0
  · rw [if_pos c, if_pos (by omega), if_pos c, if_pos c, if_pos c, if_pos (by omega), if_pos (by omega), if_pos (by omega)]
    exact ⟨rfl, hz⟩
  · rw [if_neg c, if_neg (by omega), if_neg c, if_neg c, if_neg c, if_neg (by omega), if_neg (by omega), if_neg (by omega)]
    refine ⟨hnr.symm, ?_⟩
    have hr := fdC_r (WP := WP) (WL := WL) (WC := WC) (wn := wn) (wk := wk) g1.1
    by_cases c1 : fdC WP WL WC wn wk < wn
    · have c2 : fdC Lt Le Rw nw co < nw := by rw [hfd]; omega
      unfold wpC wlC wnC
      rw [if_pos c1, if_pos c1, if_pos c1, if_pos c2, if_pos c2, if_pos c2]
      exact hz
    · have c2 : ¬ fdC Lt Le Rw nw co < nw := by rw [hfd]; omega
      unfold wpC wlC wnC
      rw [if_neg c1, if_neg c1, if_neg c1, if_neg c2, if_neg c2, if_neg c2]
      by_cases c3 : wn < 60
      · have c4 : nw < 60 := by omega
        rw [if_pos c3, if_pos c3, if_pos c3, if_pos c4, if_pos c4, if_pos c4]
        refine ⟨⟨by omega, by omega, fun j => ?_, fun j => ?_, g5⟩, by omega, rfl, fun a a0 a1 => ?_, fun a j a0 a1 j0 j1 => ?_, fun i _ _ => by omega, h6, fun j => ?_, fun j => ?_⟩
        · have := g3 j; unfold uI; split <;> omega
        · have := g4 j
          have := g5 ((0 : Int).toNat + (j - (wn * 8).toNat))
          unfold va_cpy
          split <;> omega
        · unfold uI
          by_cases e : a = wn
          · rw [if_pos (by omega), if_pos (by omega)]; omega
          · rw [if_neg (by omega), if_neg (by omega)]; exact h3 a a0 (by omega)
        · unfold uI at j1
          by_cases e : a = wn
          · rw [if_pos (by omega)] at j1
            have q1 : va_cpy Rw Lt (0 : Int).toNat (nw * 8).toNat co.toNat (8 * a + j).toNat = Rw j.toNat := by
              rw [pk_cpy_in (by omega) (by omega)]; congr 1; omega
            have q2 : va_cpy WC WP (0 : Int).toNat (wn * 8).toNat wk.toNat (a * 8 + j).toNat = WC j.toNat := by
              rw [pk_cpy_in (by omega) (by omega)]; congr 1; omega
            rw [q1, q2]
            exact ⟨h5 j j0 j1, (g5 _).1⟩
          · rw [if_neg (by omega)] at j1
            have q0 := g3 a.toNat
            rw [pk_cpy_out (by omega), pk_cpy_out (by omega)]
            exact h4 a j a0 (by omega) j0 j1
        · have := h7 j; unfold uI; split <;> omega
        · have := h8 j
          have := h6 ((0 : Int).toNat + (j - (nw * 8).toNat))
          unfold va_cpy
          split <;> omega
      · have c4 : ¬ nw < 60 := by omega
        rw [if_neg c3, if_neg c3, if_neg c3, if_neg c4, if_neg c4, if_neg c4]
        exact hz
end REL
/-- the plain -/
def GX (XP : Nat → Int) (xn np : Int) (Pl : Nat → Int) : Prop := IX XP xn ∧ np = xn ∧ (∀ i : Int, 0 ≤ i → i < xn → Pl i.toNat = XP i.toNat + 97) ∧ ∀ j, 0 ≤ Pl j ∧ Pl j ≤ 122
theorem GX.q {XP Pl : Nat → Int} {xn np : Int} (h : GX XP xn np Pl) : ∀ i : Int, 0 ≤ i → i < np → 97 ≤ Pl i.toNat := by
  intro i h0 h1
  have := h.2.2.1 i h0 (by have := h.2.1; omega)
  have := h.1.2 i.toNat
  omega
theorem GX.plain {XP Pl : Nat → Int} {xn np : Int} (h : GX XP xn np Pl) (a : Int) : (if (0 ≤ plOf a ∧ plOf a < 26) ∧ xn < 60 then (1 : Int) else 0) = (if (97 ≤ a ∧ a ≤ 122) ∧ ¬ np = 60 then (1 : Int) else 0) ∧
    GX (if (0 ≤ plOf a ∧ plOf a < 26) ∧ xn < 60 then uI XP xn.toNat (plOf a) else XP) (if (0 ≤ plOf a ∧ plOf a < 26) ∧ xn < 60 then xn + 1 else xn) (if (97 ≤ a ∧ a ≤ 122) ∧ ¬ np = 60 then np + 1 else np) (if (97 ≤ a ∧ a ≤ 122) ∧ ¬ np = 60 then uI Pl np.toNat a else Pl) := by
  have hp := pl_ok a
  obtain ⟨⟨g1, g2⟩, h1, h2, h3⟩ := id h
  by_cases c : (97 ≤ a ∧ a ≤ 122) ∧ ¬ np = 60
  · have c2 : (0 ≤ plOf a ∧ plOf a < 26) ∧ xn < 60 := ⟨hp.mpr c.1, by omega⟩
    simp only [if_pos c, if_pos c2]
    refine ⟨trivial, ⟨by omega, fun j => ?_⟩, by omega, fun i i0 i1 => ?_, fun j => ?_⟩
    · have := g2 j; unfold uI; split <;> omega
    · unfold uI
      by_cases e : i = xn
      · rw [if_pos (by omega), if_pos (by omega), pl_v c.1]; omega
      · rw [if_neg (by omega), if_neg (by omega)]; exact h2 i i0 (by omega)
    · have := h3 j; unfold uI; split <;> omega
  · have c2 : ¬ ((0 ≤ plOf a ∧ plOf a < 26) ∧ xn < 60) := fun z => c ⟨hp.mp z.1, by omega⟩
    simp only [if_neg c, if_neg c2]
    exact ⟨trivial, h⟩
theorem GX.shifted {XP Pl : Nat → Int} {xn np : Int} (h : GX XP xn np Pl) (a i : Int) : shL (sgAt XP xn i) (a % 26) = if 0 ≤ i ∧ i < np then 97 + (Pl i.toNat - 97 + a) % 26 else -1 := by
  obtain ⟨⟨g1, g2⟩, h1, h2, h3⟩ := id h
  by_cases c : 0 ≤ i ∧ i < np
  · have q := h2 i c.1 (by omega)
    have q2 := g2 i.toNat
    rw [if_pos c, show sgAt XP xn i = XP i.toNat from if_pos (by omega)]
    unfold shL leOf
    rw [if_neg (by omega), if_pos (by omega), q]
    omega
  · rw [if_neg c, show sgAt XP xn i = -1 from if_neg (by omega)]
    rfl
theorem GX.best {XP Pl PW : Nat → Int} {xn np : Int} (h : GX XP xn np Pl) : bsI (shC PW XP xn) 26 = bsI (shC PW (fun j => Pl j - 97) np) 26 := by
  obtain ⟨⟨g1, g2⟩, h1, h2, h3⟩ := id h
  refine bsI_c (fun t t0 t1 => ?_)
  unfold shC
  rw [h1]
  refine smI_c (fun i i0 i1 => ?_)
  have e : ∀ k : Int, 0 ≤ k → k < xn → sgAt (fun j => Pl j - 97) xn k = sgAt XP xn k := by
    intro k k0 k1
    rw [show sgAt (fun j => Pl j - 97) xn k = Pl k.toNat - 97 from if_pos ⟨k0, k1⟩, show sgAt XP xn k = XP k.toNat from if_pos ⟨k0, k1⟩, h2 k k0 k1]
    omega
  unfold shG
  rw [e i (by omega) (by omega), e (i - 1) (by omega) (by omega)]
