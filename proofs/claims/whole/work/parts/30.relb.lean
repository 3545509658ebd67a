/-! THE RELATION: keyed shifts, breaks -/
section RELB
variable {WP WL WC : Nat → Int} {wn wk co : Int} {Rw : Nat → Int} {nw : Int} {Le Lt : Nat → Int} {XP Pl : Nat → Int} {xn np : Int}
theorem rel_keyed (h : GW WP WL WC wn wk co Rw nw Le Lt) (hx : GX XP xn np Pl) (a i : Int) : (if lnOf WL wn a ≤ 0 ∨ i < 0 then -1 else shL (sgAt XP xn i) (plAt WP WL wn a (i % lnOf WL wn a))) = (if (0 ≤ a ∧ a < nw) ∧ (0 ≤ i ∧ i < np) then 97 + (Pl i.toNat - 97 + (Lt (8 * a + i % Le a.toNat).toNat - 97)) % 26 else -1) := by
  have hln := h.ln a
  by_cases ca : 0 ≤ a ∧ a < wn
  · have e1 : lnOf WL wn a = WL a.toNat := if_pos ca
    have e2 := h.2.2.2.1 a ca.1 ca.2
    by_cases ci : 0 ≤ i
    · rw [if_neg (by omega)]
      have q1 := Int.emod_nonneg i (show lnOf WL wn a ≠ 0 from by omega)
      have q2 := Int.emod_lt_of_pos i (show 0 < lnOf WL wn a from by omega)
      by_cases cx : i < np
      · rw [if_pos ⟨by have := h.2.1; omega, ci, cx⟩]
        have p1 := h.pl q1 q2
        have e3 : plAt Lt Le nw a (i % lnOf WL wn a) = Lt (8 * a + i % Le a.toNat).toNat := by
          unfold plAt
          rw [hln, if_pos ⟨q1, q2⟩, e2.1, ← e1, show a * 8 + i % lnOf WL wn a = 8 * a + i % lnOf WL wn a from by omega]
        have p2 := plAt_r h.1 a (i % lnOf WL wn a)
        have x1 := hx.2.2.1 i ci (by have := hx.2.1; omega)
        have x2 := hx.1.2 i.toNat
        rw [← e3, p1.1, show sgAt XP xn i = XP i.toNat from if_pos (by have := hx.2.1; omega), x1]
        unfold shL leOf
        rw [if_neg (by omega), if_pos (by omega)]
        omega
      · rw [if_neg (by omega), show sgAt XP xn i = -1 from if_neg (by have := hx.2.1; omega)]
        rfl
    · rw [if_pos (by omega), if_neg (by omega)]
  · rw [if_pos (Or.inl (by rw [show lnOf WL wn a = 0 from if_neg ca]; omega)), if_neg (fun z => ca (by have := h.2.1; omega))]
theorem rel_st (h : GW WP WL WC wn wk co Rw nw Le Lt) (hx : GX XP xn np Pl) (a p : Int) : stB WP WL wn XP xn a p ↔ stB Lt Le nw Pl np a p := by
  have hln := h.ln a
  have hxn := hx.2.1
  unfold stB
  rw [hln, hxn]
  constructor
  · intro ⟨h1, h2, h3⟩
    refine ⟨h1, h2, fun i i0 i1 => ?_⟩
    have q := h3 i i0 i1
    rw [(h.pl (show 0 ≤ i - p by omega) (by omega)).1, ← q, show sgAt Pl xn i = Pl i.toNat from if_pos (by omega), show sgAt XP xn i = XP i.toNat from if_pos (by omega), hx.2.2.1 i (by omega) (by omega)]
  · intro ⟨h1, h2, h3⟩
    refine ⟨h1, h2, fun i i0 i1 => ?_⟩
    have q := h3 i i0 i1
    rw [(h.pl (show 0 ≤ i - p by omega) (by omega)).1, show sgAt Pl xn i = Pl i.toNat from if_pos (by omega), hx.2.2.1 i (by omega) (by omega)] at q
    rw [show sgAt XP xn i = XP i.toNat from if_pos (by omega)]
    omega
theorem rel_fb (h : GW WP WL WC wn wk co Rw nw Le Lt) (hx : GX XP xn np Pl) {F F' : Nat → Int} {a p : Int} (hF : 0 ≤ p → p + lnOf WL wn a ≤ xn → F (p + lnOf WL wn a).toNat = F' (p + lnOf WL wn a).toNat) : fbB F WP WL wn XP xn a p = fbB F' Lt Le nw Pl np a p := by
  have hs := rel_st h hx a p
  unfold fbB
  by_cases c : stB WP WL wn XP xn a p
  · rw [ifP_t c, ifP_t (hs.mp c), h.ln a]
    exact hF c.1 c.2.1
  · rw [ifP_f c, ifP_f (fun z => c (hs.mpr z))]
theorem rel_fw (h : GW WP WL WC wn wk co Rw nw Le Lt) (hx : GX XP xn np Pl) (BF Fw : Nat → Int) (k : Nat) : ∀ p : Int, 0 ≤ p → p ≤ xn → xn - p ≤ k → fwZ BF WP WL wn XP xn p.toNat = fwZ Fw Lt Le nw Pl np p.toNat := by
  have hxn := hx.2.1
  have hx0 := hx.1.1
  induction k with
  | zero =>
    intro p h0 h1 h2
    rw [show p = xn from by omega, fwZ_e hx0.1, ← hxn, fwZ_e (by omega)]
  | succ k ih =>
    intro p h0 h1 h2
    rcases (show p = xn ∨ p < xn by omega) with c | c
    · rw [c, fwZ_e hx0.1, ← hxn, fwZ_e (by omega)]
    · rw [fwZ_at ⟨h0, c⟩ h.l1, fwZ_at ⟨h0, by omega⟩ h.l2, h.2.1]
      refine mnB_c (fun i i0 i1 => ?_)
      have q := rel_fb (F := fwZ BF WP WL wn XP xn) (F' := fwZ Fw Lt Le nw Pl np) (a := i) (p := p) h hx (fun z0 z1 => ih _ (by have := h.l1 i i0 (by omega); omega) z1 (by have := h.l1 i i0 (by omega); omega))
      rw [h.2.1] at q
      exact q
theorem rel_breaks (h : GW WP WL WC wn wk co Rw nw Le Lt) (hx : GX XP xn np Pl) (BF Fw : Nat → Int) {p : Int} (h0 : 0 ≤ p) (h1 : p ≤ xn) : fwZ BF WP WL wn XP xn p.toNat = fwZ Fw Lt Le nw Pl np p.toNat := rel_fw h hx BF Fw (xn - p).toNat p h0 h1 (by omega)
theorem rel_lw (h : GW WP WL WC wn wk co Rw nw Le Lt) (hx : GX XP xn np Pl) (BF Fw : Nat → Int) {p : Int} (h0 : 0 ≤ p) (h1 : p ≤ xn) : lwB (fwZ BF WP WL wn XP xn) WP WL wn XP xn p = lwB (fwZ Fw Lt Le nw Pl np) Lt Le nw Pl np p := by
  have e : lwQ (fwZ BF WP WL wn XP xn) WP WL wn XP xn p = lwQ (fwZ Fw Lt Le nw Pl np) Lt Le nw Pl np p := by
    unfold lwQ
    rw [rel_breaks h hx BF Fw h0 h1]
    have hw := h.2.1
    rw [show lst (fun w => ¬ fbB (fwZ Fw Lt Le nw Pl np) Lt Le nw Pl np w p = -1 ∧ fbB (fwZ Fw Lt Le nw Pl np) Lt Le nw Pl np w p + 1 = fwZ Fw Lt Le nw Pl np p.toNat) nw = lst (fun w => ¬ fbB (fwZ Fw Lt Le nw Pl np) Lt Le nw Pl np w p = -1 ∧ fbB (fwZ Fw Lt Le nw Pl np) Lt Le nw Pl np w p + 1 = fwZ Fw Lt Le nw Pl np p.toNat) wn from congrArg _ hw]
    refine lst_c (fun j j0 j1 => ?_)
    rw [rel_fb (F := fwZ BF WP WL wn XP xn) (F' := fwZ Fw Lt Le nw Pl np) (a := j) (p := p) h hx (fun z0 z1 => rel_breaks h hx BF Fw (by have := h.l1 j j0 j1; omega) z1)]
  unfold lwB
  rw [e, h.2.1]
theorem rel_po (h : GW WP WL WC wn wk co Rw nw Le Lt) (hx : GX XP xn np Pl) (BF Fw : Nat → Int) (i : Nat) : poB (fwZ BF WP WL wn XP xn) WP WL wn XP xn i = poB (fwZ Fw Lt Le nw Pl np) Lt Le nw Pl np i := by
  induction i with
  | zero => rfl
  | succ i ih =>
    have q := poB_r h.1 (fwZ BF WP WL wn XP xn) XP hx.1.1 i
    show poB (fwZ BF WP WL wn XP xn) WP WL wn XP xn i + lnOf WL wn (lwB (fwZ BF WP WL wn XP xn) WP WL wn XP xn (poB (fwZ BF WP WL wn XP xn) WP WL wn XP xn i)) = poB (fwZ Fw Lt Le nw Pl np) Lt Le nw Pl np i + lnOf Le nw (lwB (fwZ Fw Lt Le nw Pl np) Lt Le nw Pl np (poB (fwZ Fw Lt Le nw Pl np) Lt Le nw Pl np i))
    rw [rel_lw h hx BF Fw q.1 q.2, h.ln, ih]
theorem rel_wd (h : GW WP WL WC wn wk co Rw nw Le Lt) (hx : GX XP xn np Pl) (BF Fw : Nat → Int) (k : Int) : wdB BF WP WL wn XP xn k = wdB Fw Lt Le nw Pl np k := by
  have e0 := rel_breaks h hx BF Fw (p := 0) (Int.le_refl 0) hx.1.1.1
  have q := poB_r h.1 (fwZ BF WP WL wn XP xn) XP hx.1.1 k.toNat
  unfold wdB
  rw [e0, rel_lw h hx BF Fw q.1 q.2, rel_po h hx BF Fw]
end RELB
