/-! PURE: order of readings, the offer, give and take back -/
theorem lx_tri (f g : Int → Int) : lxB f g ∨ (∀ n, 0 ≤ n → n < 26 → f n = g n) ∨ lxB g f := by
  rcases lst_sp (fun n => ¬ f n = g n) 26 with ⟨h1, h2, h3, h4⟩ | ⟨h1, h2⟩
  · have e : ∀ n, 0 ≤ n → n < lst (fun n => ¬ f n = g n) 26 → f n = g n := fun n a b => Classical.byContradiction fun q => h4 n a b q
    rcases Int.lt_trichotomy (f (lst (fun n => ¬ f n = g n) 26)) (g (lst (fun n => ¬ f n = g n) 26)) with h | h | h
    · exact Or.inl ⟨_, h1, h2, h, e⟩
    · exact absurd h h3
    · exact Or.inr (Or.inr ⟨_, h1, h2, h, fun n a b => (e n a b).symm⟩)
  · exact Or.inr (Or.inl fun n a b => Classical.byContradiction fun q => h2 n a b q)
theorem lx_trans {f g h : Int → Int} (h1 : lxB f g) (h2 : lxB g h) : lxB f h := by
  obtain ⟨n, a1, a2, a3, a4⟩ := h1
  obtain ⟨k, b1, b2, b3, b4⟩ := h2
  rcases Int.lt_trichotomy n k with c | c | c
  · exact ⟨n, a1, a2, by rw [← b4 n a1 c]; exact a3, fun j p q => by rw [a4 j p q, b4 j p (by omega)]⟩
  · subst c
    exact ⟨n, a1, a2, by omega, fun j p q => by rw [a4 j p q, b4 j p q]⟩
  · exact ⟨k, b1, b2, by rw [a4 k b1 c]; exact b3, fun j p q => by rw [a4 j p (by omega), b4 j p q]⟩
theorem lx_asy {f g : Int → Int} (h : lxB f g) : ¬ lxB g f := fun h2 => by
  obtain ⟨n, a1, a2, a3, a4⟩ := lx_trans h h2
  omega
theorem lx_ce {f f' g g' : Int → Int} (hf : ∀ n, 0 ≤ n → n < 26 → f n = f' n) (hg : ∀ n, 0 ≤ n → n < 26 → g n = g' n) (h : lxB f g) : lxB f' g' := by
  obtain ⟨n, a1, a2, a3, a4⟩ := h
  exact ⟨n, a1, a2, by rw [← hf n a1 a2, ← hg n a1 a2]; exact a3, fun k p q => by rw [← hf k p (by omega), ← hg k p (by omega)]; exact a4 k p q⟩
theorem lx_le {f g h : Int → Int} (h1 : ¬ lxB g f) (h2 : lxB g h) : lxB f h := by
  rcases lx_tri f g with c | c | c
  · exact lx_trans c h2
  · exact lx_ce (fun n a b => (c n a b).symm) (fun _ _ _ => rfl) h2
  · exact absurd c h1
def rowR (RP RS : Nat → Int) (k n : Int) : Int := RP (RS k.toNat * 26 + n).toNat
/-- the readings kept stand in order, each in a slot of its own -/
def IRR (RP RS : Nat → Int) (rn : Int) : Prop := IR RP RS rn ∧ (∀ i j, 0 ≤ i → i < j → j < rn → ¬ RS i.toNat = RS j.toNat) ∧ (rn < 200 → ∀ i, 0 ≤ i → i < rn → RS i.toNat < rn) ∧ ∀ i j, 0 ≤ i → i < j → j < rn → ¬ lxB (rowR RP RS j) (rowR RP RS i)
theorem IRR.mono {RP RS : Nat → Int} {rn : Int} (h : IRR RP RS rn) (SP : Nat → Int) : monR RP RS SP rn := by
  intro i j h0 hij hj hA
  rcases (show i = j ∨ i < j by omega) with c | c
  · rw [c]; exact hA
  · exact lx_le (h.2.2.2 i j h0 c hj) hA
theorem IRR.nil {RP RS : Nat → Int} {rn : Int} (h : IR RP RS rn) : IRR RP RS 0 := ⟨⟨by omega, h.2⟩, fun i j _ _ _ => by omega, fun _ i _ _ => by omega, fun i j _ _ _ => by omega⟩
/-- what the rows are when one has come in at the place k -/
theorem off_rows {RP RS SP : Nat → Int} {rn : Int} (h : IRR RP RS rn) (hk : psR RP RS SP rn < 200) :
    ∀ j, 0 ≤ j → j < onR RP RS SP rn → ∀ n, 0 ≤ n → n < 26 → rowR (opR RP RS SP rn) (osR RP RS SP rn) j n = if j < psR RP RS SP rn then rowR RP RS j n else if j = psR RP RS SP rn then SP n.toNat else rowR RP RS (j - 1) n := by
  intro j hj1 hj2 n hn1 hn2
  obtain ⟨⟨hrn, hRP, hRS⟩, hinj, hlow, -⟩ := h
  have hp := psR_r (RP := RP) (RS := RS) (SP := SP) hrn.1
  have hla : laR rn ≤ 199 ∧ (laR rn = rn ∨ (laR rn = 199 ∧ rn = 200)) ∧ psR RP RS SP rn ≤ laR rn := by unfold laR; split <;> omega
  have e1 : onR RP RS SP rn = laR rn + 1 := if_pos hk
  rw [e1] at hj2
  have e2 : osR RP RS SP rn = uI (va_cpy RS RS (psR RP RS SP rn).toNat (psR RP RS SP rn + 1).toNat (laR rn - psR RP RS SP rn).toNat) (psR RP RS SP rn).toNat (slR RS rn) := if_pos hk
  have e3 : opR RP RS SP rn = va_cpy SP RP (0 : Int).toNat (slR RS rn * 26).toNat (26 : Int).toNat := if_pos hk
  have hsl : 0 ≤ slR RS rn ∧ slR RS rn < 200 := by
    have := hRS (199 : Int).toNat
    unfold slR
    split <;> omega
  have hne : ∀ i, 0 ≤ i → i < rn → i < 199 → ¬ RS i.toNat = slR RS rn := by
    intro i h0 h1 h2
    unfold slR
    split
    · exact hinj i 199 h0 h2 (by omega)
    · have := hlow (by omega) i h0 h1
      omega
  have hold : ∀ z : Int, 0 ≤ z → ¬ z = slR RS rn → opR RP RS SP rn (z * 26 + n).toNat = RP (z * 26 + n).toNat := by
    intro z hz0 hz
    rw [e3]
    refine pk_cpy_out ?_
    omega
  have hnew : opR RP RS SP rn (slR RS rn * 26 + n).toNat = SP n.toNat := by
    rw [e3, pk_cpy_in (by omega) (by omega)]
    congr 1
    omega
  unfold rowR
  split
  · rename_i c
    have z : osR RP RS SP rn j.toNat = RS j.toNat := by
      rw [e2]
      unfold uI
      rw [if_neg (by omega)]
      exact pk_cpy_out (by omega)
    rw [z]
    exact hold _ (hRS _).1 (hne j hj1 (by omega) (by omega))
  · split
    · rename_i c
      have z : osR RP RS SP rn j.toNat = slR RS rn := by
        rw [e2, c]
        unfold uI
        rw [if_pos rfl]
      rw [z]
      exact hnew
    · rename_i c1 c2
      have z : osR RP RS SP rn j.toNat = RS (j - 1).toNat := by
        rw [e2]
        unfold uI
        rw [if_neg (by omega), pk_cpy_in (by omega) (by omega)]
        congr 1
        omega
      rw [z]
      exact hold _ (hRS _).1 (hne (j - 1) (by omega) (by omega) (by omega))
theorem off_keep {RP RS SP : Nat → Int} {rn : Int} (hk : ¬ psR RP RS SP rn < 200) : onR RP RS SP rn = rn ∧ opR RP RS SP rn = RP ∧ osR RP RS SP rn = RS := ⟨if_neg hk, if_neg hk, if_neg hk⟩
theorem off_n {RP RS SP : Nat → Int} {rn : Int} (h : IRR RP RS rn) : onR RP RS SP rn = if rn < 200 then rn + 1 else 200 := by
  have hp := psR_r (RP := RP) (RS := RS) (SP := SP) h.1.1.1
  have hrn := h.1.1
  by_cases hk : psR RP RS SP rn < 200
  · rw [show onR RP RS SP rn = laR rn + 1 from if_pos hk]
    unfold laR
    split <;> split <;> omega
  · rw [(off_keep hk).1, if_neg (by omega)]
    omega
theorem ps_lo {RP RS SP : Nat → Int} {rn : Int} {i : Int} (h0 : 0 ≤ i) (h1 : i < psR RP RS SP rn) (h2 : i < rn) : ahd RP RS SP i := by
  unfold psR at h1
  rcases lst_sp (fun k => ¬ ahd RP RS SP k) rn with ⟨-, -, -, h4⟩ | ⟨-, h4⟩
  · exact Classical.byContradiction fun q => h4 i h0 h1 q
  · exact Classical.byContradiction fun q => h4 i h0 h2 q
theorem ps_hi {RP RS SP : Nat → Int} {rn : Int} (hm : monR RP RS SP rn) {i : Int} (h1 : psR RP RS SP rn ≤ i) (h2 : i < rn) : ¬ ahd RP RS SP i := by
  intro hA
  unfold psR at h1
  rcases lst_sp (fun k => ¬ ahd RP RS SP k) rn with ⟨h3, h4, h5, -⟩ | ⟨h3, -⟩
  · exact h5 (hm _ i h3 h1 h2 hA)
  · omega
theorem off_inv {RP RS SP : Nat → Int} {rn : Int} (h : IRR RP RS rn) (hY : IY SP) : IRR (opR RP RS SP rn) (osR RP RS SP rn) (onR RP RS SP rn) := by
  by_cases hk : psR RP RS SP rn < 200
  · have hrows := off_rows h hk
    have hh := h
    have hm := h.mono SP
    obtain ⟨⟨hrn, hRP, hRS⟩, hinj, hlow, hsrt⟩ := h
    have hp := psR_r (RP := RP) (RS := RS) (SP := SP) hrn.1
    have hla : 0 ≤ laR rn ∧ laR rn ≤ 199 ∧ (laR rn = rn ∨ (laR rn = 199 ∧ rn = 200)) ∧ psR RP RS SP rn ≤ laR rn := by unfold laR; split <;> omega
    have e1 : onR RP RS SP rn = laR rn + 1 := if_pos hk
    have e2 : osR RP RS SP rn = uI (va_cpy RS RS (psR RP RS SP rn).toNat (psR RP RS SP rn + 1).toNat (laR rn - psR RP RS SP rn).toNat) (psR RP RS SP rn).toNat (slR RS rn) := if_pos hk
    have e3 : opR RP RS SP rn = va_cpy SP RP (0 : Int).toNat (slR RS rn * 26).toNat (26 : Int).toNat := if_pos hk
    have hsl : (0 ≤ slR RS rn ∧ slR RS rn < 200) ∧ (rn < 200 → slR RS rn = rn) := by
      have := hRS (199 : Int).toNat
      unfold slR
      split <;> omega
    have hne : ∀ i, 0 ≤ i → i < rn → i < 199 → ¬ RS i.toNat = slR RS rn := by
      intro i h0 h1 h2
      unfold slR
      split
      · exact hinj i 199 h0 h2 (by omega)
      · have := hlow (by omega) i h0 h1
        omega
    have hslot : ∀ j, 0 ≤ j → j < laR rn + 1 → osR RP RS SP rn j.toNat = if j < psR RP RS SP rn then RS j.toNat else if j = psR RP RS SP rn then slR RS rn else RS (j - 1).toNat := by
      intro j h1 h2
      rw [e2]
      by_cases c1 : j < psR RP RS SP rn
      · rw [if_pos c1]
        unfold uI
        rw [if_neg (by omega)]
        exact pk_cpy_out (by omega)
      · rw [if_neg c1]
        by_cases c2 : j = psR RP RS SP rn
        · rw [if_pos c2, c2]
          unfold uI
          rw [if_pos rfl]
        · rw [if_neg c2]
          unfold uI
          rw [if_neg (by omega), pk_cpy_in (by omega) (by omega)]
          congr 1
          omega
    refine ⟨⟨by rw [e1]; omega, fun j => ?_, fun j => ?_⟩, fun i j h0 hij hj => ?_, fun hl i h0 hi => ?_, fun i j h0 hij hj => ?_⟩
    · rw [e3]
      have a1 := hY (0 + (j - (slR RS rn * 26).toNat))
      have a2 := hRP j
      unfold va_cpy
      split
      · exact hY _
      · exact a2
    · rw [e2]
      unfold uI
      split
      · exact hsl.1
      · unfold va_cpy
        split <;> exact hRS _
    · rw [e1] at hj
      rw [hslot i h0 (by omega), hslot j (by omega) (by omega)]
      split
      · rename_i c1
        split
        · exact hinj i j h0 hij (by omega)
        · split
          · exact hne i h0 (by omega) (by omega)
          · exact hinj i (j - 1) h0 (by omega) (by omega)
      · split
        · rename_i c1 c2
          rw [if_neg (by omega), if_neg (by omega)]
          exact fun q => hne (j - 1) (by omega) (by omega) (by omega) q.symm
        · rename_i c1 c2
          rw [if_neg (by omega), if_neg (by omega)]
          exact hinj (i - 1) (j - 1) (by omega) (by omega) (by omega)
    · rw [e1] at hl hi
      rw [e1, hslot i h0 (by omega)]
      have hl2 : rn < 200 ∧ laR rn = rn := by omega
      split
      · have := hlow hl2.1 i h0 (by omega); omega
      · split
        · have := hsl.2 hl2.1; omega
        · have := hlow hl2.1 (i - 1) (by omega) (by omega); omega
    · have r1 := hrows i h0 (by omega)
      have r2 := hrows j (by omega) hj
      rw [e1] at hj
      intro hx
      have hx2 := lx_ce r2 r1 hx
      by_cases c1 : j < psR RP RS SP rn
      · refine hsrt i j h0 hij (by omega) (lx_ce (fun n _ _ => ?_) (fun n _ _ => ?_) hx2)
        · rw [if_pos c1]
        · rw [if_pos (by omega)]
      · by_cases c2 : j = psR RP RS SP rn
        · refine lx_asy (ps_lo h0 (by omega) (show i < rn by omega) : ahd RP RS SP i) (lx_ce (fun n _ _ => ?_) (fun n _ _ => ?_) hx2)
          · rw [if_neg c1, if_pos c2]
          · rw [if_pos (by omega)]; rfl
        · by_cases c3 : i < psR RP RS SP rn
          · refine hsrt i (j - 1) h0 (by omega) (by omega) (lx_ce (fun n _ _ => ?_) (fun n _ _ => ?_) hx2)
            · rw [if_neg c1, if_neg c2]
            · rw [if_pos c3]
          · by_cases c4 : i = psR RP RS SP rn
            · refine ps_hi hm (i := j - 1) (by omega) (by omega) (lx_ce (fun n _ _ => ?_) (fun n _ _ => ?_) hx2)
              · rw [if_neg c1, if_neg c2]; rfl
              · rw [if_neg c3, if_pos c4]
            · refine hsrt (i - 1) (j - 1) (by omega) (by omega) (by omega) (lx_ce (fun n _ _ => ?_) (fun n _ _ => ?_) hx2)
              · rw [if_neg c1, if_neg c2]
              · rw [if_neg c3, if_neg c4]
  · obtain ⟨a, b, c⟩ := off_keep hk
    rw [a, b, c]
    exact h
