/-! PURE: give and take back; the search as a function -/
def cnt (f : Nat → Int) : Nat → Int
  | 0 => 0
  | n + 1 => cnt f n + (if f n = -1 then 0 else 1)
theorem cnt_1 (f : Nat → Int) (n : Nat) : cnt f (n + 1) = cnt f n + (if f n = -1 then 0 else 1) := rfl
theorem cnt_r (f : Nat → Int) (n : Nat) : 0 ≤ cnt f n ∧ cnt f n ≤ n := by
  induction n with
  | zero => exact ⟨Int.le_refl 0, Int.le_refl 0⟩
  | succ n ih => rw [cnt_1]; split <;> omega
theorem cnt_lt {f : Nat → Int} {n k : Nat} (h : k < n) (hk : f k = -1) : cnt f n < n := by
  induction n with
  | zero => omega
  | succ n ih =>
    have := cnt_r f n
    rw [cnt_1]
    by_cases c : k = n
    · rw [← c, if_pos hk, c]; omega
    · have := ih (by omega)
      split <;> omega
theorem cnt_up {f : Nat → Int} {k : Nat} {q : Int} (hk : f k = -1) (hq : ¬ q = -1) (n : Nat) : cnt (uI f k q) n = cnt f n + (if k < n then 1 else 0) := by
  induction n with
  | zero => rfl
  | succ n ih =>
    rw [cnt_1, cnt_1, ih]
    by_cases c : k = n
    · rw [show uI f k q n = q from if_pos c.symm, ← c, hk, if_neg hq, if_pos rfl, if_neg (show ¬ k < k by omega), if_pos (show k < k + 1 by omega)]
    · rw [show uI f k q n = f n from if_neg (fun z => c z.symm)]
      by_cases c2 : k < n
      · rw [if_pos c2, if_pos (show k < n + 1 by omega)]; omega
      · rw [if_neg c2, if_neg (show ¬ k < n + 1 by omega)]; omega
/-- the letters taken are those that numbers have; no more are given than numbers have letters -/
def SI (σ : T4) : Prop := I4 σ ∧ (∀ q, 0 ≤ q → q < 26 → (σ.2.1 q.toNat = 0 ↔ ∀ n : Int, 0 ≤ n → n < 26 → ¬ σ.1 n.toNat = q)) ∧ σ.2.2.2 ≤ cnt σ.1 26
noncomputable def tlO (f : Nat → Int) (n q : Int) : Option (Nat → Int) := ifP (f n.toNat = q) (some f) (ifP (f n.toNat = -1 ∧ ∀ k : Int, 0 ≤ k → k < 26 → ¬ f k.toNat = q) (some (uI f n.toNat q)) none)
noncomputable def taO (nm pl : Int → Int) (f : Nat → Int) : Nat → Option (Nat → Int)
  | 0 => some f
  | i + 1 => (taO nm pl f i).bind (fun g => tlO g (nm i) (pl i))
theorem taO_1 (nm pl : Int → Int) (f : Nat → Int) (i : Nat) : taO nm pl f (i + 1) = (taO nm pl f i).bind (fun g => tlO g (nm i) (pl i)) := rfl
theorem gv_tl {σ : T4} (h : SI σ) {n q : Int} (hn : 0 ≤ n ∧ n < 26) (hq : 0 ≤ q ∧ q < 26) : tlO σ.1 n q = ifP (gvO σ n q) (some (gvS σ n q).1) none ∧ SI (gvS σ n q) := by
  by_cases c1 : σ.1 n.toNat = q
  · have e : gvS σ n q = σ := ifP_f (fun z => z.2.1 c1)
    refine ⟨?_, by rw [e]; exact h⟩
    unfold tlO
    rw [ifP_t c1, ifP_t (show gvO σ n q from ⟨⟨hn, hq⟩, Or.inl c1⟩), e]
  · by_cases c2 : gvN σ.1 σ.2.1 σ.2.2.2 n q
    · have e : gvS σ n q = (uI σ.1 n.toNat q, uI σ.2.1 q.toNat 1, uI σ.2.2.1 σ.2.2.2.toNat n, σ.2.2.2 + 1) := ifP_t c2
      obtain ⟨h1, h2, h3⟩ := h
      obtain ⟨-, -, d1, d2, d3⟩ := id c2
      refine ⟨?_, gvS_r h1 n q, ?_, ?_⟩
      · unfold tlO
        rw [ifP_f c1, ifP_t ⟨d1, (h2 q hq.1 hq.2).mp d2⟩, ifP_t (show gvO σ n q from ⟨⟨hn, hq⟩, Or.inr c2⟩), e]
      · rw [e]
        intro r hr1 hr2
        show uI σ.2.1 q.toNat 1 r.toNat = 0 ↔ ∀ k : Int, 0 ≤ k → k < 26 → ¬ uI σ.1 n.toNat q k.toNat = r
        by_cases c3 : r = q
        · constructor
          · intro z
            rw [c3, show uI σ.2.1 q.toNat 1 q.toNat = 1 from if_pos rfl] at z
            omega
          · intro z
            exact absurd (show uI σ.1 n.toNat q n.toNat = r by rw [c3]; exact if_pos rfl) (z n hn.1 hn.2)
        · rw [show uI σ.2.1 q.toNat 1 r.toNat = σ.2.1 r.toNat from if_neg (by omega), h2 r hr1 hr2]
          constructor
          · intro z k hk1 hk2
            by_cases c4 : k = n
            · rw [c4, show uI σ.1 n.toNat q n.toNat = q from if_pos rfl]; omega
            · rw [show uI σ.1 n.toNat q k.toNat = σ.1 k.toNat from if_neg (by omega)]; exact z k hk1 hk2
          · intro z k hk1 hk2
            by_cases c4 : k = n
            · rw [c4, d1]; omega
            · have := z k hk1 hk2
              rwa [show uI σ.1 n.toNat q k.toNat = σ.1 k.toNat from if_neg (by omega)] at this
      · rw [e]
        show σ.2.2.2 + 1 ≤ cnt (uI σ.1 n.toNat q) 26
        rw [cnt_up d1 (by omega), if_pos (by omega)]
        omega
    · have e : gvS σ n q = σ := ifP_f c2
      refine ⟨?_, by rw [e]; exact h⟩
      obtain ⟨h1, h2, h3⟩ := h
      unfold tlO
      rw [ifP_f c1, ifP_f (fun z => c2 ⟨⟨hn, hq⟩, c1, z.1, (h2 q hq.1 hq.2).mpr z.2, by have := cnt_lt (n := 26) (k := n.toNat) (by omega) z.1; omega⟩), ifP_f (fun z => by rcases z.2 with z1 | z1; exact c1 z1; exact c2 z1)]
theorem ag_ta {σ : T4} (h : SI σ) {nm pl : Int → Int} {k : Nat} (hv : ∀ j : Int, 0 ≤ j → j < k → (0 ≤ nm j ∧ nm j < 26) ∧ (0 ≤ pl j ∧ pl j < 26)) (i : Nat) : i ≤ k → SI (agF nm pl σ i).1 ∧ taO nm pl σ.1 i = ifP ((agF nm pl σ i).2 = 0) none (some (agF nm pl σ i).1.1) := by
  induction i with
  | zero =>
    intro _
    refine ⟨h, ?_⟩
    rw [ifP_f (show ¬ (agF nm pl σ 0).2 = 0 from (by decide : ¬ (1 : Int) = 0))]
    rfl
  | succ i ih =>
    intro hi
    obtain ⟨a1, a2⟩ := ih (by omega)
    have v := hv i (by omega) (by omega)
    rw [taO_1, a2, agF_1]
    by_cases c : (agF nm pl σ i).2 = 0
    · rw [if_pos c, ifP_t c]
      exact ⟨a1, rfl⟩
    · rw [if_neg c, ifP_f c]
      obtain ⟨b1, b2⟩ := gv_tl a1 v.1 v.2
      refine ⟨b2, ?_⟩
      show tlO (agF nm pl σ i).1.1 (nm i) (pl i) = _
      rw [b1]
      by_cases c2 : gvO (agF nm pl σ i).1 (nm i) (pl i)
      · rw [ifP_t c2, ifP_f (by rw [bI_1 c2]; show ¬ (1 : Int) = 0; decide)]
      · rw [ifP_f c2, ifP_t (bI_0 c2)]
theorem uI_back {f : Nat → Int} {k : Nat} {a b : Int} (h : f k = b) : uI (uI f k a) k b = f := by
  funext j
  unfold uI
  split
  · rename_i c; rw [c, h]
  · rfl
def psh (τ : T4) (n q : Int) : T4 := (uI τ.1 n.toNat q, uI τ.2.1 q.toNat 1, uI τ.2.2.1 τ.2.2.2.toNat n, τ.2.2.2 + 1)
theorem unT_psh {τ : T4} (h : I4 τ) {n q : Int} (hg : gvN τ.1 τ.2.1 τ.2.2.2 n q) (k : Nat) : (k : Int) ≤ τ.2.2.2 → unT (psh τ n q) (k + 1) = unT τ k := by
  obtain ⟨⟨hn, hq⟩, -, d1, d2, d3⟩ := hg
  have hs := h.2.2.2
  induction k with
  | zero =>
    intro _
    rw [unT_s]
    have e1 : (psh τ n q).2.2.1 ((psh τ n q).2.2.2 - 1 - ((0 : Nat) : Int)).toNat = n := by
      show uI τ.2.2.1 τ.2.2.2.toNat n (τ.2.2.2 + 1 - 1 - ((0 : Nat) : Int)).toNat = n
      exact if_pos (by omega)
    rw [e1]
    have e2 : (unT (psh τ n q) 0).1 n.toNat = q := by
      show uI τ.1 n.toNat q n.toNat = q
      exact if_pos rfl
    rw [e2, ifP_t hq]
    show (uI (uI τ.1 n.toNat q) n.toNat (-1), uI (uI τ.2.1 q.toNat 1) q.toNat 0) = (τ.1, τ.2.1)
    rw [uI_back d1, uI_back d2]
  | succ k ih =>
    intro hk
    rw [unT_s, ih (by omega), unT_s]
    have e1 : (psh τ n q).2.2.1 ((psh τ n q).2.2.2 - 1 - ((k + 1 : Nat) : Int)).toNat = τ.2.2.1 (τ.2.2.2 - 1 - (k : Int)).toNat := by
      show uI τ.2.2.1 τ.2.2.2.toNat n (τ.2.2.2 + 1 - 1 - ((k + 1 : Nat) : Int)).toNat = _
      rw [show (τ.2.2.2 + 1 - 1 - ((k + 1 : Nat) : Int)).toNat = (τ.2.2.2 - 1 - (k : Int)).toNat from by omega]
      exact if_neg (by omega)
    rw [e1]
theorem unT_cong (τ : T4) (G : Nat → Int) (hG : ∀ j : Nat, (j : Int) < τ.2.2.2 → G j = τ.2.2.1 j) (k : Nat) : (k : Int) ≤ τ.2.2.2 → unT (τ.1, τ.2.1, G, τ.2.2.2) k = unT τ k := by
  induction k with
  | zero => intro _; rfl
  | succ k ih =>
    intro hk
    rw [unT_s, unT_s, ih (by omega)]
    have e1 : G (τ.2.2.2 - 1 - (k : Int)).toNat = τ.2.2.1 (τ.2.2.2 - 1 - (k : Int)).toNat := hG _ (by omega)
    show (uI (unT τ k).1 (G (τ.2.2.2 - 1 - (k : Int)).toNat).toNat (-1), ifP (0 ≤ (unT τ k).1 (G (τ.2.2.2 - 1 - (k : Int)).toNat).toNat ∧ (unT τ k).1 (G (τ.2.2.2 - 1 - (k : Int)).toNat).toNat < 26) (uI (unT τ k).2 ((unT τ k).1 (G (τ.2.2.2 - 1 - (k : Int)).toNat).toNat).toNat 0) (unT τ k).2) = _
    rw [e1]
def Ch (σ τ : T4) : Prop := σ.2.2.2 ≤ τ.2.2.2 ∧ (∀ j : Nat, (j : Int) < σ.2.2.2 → τ.2.2.1 j = σ.2.2.1 j) ∧ unT τ (τ.2.2.2 - σ.2.2.2).toNat = (σ.1, σ.2.1)
theorem ch_gv {σ τ : T4} (h : Ch σ τ) (hs : 0 ≤ σ.2.2.2) (hI : I4 τ) (n q : Int) : Ch σ (gvS τ n q) := by
  by_cases c : gvN τ.1 τ.2.1 τ.2.2.2 n q
  · have e : gvS τ n q = psh τ n q := ifP_t c
    rw [e]
    obtain ⟨h1, h2, h3⟩ := h
    refine ⟨by show σ.2.2.2 ≤ τ.2.2.2 + 1; omega, fun j hj => ?_, ?_⟩
    · show uI τ.2.2.1 τ.2.2.2.toNat n j = σ.2.2.1 j
      rw [show uI τ.2.2.1 τ.2.2.2.toNat n j = τ.2.2.1 j from if_neg (by omega)]
      exact h2 j hj
    · show unT (psh τ n q) (τ.2.2.2 + 1 - σ.2.2.2).toNat = _
      rw [show (τ.2.2.2 + 1 - σ.2.2.2).toNat = (τ.2.2.2 - σ.2.2.2).toNat + 1 from by omega, unT_psh hI c _ (by omega)]
      exact h3
  · have e : gvS τ n q = τ := ifP_f c
    rw [e]
    exact h
theorem ch_ag {σ : T4} (h : I4 σ) (nm pl : Int → Int) (i : Nat) : Ch σ (agF nm pl σ i).1 := by
  induction i with
  | zero => exact ⟨Int.le_refl _, fun _ _ => rfl, by show unT σ (σ.2.2.2 - σ.2.2.2).toNat = _; rw [show (σ.2.2.2 - σ.2.2.2).toNat = 0 from by omega]; rfl⟩
  | succ i ih =>
    rw [agF_1]
    split
    · exact ih
    · exact ch_gv ih h.2.2.2.1 (agF_r h nm pl i).1 _ _
/-- steps made, stopped, and what was found -/
abbrev X3 (α : Type) : Type := Int × Int × α
noncomputable def tWd {α : Type} (tr : Int → Option (Nat → Int)) (sa : Int) (k : (Nat → Int) → X3 α → X3 α) (wd : Int) (X : X3 α) : X3 α := if sa ≤ X.1 then (X.1, 1, X.2.2) else match tr wd with
  | none => (X.1 + 1, X.2)
  | some g => k g (X.1 + 1, X.2)
theorem tWd_stop {α : Type} {tr : Int → Option (Nat → Int)} {sa : Int} {k : (Nat → Int) → X3 α → X3 α} {wd : Int} {X : X3 α} (h : sa ≤ X.1) : tWd tr sa k wd X = (X.1, 1, X.2.2) := if_pos h
theorem tWd_none {α : Type} {tr : Int → Option (Nat → Int)} {sa : Int} {k : (Nat → Int) → X3 α → X3 α} {wd : Int} {X : X3 α} (h : ¬ sa ≤ X.1) (h2 : tr wd = none) : tWd tr sa k wd X = (X.1 + 1, X.2) := by
  unfold tWd
  rw [if_neg h, h2]
theorem tWd_some {α : Type} {tr : Int → Option (Nat → Int)} {sa : Int} {k : (Nat → Int) → X3 α → X3 α} {wd : Int} {X : X3 α} {g : Nat → Int} (h : ¬ sa ≤ X.1) (h2 : tr wd = some g) : tWd tr sa k wd X = k g (X.1 + 1, X.2) := by
  unfold tWd
  rw [if_neg h, h2]
def fwX {α : Type} (g : Int → X3 α → X3 α) : Nat → X3 α → X3 α
  | 0, X => X
  | n + 1, X => g n (fwX g n X)
theorem fwX_s {α : Type} (g : Int → X3 α → X3 α) {i : Int} (h : 0 ≤ i) (X : X3 α) : fwX g (i + 1).toNat X = g i (fwX g i.toNat X) := by
  obtain ⟨n, rfl⟩ := Int.eq_ofNat_of_zero_le h
  rfl
noncomputable def skD {α : Type} (off : α → (Nat → Int) → α) (tr : Int → (Nat → Int) → Int → Option (Nat → Int)) (ml : Int → Int → Prop) (sa : Int) (nw : Nat) : Nat → Int → (Nat → Int) → X3 α → X3 α
  | 0, _, f, X => (X.1, X.2.1, off X.2.2 f)
  | d + 1, cw, f, X => fwX (fun wd Y => ifP (Y.2.1 = 0 ∧ ml cw wd) (tWd (tr cw f) sa (skD off tr ml sa nw d (cw + 1)) wd Y) Y) nw X
theorem fwX_inv {α : Type} {g : Int → X3 α → X3 α} {P : X3 α → Prop} (hg : ∀ (wd : Int) Y, P Y → P (g wd Y)) (n : Nat) {X : X3 α} (h : P X) : P (fwX g n X) := by
  induction n with
  | zero => exact h
  | succ n ih => exact hg _ _ ih
theorem fwX_stuck {α : Type} {g : Int → X3 α → X3 α} {X : X3 α} {i : Nat} (h : ∀ wd : Int, g wd (fwX g i X) = fwX g i X) (k : Nat) : fwX g (i + k) X = fwX g i X := by
  induction k with
  | zero => rfl
  | succ k ih =>
    show g _ (fwX g (i + k) X) = _
    rw [ih]
    exact h _
theorem skD_inv {α : Type} {off : α → (Nat → Int) → α} {tr : Int → (Nat → Int) → Int → Option (Nat → Int)} {ml : Int → Int → Prop} {sa : Int} {nw : Nat} {P : X3 α → Prop} {F : (Nat → Int) → Prop}
    (h0 : ∀ X f, P X → F f → P (X.1, X.2.1, off X.2.2 f)) (h1 : ∀ X, P X → P (X.1, 1, X.2.2)) (h2 : ∀ X, P X → ¬ sa ≤ X.1 → P (X.1 + 1, X.2)) (hF : ∀ cw f wd g, F f → tr cw f wd = some g → F g) (d : Nat) :
    ∀ cw f X, P X → F f → P (skD off tr ml sa nw d cw f X) := by
  induction d with
  | zero => intro cw f X hX hf; exact h0 X f hX hf
  | succ d ih =>
    intro cw f X hX hf
    refine fwX_inv (P := P) (fun wd Y hY => ?_) nw hX
    by_cases c : Y.2.1 = 0 ∧ ml cw wd
    · rw [ifP_t c]
      by_cases c1 : sa ≤ Y.1
      · rw [tWd_stop c1]; exact h1 Y hY
      · cases e : tr cw f wd with
        | none => rw [tWd_none c1 e]; exact h2 Y hY c1
        | some g => rw [tWd_some c1 e]; exact ih _ _ _ (h2 Y hY c1) (hF cw f wd g hf e)
    · rw [ifP_f c]; exact hY
/-- what the class keeps: how many were found, places, slots, how many are kept -/
abbrev A4 : Type := Int × (Nat → Int) × (Nat → Int) × Int
noncomputable def offC (a : A4) (f : Nat → Int) : A4 := (a.1 + 1, opR a.2.1 a.2.2.1 f a.2.2.2, osR a.2.1 a.2.2.1 f a.2.2.2, onR a.2.1 a.2.2.1 f a.2.2.2)
noncomputable def trC (WP WL : Nat → Int) (wn : Int) (KS KB KE : Nat → Int) (kn kw : Int) (cw : Int) (f : Nat → Int) (wd : Int) : Option (Nat → Int) := taO (fun j => nmAt KS KB KE kn kw cw j) (fun j => plAt WP WL wn wd j) f (lnOf WL wn wd).toNat
def mlC (WL : Nat → Int) (wn : Int) (KE : Nat → Int) (kw : Int) (cw wd : Int) : Prop := lnOf WL wn wd = lnOf KE kw cw
noncomputable def skC (WP WL : Nat → Int) (wn : Int) (KS KB KE : Nat → Int) (kn kw sa : Int) (d : Nat) (cw : Int) (f : Nat → Int) (X : X3 A4) : X3 A4 := skD offC (trC WP WL wn KS KB KE kn kw) (mlC WL wn KE kw) sa wn.toNat d cw f X
noncomputable def twC (WP WL : Nat → Int) (wn : Int) (KS KB KE : Nat → Int) (kn kw sa : Int) (d : Nat) (cw : Int) (f : Nat → Int) (wd : Int) (X : X3 A4) : X3 A4 := tWd (trC WP WL wn KS KB KE kn kw cw f) sa (skC WP WL wn KS KB KE kn kw sa d (cw + 1)) wd X
noncomputable def lpC (WP WL : Nat → Int) (wn : Int) (KS KB KE : Nat → Int) (kn kw sa : Int) (d : Nat) (cw : Int) (f : Nat → Int) (wd : Int) (Y : X3 A4) : X3 A4 := ifP (Y.2.1 = 0 ∧ mlC WL wn KE kw cw wd) (twC WP WL wn KS KB KE kn kw sa d cw f wd Y) Y
theorem skC_s (WP WL : Nat → Int) (wn : Int) (KS KB KE : Nat → Int) (kn kw sa : Int) (d : Nat) (cw : Int) (f : Nat → Int) (X : X3 A4) : skC WP WL wn KS KB KE kn kw sa (d + 1) cw f X = fwX (lpC WP WL wn KS KB KE kn kw sa d cw f) wn.toNat X := rfl
theorem skC_0 (WP WL : Nat → Int) (wn : Int) (KS KB KE : Nat → Int) (kn kw sa : Int) (cw : Int) (f : Nat → Int) (X : X3 A4) : skC WP WL wn KS KB KE kn kw sa 0 cw f X = (X.1, X.2.1, offC X.2.2 f) := rfl
def IA (sa : Int) (X : X3 A4) : Prop := (0 ≤ X.1 ∧ X.1 ≤ sa) ∧ (X.2.1 = 0 ∨ X.2.1 = 1) ∧ IRR X.2.2.2.1 X.2.2.2.2.1 X.2.2.2.2.2
theorem tlO_IY {f g : Nat → Int} {n q : Int} (h : IY f) (hq : -1 ≤ q ∧ q < 26) (e : tlO f n q = some g) : IY g := by
  unfold tlO at e
  by_cases c1 : f n.toNat = q
  · rw [ifP_t c1] at e; cases e; exact h
  · rw [ifP_f c1] at e
    by_cases c2 : f n.toNat = -1 ∧ ∀ k : Int, 0 ≤ k → k < 26 → ¬ f k.toNat = q
    · rw [ifP_t c2] at e
      cases e
      intro j
      have := h j
      unfold uI
      split <;> omega
    · rw [ifP_f c2] at e; cases e
theorem taO_IY {nm pl : Int → Int} {f : Nat → Int} (h : IY f) (hp : ∀ j, -1 ≤ pl j ∧ pl j < 26) (i : Nat) : ∀ g, taO nm pl f i = some g → IY g := by
  induction i with
  | zero => intro g e; cases e; exact h
  | succ i ih =>
    intro g e
    rw [taO_1] at e
    cases e2 : taO nm pl f i with
    | none => rw [e2] at e; cases e
    | some g2 =>
      rw [e2] at e
      exact tlO_IY (ih g2 e2) (hp i) e
theorem skC_inv {WP WL WC : Nat → Int} {wn wk : Int} (hW : IW WP WL WC wn wk) (KS KB KE : Nat → Int) (kn kw sa : Int) (d : Nat) (cw : Int) {f : Nat → Int} {X : X3 A4} (hX : IA sa X) (hf : IY f) : IA sa (skC WP WL wn KS KB KE kn kw sa d cw f X) := by
  refine skD_inv (P := IA sa) (F := IY) ?_ ?_ ?_ ?_ d cw f X hX hf
  · intro X f ⟨h1, h2, h3⟩ hf
    exact ⟨h1, h2, off_inv h3 hf⟩
  · intro X ⟨h1, h2, h3⟩
    exact ⟨h1, Or.inr rfl, h3⟩
  · intro X ⟨h1, h2, h3⟩ c
    exact ⟨by show 0 ≤ X.1 + 1 ∧ X.1 + 1 ≤ sa; omega, h2, h3⟩
  · intro cw f wd g hf e
    exact taO_IY hf (fun j => plAt_r hW wd j) _ g e
theorem twC_inv {WP WL WC : Nat → Int} {wn wk : Int} (hW : IW WP WL WC wn wk) (KS KB KE : Nat → Int) (kn kw sa : Int) (d : Nat) (cw : Int) {f : Nat → Int} (wd : Int) {X : X3 A4} (hX : IA sa X) (hf : IY f) : IA sa (twC WP WL wn KS KB KE kn kw sa d cw f wd X) := by
  unfold twC
  by_cases c1 : sa ≤ X.1
  · rw [tWd_stop c1]; exact ⟨hX.1, Or.inr rfl, hX.2.2⟩
  · have h2 : IA sa (X.1 + 1, X.2) := ⟨by have := hX.1; show 0 ≤ X.1 + 1 ∧ X.1 + 1 ≤ sa; omega, hX.2.1, hX.2.2⟩
    cases e : trC WP WL wn KS KB KE kn kw cw f wd with
    | none => rw [tWd_none c1 e]; exact h2
    | some g => rw [tWd_some c1 e]; exact skC_inv hW KS KB KE kn kw sa d (cw + 1) h2 (taO_IY hf (fun j => plAt_r hW wd j) _ g e)
