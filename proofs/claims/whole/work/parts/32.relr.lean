/-! THE RELATION: the readings kept -/
theorem lx_le2 {f g h : Int → Int} (h1 : lxB f g) (h2 : ¬ lxB h g) : lxB f h := by
  rcases lx_tri g h with c | c | c
  · exact lx_trans h1 c
  · exact lx_ce (fun _ _ _ => rfl) c h1
  · exact absurd c h2
theorem lx_enc {f g r s : Int → Int} (hf : ∀ n, -1 ≤ f n ∧ f n < 26) (hr : ∀ n, -1 ≤ r n ∧ r n < 26) (h1 : ∀ n, 0 ≤ n → n < 26 → g n = enc (f n)) (h2 : ∀ n, 0 ≤ n → n < 26 → s n = enc (r n)) : lxB g s ↔ lxB f r := by
  constructor
  · intro ⟨n, a1, a2, a3, a4⟩
    refine ⟨n, a1, a2, ?_, fun m m0 m1 => ?_⟩
    · rw [h1 n a1 a2, h2 n a1 a2] at a3; exact (enc_lt (hf n) (hr n)).mp a3
    · have q := a4 m m0 m1; rw [h1 m m0 (by omega), h2 m m0 (by omega)] at q; exact (enc_eq (hf m) (hr m)).mp q
  · intro ⟨n, a1, a2, a3, a4⟩
    refine ⟨n, a1, a2, ?_, fun m m0 m1 => ?_⟩
    · rw [h1 n a1 a2, h2 n a1 a2]; exact (enc_lt (hf n) (hr n)).mpr a3
    · rw [h1 m m0 (by omega), h2 m m0 (by omega), a4 m m0 m1]
theorem ek_sp (Mp Fo : Nat → Int) (n : Nat) : (∀ j : Int, ekF Mp Fo n ≤ j → j < n → ahM Mp Fo j) ∧ (ekF Mp Fo n = 0 ∨ ¬ ahM Mp Fo (ekF Mp Fo n - 1)) := by
  induction n with
  | zero => exact ⟨fun j h1 h2 => by have : ekF Mp Fo 0 = 0 := rfl; omega, Or.inl rfl⟩
  | succ n ih =>
    have e : ekF Mp Fo (n + 1) = ifP (ahM Mp Fo n) (ekF Mp Fo n) ((n + 1 : Nat) : Int) := rfl
    by_cases c : ahM Mp Fo n
    · rw [e, ifP_t c]
      refine ⟨fun j h1 h2 => ?_, ih.2⟩
      rcases (show j < n ∨ j = n by omega) with q | q
      · exact ih.1 j h1 q
      · rw [q]; exact c
    · rw [e, ifP_f c]
      refine ⟨fun j h1 h2 => by omega, Or.inr ?_⟩
      rw [show ((n + 1 : Nat) : Int) - 1 = n from by omega]
      exact c
def GR (RP RS : Nat → Int) (rn nr : Int) (Fo : Nat → Int) : Prop := IRR RP RS rn ∧ nr = rn ∧ (∀ k n : Int, 0 ≤ k → k < rn → 0 ≤ n → n < 26 → Fo (26 * k + n).toNat = enc (rowR RP RS k n)) ∧ ∀ j, 0 ≤ Fo j ∧ Fo j ≤ 122
theorem rowR_r {RP RS : Nat → Int} {rn : Int} (h : IRR RP RS rn) (k n : Int) : -1 ≤ rowR RP RS k n ∧ rowR RP RS k n < 26 := h.1.2.1 _
theorem GR.off {RP RS : Nat → Int} {rn nr : Int} {Fo : Nat → Int} (h : GR RP RS rn nr Fo) {f g : Nat → Int} (hf : IY f) (hg : ∀ n : Int, 0 ≤ n → n < 26 → g n.toNat = enc (f n.toNat)) (hgb : ∀ j, 0 ≤ g j ∧ g j ≤ 122) : GR (opR RP RS f rn) (osR RP RS f rn) (onR RP RS f rn) (enM g Fo nr) (erM g Fo nr) := by
  obtain ⟨h1, h2, h3, h4⟩ := id h
  have hrn := h1.1.1
  have hm := h1.mono f
  have hp := psR_r (RP := RP) (RS := RS) (SP := f) hrn.1
  have hk0 := ekF_r g Fo nr.toNat
  obtain ⟨k1, k2⟩ := ek_sp g Fo nr.toNat
  have hkd : ekM g Fo nr = ekF g Fo nr.toNat := rfl
  rw [← hkd] at hk0 k1 k2
  have hA : ∀ j : Int, 0 ≤ j → j < rn → (ahM g Fo j ↔ lxB (fun n => f n.toNat) (rowR RP RS j)) := fun j j0 j1 => lx_enc (fun n => hf _) (fun n => rowR_r h1 j n) hg (fun n n0 n1 => h3 j n j0 j1 n0 n1)
  have hpk : psR RP RS f rn ≤ ekM g Fo nr := by
    rcases (show psR RP RS f rn ≤ ekM g Fo nr ∨ ekM g Fo nr < psR RP RS f rn by omega) with c | c
    · exact c
    · have a1 := (hA _ hk0.1 (by omega)).mp (k1 _ (Int.le_refl _) (by omega))
      have a2 := ps_lo hk0.1 c (show ekM g Fo nr < rn by omega)
      exact absurd a2 (lx_asy a1)
  have hmid : ∀ j : Int, psR RP RS f rn ≤ j → j < ekM g Fo nr → ∀ n : Int, 0 ≤ n → n < 26 → rowR RP RS j n = f n.toNat := by
    intro j j0 j1
    have a1 : ¬ lxB (rowR RP RS j) (fun n => f n.toNat) := ps_hi hm j0 (by omega)
    have a2 : ¬ lxB (fun n => f n.toNat) (rowR RP RS j) := by
      intro z
      rcases k2 with k2 | k2
      · omega
      · refine k2 ((hA _ (by omega) (by omega)).mpr ?_)
        rcases (show j = ekM g Fo nr - 1 ∨ j < ekM g Fo nr - 1 by omega) with q | q
        · rw [← q]; exact z
        · exact lx_le2 z (h1.2.2.2 j _ (by omega) q (by omega))
    rcases lx_tri (rowR RP RS j) (fun n => f n.toNat) with c | c | c
    · exact absurd c a1
    · exact c
    · exact absurd c a2
  have hon := off_n (SP := f) h1
  have hen : enM g Fo nr = onR RP RS f rn := by
    rw [hon]
    unfold enM
    split
    · rw [if_neg (by omega)]; omega
    · split
      · rw [if_pos (by omega)]; omega
      · rw [if_neg (by omega)]; omega
  have hb : ∀ j, 0 ≤ erM g Fo nr j ∧ erM g Fo nr j ≤ 122 := (erM_r hgb h4 (by omega)).1
  refine ⟨off_inv h1 hf, hen, fun j n j0 j1 n0 n1 => ?_, hb⟩
  have hj : j < 200 ∧ (j < rn ∨ j = rn) := by rw [hon] at j1; split at j1 <;> omega
  by_cases cp : psR RP RS f rn < 200
  · rw [off_rows h1 cp j j0 j1 n n0 n1]
    by_cases ck : ekM g Fo nr = 200
    · have e : erM g Fo nr = Fo := if_pos ck
      rw [e, h3 j n j0 (by omega) n0 n1]
      congr 1
      by_cases c1 : j < psR RP RS f rn
      · rw [if_pos c1]
      · rw [if_neg c1]
        by_cases c2 : j = psR RP RS f rn
        · rw [if_pos c2]; exact hmid j (by omega) (by omega) n n0 n1
        · rw [if_neg c2, hmid j (by omega) (by omega) n n0 n1, hmid (j - 1) (by omega) (by omega) n n0 n1]
    · have hla : laR nr = (if 200 ≤ rn then 199 else rn) := by unfold laR; rw [h2]
      have e : erM g Fo nr (26 * j + n).toNat = if j = ekM g Fo nr then g n.toNat else if ekM g Fo nr < j then Fo (26 * (j - 1) + n).toNat else Fo (26 * j + n).toNat := by
        rw [show erM g Fo nr (26 * j + n).toNat = (if 26 * ekM g Fo nr ≤ ((26 * j + n).toNat : Int) ∧ ((26 * j + n).toNat : Int) < 26 * ekM g Fo nr + 26 then g (((26 * j + n).toNat : Int) - 26 * ekM g Fo nr).toNat else shF Fo (ekM g Fo nr) (laR nr) (26 * j + n).toNat) from congrFun (if_neg ck) _]
        by_cases c1 : j = ekM g Fo nr
        · rw [if_pos (by omega), if_pos c1]; congr 1; omega
        · rw [if_neg (by omega), if_neg c1]
          unfold shF
          by_cases c2 : ekM g Fo nr < j
          · rw [if_pos (by rw [hla]; split <;> omega), if_pos c2]; congr 1; omega
          · rw [if_neg (by omega), if_neg c2]
      rw [e]
      by_cases c1 : j = ekM g Fo nr
      · rw [if_pos c1, hg n n0 n1]
        congr 1
        rw [if_neg (by omega)]
        by_cases c2 : j = psR RP RS f rn
        · rw [if_pos c2]
        · rw [if_neg c2, hmid (j - 1) (by omega) (by omega) n n0 n1]
      · rw [if_neg c1]
        by_cases c2 : ekM g Fo nr < j
        · rw [if_pos c2, h3 (j - 1) n (by omega) (by omega) n0 n1, if_neg (by omega), if_neg (by omega)]
        · rw [if_neg c2, h3 j n j0 (by omega) n0 n1]
          congr 1
          by_cases c3 : j < psR RP RS f rn
          · rw [if_pos c3]
          · rw [if_neg c3]
            by_cases c4 : j = psR RP RS f rn
            · rw [if_pos c4]; exact hmid j (by omega) (by omega) n n0 n1
            · rw [if_neg c4, hmid j (by omega) (by omega) n n0 n1, hmid (j - 1) (by omega) (by omega) n n0 n1]
  · obtain ⟨e1, e2, e3⟩ := off_keep cp
    have ck : ekM g Fo nr = 200 := by omega
    rw [e2, e3, show erM g Fo nr = Fo from if_pos ck]
    rw [e1] at j1
    exact h3 j n j0 j1 n0 n1
/-- all readings kept have letters for the numbers of the code -/
def CR (KS : Nat → Int) (kn : Int) (RP RS : Nat → Int) (rn : Int) : Prop := ∀ k i : Int, 0 ≤ k → k < rn → 0 ≤ i → i < kn → 0 ≤ KS i.toNat → 0 ≤ rowR RP RS k (KS i.toNat)
theorem CR.off {KS : Nat → Int} {kn : Int} {RP RS : Nat → Int} {rn : Int} (h : CR KS kn RP RS rn) (hR : IRR RP RS rn) (hS : ∀ j, -1 ≤ KS j ∧ KS j < 26) {f : Nat → Int} (hf : ∀ i : Int, 0 ≤ i → i < kn → 0 ≤ KS i.toNat → 0 ≤ f (KS i.toNat).toNat) : CR KS kn (opR RP RS f rn) (osR RP RS f rn) (onR RP RS f rn) := by
  intro k i k0 k1 i0 i1 z
  have hp := psR_r (RP := RP) (RS := RS) (SP := f) hR.1.1.1
  by_cases c : psR RP RS f rn < 200
  · have hon := off_n (SP := f) hR
    have hrn := hR.1.1
    rw [off_rows hR c k k0 k1 _ z (hS _).2]
    rw [hon] at k1
    split
    · exact h k i k0 (by omega) i0 i1 z
    · split
      · exact hf i i0 i1 z
      · refine h (k - 1) i (by omega) ?_ i0 i1 z
        split at k1 <;> omega
  · obtain ⟨e1, e2, e3⟩ := off_keep c
    rw [e2, e3]
    rw [e1] at k1
    exact h k i k0 k1 i0 i1 z
