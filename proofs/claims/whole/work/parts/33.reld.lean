/-! THE RELATION: the search -/
def XR {α β : Type} (RX : α → β → Prop) (X : X3 α) (Y : X3 β) : Prop := X.1 = Y.1 ∧ X.2.1 = Y.2.1 ∧ RX X.2.2 Y.2.2
theorem fwX_rel {α β : Type} {RX : α → β → Prop} {g : Int → X3 α → X3 α} {g' : Int → X3 β → X3 β} {n : Nat} (h : ∀ (wd : Int) X Y, 0 ≤ wd → wd < n → XR RX X Y → XR RX (g wd X) (g' wd Y)) : ∀ X Y, XR RX X Y → XR RX (fwX g n X) (fwX g' n Y) := by
  induction n with
  | zero => intro X Y hXY; exact hXY
  | succ n ih =>
    intro X Y hXY
    exact h n _ _ (by omega) (by omega) (ih (fun wd X Y h0 h1 h2 => h wd X Y h0 (by omega) h2) X Y hXY)
theorem skD_rel {α β : Type} {off : α → (Nat → Int) → α} {off' : β → (Nat → Int) → β} {tr tr' : Int → (Nat → Int) → Int → Option (Nat → Int)} {ml ml' : Int → Int → Prop} {sa nc : Int} {nw : Nat} {N : Int → (Nat → Int) → (Nat → Int) → Prop} {RX : α → β → Prop}
    (hoff : ∀ a b f g, RX a b → N nc f g → RX (off a f) (off' b g))
    (htr : ∀ (cw : Int) f g (wd : Int), 0 ≤ cw → cw < nc → 0 ≤ wd → wd < nw → ml cw wd → N cw f g → (tr cw f wd = none ∧ tr' cw g wd = none) ∨ ∃ f' g', tr cw f wd = some f' ∧ tr' cw g wd = some g' ∧ N (cw + 1) f' g')
    (hml : ∀ cw wd : Int, 0 ≤ cw → cw < nc → 0 ≤ wd → wd < nw → (ml cw wd ↔ ml' cw wd)) (d : Nat) :
    ∀ (cw : Int) f g X Y, 0 ≤ cw → cw + d = nc → N cw f g → XR RX X Y → XR RX (skD off tr ml sa nw d cw f X) (skD off' tr' ml' sa nw d cw g Y) := by
  induction d with
  | zero =>
    intro cw f g X Y h0 h1 hN hXY
    rw [show cw = nc from by omega] at hN
    exact ⟨hXY.1, hXY.2.1, hoff _ _ f g hXY.2.2 hN⟩
  | succ d ih =>
    intro cw f g X Y h0 h1 hN hXY
    refine fwX_rel (n := nw) (fun wd X Y w0 w1 hXY => ?_) X Y hXY
    have hm := hml cw wd h0 (by omega) w0 w1
    by_cases c : X.2.1 = 0 ∧ ml cw wd
    · have c' : Y.2.1 = 0 ∧ ml' cw wd := ⟨by rw [← hXY.2.1]; exact c.1, hm.mp c.2⟩
      rw [ifP_t c, ifP_t c']
      by_cases c1 : sa ≤ X.1
      · have c1' : sa ≤ Y.1 := by rw [← hXY.1]; exact c1
        rw [tWd_stop c1, tWd_stop c1']
        exact ⟨hXY.1, rfl, hXY.2.2⟩
      · have c1' : ¬ sa ≤ Y.1 := by rw [← hXY.1]; exact c1
        have hXY2 : XR RX (X.1 + 1, X.2) (Y.1 + 1, Y.2) := ⟨by show X.1 + 1 = Y.1 + 1; rw [hXY.1], hXY.2.1, hXY.2.2⟩
        rcases htr cw f g wd h0 (by omega) w0 w1 c.2 hN with ⟨e1, e2⟩ | ⟨f', g', e1, e2, e3⟩
        · rw [tWd_none c1 e1, tWd_none c1' e2]; exact hXY2
        · rw [tWd_some c1 e1, tWd_some c1' e2]
          exact ih _ _ _ _ _ (by omega) (by omega) e3 hXY2
    · have c' : ¬ (Y.2.1 = 0 ∧ ml' cw wd) := fun z => c ⟨by rw [hXY.2.1]; exact z.1, hm.mpr z.2⟩
      rw [ifP_f c, ifP_f c']
      exact hXY
/-- the letters that numbers have, in both -/
def FG (f g : Nat → Int) : Prop := IY f ∧ (∀ n : Int, 0 ≤ n → n < 26 → g n.toNat = enc (f n.toNat)) ∧ ∀ j, 0 ≤ g j ∧ g j ≤ 122
theorem tl_rel {f g : Nat → Int} (h : FG f g) {n q : Int} (hn : 0 ≤ n ∧ n < 26) (hq : 0 ≤ q ∧ q < 26) : (tlO f n q = none ∧ ¬ tlM g n (q + 97)) ∨ ∃ f', tlO f n q = some f' ∧ tlM g n (q + 97) ∧ FG f' (tmM g n (q + 97)) ∧ f' n.toNat = q ∧ ∀ k : Int, 0 ≤ k → k < 26 → ¬ f k.toNat = -1 → f' k.toNat = f k.toNat := by
  obtain ⟨h1, h2, h3⟩ := id h
  have gn := h2 n hn.1 hn.2
  have fn := h1 n.toNat
  by_cases c1 : f n.toNat = q
  · have e1 : g n.toNat = q + 97 := by rw [gn, c1]; exact enc_p hq.1
    have e2 : tmM g n (q + 97) = g := ifP_f (fun z => by have := z.1; omega)
    refine Or.inr ⟨f, ifP_t c1, Or.inl ⟨by omega, e1⟩, by rw [e2]; exact h, c1, fun k _ _ _ => rfl⟩
  · by_cases c2 : f n.toNat = -1 ∧ ∀ k : Int, 0 ≤ k → k < 26 → ¬ f k.toNat = q
    · have e1 : g n.toNat = 0 := by rw [gn, c2.1]; rfl
      have e2 : ∀ k : Int, 0 ≤ k → k < 26 → ¬ g k.toNat = q + 97 := fun k k0 k1 z => by
        rw [h2 k k0 k1, ← enc_p hq.1] at z
        exact c2.2 k k0 k1 ((enc_eq (h1 _) (by omega)).mp z)
      have e3 : tmM g n (q + 97) = uI g n.toNat (q + 97) := ifP_t ⟨e1, e2⟩
      have e4 : FG (uI f n.toNat q) (uI g n.toNat (q + 97)) := by
        refine ⟨fun j => ?_, fun k k0 k1 => ?_, fun j => ?_⟩
        · have := h1 j; unfold uI; split <;> omega
        · unfold uI
          by_cases e : k = n
          · rw [if_pos (by omega), if_pos (by omega)]; exact (enc_p hq.1).symm
          · rw [if_neg (by omega), if_neg (by omega)]; exact h2 k k0 k1
        · have := h3 j; unfold uI; split <;> omega
      refine Or.inr ⟨uI f n.toNat q, by unfold tlO; rw [ifP_f c1, ifP_t c2], Or.inr ⟨e1, e2⟩, by rw [e3]; exact e4, if_pos rfl, fun k k0 k1 z => ?_⟩
      unfold uI
      by_cases e : k = n
      · rw [e] at z; exact absurd c2.1 z
      · rw [if_neg (by omega)]
    · refine Or.inl ⟨by unfold tlO; rw [ifP_f c1, ifP_f c2], fun z => ?_⟩
      rcases z with ⟨z1, z2⟩ | ⟨z1, z2⟩
      · rw [gn, ← enc_p hq.1] at z2
        exact c1 ((enc_eq fn (by omega)).mp z2)
      · have e1 : f n.toNat = -1 := (enc_0 fn).mp (by rw [← gn]; exact z1)
        refine c2 ⟨e1, fun k k0 k1 e => z2 k k0 k1 ?_⟩
        rw [h2 k k0 k1, e]
        exact enc_p hq.1
theorem ta_rel {f g : Nat → Int} (h : FG f g) {nm pl nm' pl' : Int → Int} {len : Nat} (hv : ∀ j : Int, 0 ≤ j → j < len → (0 ≤ nm j ∧ nm j < 26) ∧ (0 ≤ pl j ∧ pl j < 26) ∧ nm' j = nm j ∧ pl' j = pl j + 97) (i : Nat) : i ≤ len →
    (taO nm pl f i = none ∧ (ftI nm' pl' g i).2 = 0) ∨ ∃ f', taO nm pl f i = some f' ∧ ¬ (ftI nm' pl' g i).2 = 0 ∧ FG f' (ftI nm' pl' g i).1 ∧ (∀ j : Int, 0 ≤ j → j < i → 0 ≤ f' (nm j).toNat) ∧ ∀ k : Int, 0 ≤ k → k < 26 → ¬ f k.toNat = -1 → f' k.toNat = f k.toNat := by
  induction i with
  | zero => intro _; exact Or.inr ⟨f, rfl, by show ¬ (1 : Int) = 0; decide, h, fun j j0 j1 => by omega, fun _ _ _ _ => rfl⟩
  | succ i ih =>
    intro hi
    obtain ⟨v1, v2, v3, v4⟩ := hv i (by omega) (by omega)
    rw [taO_1, ftI_1]
    rcases ih (by omega) with ⟨e1, e2⟩ | ⟨f', e1, e2, e3, e4, e5⟩
    · rw [e1, if_pos e2]
      exact Or.inl ⟨rfl, e2⟩
    · rw [e1, if_neg e2, v3, v4]
      show (tlO f' (nm i) (pl i) = none ∧ bI (tlM (ftI nm' pl' g i).1 (nm i) (pl i + 97)) = 0) ∨ ∃ f'', tlO f' (nm i) (pl i) = some f'' ∧ ¬ bI (tlM (ftI nm' pl' g i).1 (nm i) (pl i + 97)) = 0 ∧ FG f'' (tmM (ftI nm' pl' g i).1 (nm i) (pl i + 97)) ∧ _
      rcases tl_rel e3 v1 v2 with ⟨r1, r2⟩ | ⟨f'', r1, r2, r3, r4, r5⟩
      · exact Or.inl ⟨r1, bI_0 r2⟩
      · refine Or.inr ⟨f'', r1, by rw [bI_1 r2]; decide, r3, fun j j0 j1 => ?_, fun k k0 k1 z => ?_⟩
        · rcases (show j < i ∨ j = i by omega) with c | c
          · have q := e4 j j0 c
            have vj := (hv j j0 (by omega)).1
            rw [r5 (nm j) vj.1 vj.2 (by omega)]
            exact q
          · rw [c, r4]; exact v2.1
        · have q := e5 k k0 k1 z
          rw [r5 k k0 k1 (by rw [q]; exact z), q]
/-- the words kept at the beginning -/
theorem bg_rel {KS KB KE KZ KV : Nat → Int} {kn kw sn : Int} {Cd Kp : Nat → Int} (h : GK KS KB KE KZ KV kn kw sn Cd Kp) {f0 t0 : Nat → Int} (h1 : ∀ j, j < 26 → f0 j = -1) (h2 : ∀ j, j < 26 → t0 j = 0) (h3 : ∀ j, -1 ≤ f0 j ∧ f0 j < 26) (h4 : ∀ j, 0 ≤ t0 j ∧ t0 j ≤ 1) (n : Nat) : n ≤ 26 →
    ((bgF KZ KV f0 t0 n).2 = 0 ∧ (ftK Kp Cd sn (fun _ => 0) n).2 = 0) ∨ (¬ (bgF KZ KV f0 t0 n).2 = 0 ∧ ¬ (ftK Kp Cd sn (fun _ => 0) n).2 = 0 ∧ FG (bgF KZ KV f0 t0 n).1.1 (ftK Kp Cd sn (fun _ => 0) n).1) := by
  obtain ⟨⟨g1, g2, g3, g4, g5, g6, g7⟩, k1, k2, k3, k4, k5, k6, k7⟩ := id h
  induction n with
  | zero => intro _; exact Or.inr ⟨by show ¬ (1 : Int) = 0; decide, by show ¬ (1 : Int) = 0; decide, h3, fun m m0 m1 => by show (0 : Int) = enc (f0 m.toNat); rw [h1 _ (by omega)]; rfl, fun _ => by show (0 : Int) ≤ 0 ∧ (0 : Int) ≤ 122; omega⟩
  | succ n ih =>
    intro hn
    have hb := bg_SI (KZ := KZ) (KV := KV) h1 h2 n (by omega)
    have hr := bgF_r (KZ := KZ) (KV := KV) h3 h4 n
    have e0 : kpAt KV n = KV n := if_pos (by omega)
    have e1 := k5 n (by omega) (by omega)
    have e2 := k6 n (by omega) (by omega)
    have gv := g7 n
    have en : (n : Int).toNat = n := by omega
    rw [en] at e1 e2
    have ec : ¬ ctK KZ n = 0 ↔ ¬ KZ n = 0 := by
      unfold ctK
      rw [en]
      split <;> omega
    rw [bgF_1, ftK_1]
    rcases ih (by omega) with ⟨a1, a2⟩ | ⟨a1, a2, a3⟩
    · rw [if_pos a1, if_pos a2]
      exact Or.inl ⟨a1, a2⟩
    · rw [if_neg a1, if_neg a2, e0, en]
      by_cases c : ¬ KZ n = 0 ∧ ¬ KV n = -1
      · have q0 : 0 ≤ KV n := by omega
        have q1 : Kp n = KV n + 97 := by rw [e1]; exact enc_p q0
        rw [if_pos ⟨ec.mpr c.1, q0, gv.2⟩, ifP_t ⟨by omega, e2.mp c.1⟩, q1]
        have fn : (bgF KZ KV f0 t0 n).1.1 n = -1 := hb.1 n (Nat.le_refl n) (by omega)
        have tk := hb.2 (KV n) q0 gv.2
        rcases tl_rel a3 (n := n) (q := KV n) (by omega) ⟨q0, gv.2⟩ with ⟨r1, r2⟩ | ⟨f', r1, r2, r3, r4, r5⟩
        · have nt : ¬ (bgF KZ KV f0 t0 n).1.2 (KV n).toNat = 0 := by
            intro z
            have z2 := tk.mp z
            unfold tlO at r1
            rw [en, ifP_f (by omega), ifP_t ⟨fn, fun k k0 k1 => z2 k k0 k1⟩] at r1
            cases r1
          rw [if_neg nt]
          exact Or.inl ⟨rfl, bI_0 r2⟩
        · have nt : (bgF KZ KV f0 t0 n).1.2 (KV n).toNat = 0 := by
            refine tk.mpr (fun m m0 m1 z => ?_)
            unfold tlO at r1
            rw [en, ifP_f (by omega), ifP_f (fun y => y.2 m m0 m1 z)] at r1
            cases r1
          have ef : f' = uI (bgF KZ KV f0 t0 n).1.1 n (KV n) := by
            unfold tlO at r1
            rw [en, ifP_f (by omega), ifP_t ⟨fn, fun k k0 k1 => tk.mp nt k k0 k1⟩] at r1
            exact (Option.some.inj r1).symm
          rw [if_pos nt]
          refine Or.inr ⟨by show ¬ (1 : Int) = 0; decide, by show ¬ bI _ = 0; rw [bI_1 r2]; decide, ?_⟩
          show FG (uI (bgF KZ KV f0 t0 n).1.1 n (KV n)) _
          rw [← ef]
          exact r3
      · rw [if_neg (fun z => c ⟨ec.mp z.1, by omega⟩), ifP_f (fun z => c ⟨e2.mpr z.2, fun y => z.1 (by rw [e1, y]; rfl)⟩)]
        exact Or.inr ⟨a1, a2, a3⟩
section RELD
variable {WP WL WC : Nat → Int} {wn wk co : Int} {Rw : Nat → Int} {nw : Int} {Le Lt : Nat → Int} {KS KB KE KZ KV : Nat → Int} {kn kw sn : Int} {Cd Kp : Nat → Int}
def RXC (KS : Nat → Int) (kn : Int) (a : A4) (b : B3) : Prop := a.1 = b.1 ∧ GR a.2.1 a.2.2.1 a.2.2.2 b.2.2 b.2.1 ∧ CR KS kn a.2.1 a.2.2.1 a.2.2.2
theorem GK.nm (h : GK KS KB KE KZ KV kn kw sn Cd Kp) {a j : Int} (h0 : 0 ≤ a) (h1 : a < kw) (h2 : 0 ≤ j) (h3 : j < lnOf KE kw a) : nmAt KS KB KE kn kw a j = KS (KB a.toNat + j).toNat ∧ 0 ≤ KS (KB a.toNat + j).toNat ∧ Cd (KB a.toNat + j).toNat = KS (KB a.toNat + j).toNat ∧ (0 ≤ KB a.toNat + j ∧ KB a.toNat + j < kn) := by
  obtain ⟨-, k1, -, k3, -, -, -, -, -, -, p4, -⟩ := id h
  have e : lnOf KE kw a = KE a.toNat := if_pos ⟨h0, h1⟩
  obtain ⟨q1, q2, q3, q4⟩ := p4 a h0 h1
  have r : 0 ≤ KB a.toNat + j ∧ KB a.toNat + j < kn := by omega
  refine ⟨?_, q4 j h2 (by omega), k3 _ r.1 r.2, r⟩
  unfold nmAt
  rw [if_pos ⟨h2, h3⟩]
  exact if_pos r
theorem GK.nn (h : GK KS KB KE KZ KV kn kw sn Cd Kp) : ∀ a j, 0 ≤ a → a < kw → 0 ≤ j → j < lnOf KE kw a → 0 ≤ nmAt KS KB KE kn kw a j := fun a j h0 h1 h2 h3 => by
  have q := h.nm h0 h1 h2 h3
  rw [q.1]
  exact q.2.1
theorem rn_rel (hw : GW WP WL WC wn wk co Rw nw Le Lt) (h : GK KS KB KE KZ KV kn kw sn Cd Kp) {B1 S1 : Nat → Int} (hB : ∀ k : Int, 0 ≤ k → k < kw → B1 k.toNat = KB k.toNat ∧ S1 k.toNat = KE k.toNat) {SP ST RP RS Fo : Nat → Int} (hSP : IY SP) (hST : ∀ j, 0 ≤ ST j ∧ ST j ≤ 1) (hR : IR RP RS 0) (hFo : ∀ j, 0 ≤ Fo j ∧ Fo j ≤ 122) (sa : Int) :
    XR (RXC KS kn) (rnC WP WL wn KS KB KE KZ KV kn kw sa SP ST RP RS) (rnM Kp Cd sn B1 S1 Lt Le nw sa kw Fo) := by
  obtain ⟨⟨g1, g2, g3, g4, g5, g6, g7⟩, k1, k2, k3, k4, k5, k6, k7⟩ := id h
  have h0 : RXC KS kn (0, RP, RS, 0) (0, Fo, 0) := ⟨rfl, ⟨IRR.nil hR, rfl, fun k n z0 z1 => absurd (show k < (0 : Int) from z1) (by omega), hFo⟩, fun k i z0 z1 => absurd (show k < (0 : Int) from z1) (by omega)⟩
  have hXY : XR (RXC KS kn) (0, 0, 0, RP, RS, 0) (0, 0, 0, Fo, 0) := ⟨rfl, rfl, h0⟩
  have hb := bg_rel h (f0 := zrB SP (-1)) (t0 := zrB ST 0) (fun j hj => if_pos hj) (fun j hj => if_pos hj) (fun j => by have := hSP j; unfold zrB; split <;> omega) (fun j => by have := hST j; unfold zrB; split <;> omega) 26 (Nat.le_refl 26)
  unfold rnC rnM bg0 bg1 g0M
  rcases hb with ⟨a1, a2⟩ | ⟨a1, a2, a3⟩
  · rw [if_pos a1, if_pos a2]; exact hXY
  · rw [if_neg a1, if_neg a2]
    have hnw : nw.toNat = wn.toNat := by rw [hw.2.1]
    unfold skC skM
    rw [hnw]
    refine skD_rel (nc := kw) (N := fun cw f g => FG f g ∧ ∀ a j : Int, 0 ≤ a → a < cw → 0 ≤ j → j < KE a.toNat → 0 ≤ f (KS (KB a.toNat + j).toNat).toNat) (RX := RXC KS kn) ?_ ?_ ?_ kw.toNat 0 _ _ _ _ (Int.le_refl 0) (by omega) ⟨a3, fun a j z0 z1 => by omega⟩ hXY
    · intro a b f g ⟨r1, r2, r3⟩ ⟨n1, n2⟩
      refine ⟨by show a.1 + 1 = b.1 + 1; rw [r1], r2.off n1.1 n1.2.1 n1.2.2, r3.off r2.1 g3 (fun i i0 i1 z => ?_)⟩
      obtain ⟨k, j, p1, p2, p3⟩ := k7.2.2.2.2 i i0 i1 z
      have q := n2 k j p1.1 p1.2 p2.1 p2.2
      rw [p3] at q
      exact q
    · intro cw f g wd c0 c1 w0 w1 hml ⟨n1, n2⟩
      have e1 : lnOf KE kw cw = KE cw.toNat := if_pos ⟨c0, c1⟩
      have e2 : lnOf WL wn wd = lnOf KE kw cw := hml
      have e3 := g5 cw.toNat
      obtain ⟨b1, b2⟩ := hB cw c0 c1
      have hv : ∀ j : Int, 0 ≤ j → j < (KE cw.toNat).toNat → (0 ≤ nmAt KS KB KE kn kw cw j ∧ nmAt KS KB KE kn kw cw j < 26) ∧ (0 ≤ plAt WP WL wn wd j ∧ plAt WP WL wn wd j < 26) ∧ Cd (B1 cw.toNat + j).toNat = nmAt KS KB KE kn kw cw j ∧ Lt (8 * wd + j).toNat = plAt WP WL wn wd j + 97 := by
        intro j j0 j1
        have q := h.nm c0 c1 j0 (show j < lnOf KE kw cw by omega)
        have p := hw.pl (a := wd) j0 (by omega)
        refine ⟨⟨by rw [q.1]; exact q.2.1, (nmAt_r (KB := KB) (KE := KE) g3 kn kw cw j).2⟩, ⟨p.2, (plAt_r hw.1 wd j).2⟩, by rw [b1, q.2.2.1, q.1], ?_⟩
        rw [← p.1]
        unfold plAt
        rw [hw.ln, if_pos ⟨j0, by omega⟩, show wd * 8 + j = 8 * wd + j from by omega]
      have q := ta_rel n1 (nm := fun j => nmAt KS KB KE kn kw cw j) (pl := fun j => plAt WP WL wn wd j) (nm' := fun j => Cd (B1 cw.toNat + j).toNat) (pl' := fun j => Lt (8 * wd + j).toNat) (len := (KE cw.toNat).toNat) hv (KE cw.toNat).toNat (Nat.le_refl _)
      have t1 : trC WP WL wn KS KB KE kn kw cw f wd = taO (fun j => nmAt KS KB KE kn kw cw j) (fun j => plAt WP WL wn wd j) f (KE cw.toNat).toNat := by unfold trC; rw [e2, e1]
      have t2 : rtM Cd B1 S1 Lt cw g wd = ftI (fun j => Cd (B1 cw.toNat + j).toNat) (fun j => Lt (8 * wd + j).toNat) g (KE cw.toNat).toNat := by unfold rtM; rw [b2]
      rcases q with ⟨r1, r2⟩ | ⟨f', r1, r2, r3, r4, r5⟩
      · exact Or.inl ⟨by rw [t1]; exact r1, by unfold trM; rw [t2, if_pos r2]⟩
      · refine Or.inr ⟨f', _, by rw [t1]; exact r1, by unfold trM; rw [t2, if_neg r2], r3, fun a j z0 z1 z2 z3 => ?_⟩
        rcases (show a < cw ∨ a = cw by omega) with c | c
        · have y := n2 a j z0 c z2 z3
          have y2 := h.nm z0 (by omega) z2 (show j < lnOf KE kw a by rw [show lnOf KE kw a = KE a.toNat from if_pos ⟨z0, by omega⟩]; exact z3)
          rw [r5 _ y2.2.1 (g3 _).2 (by omega)]
          exact y
        · rw [c] at z3 ⊢
          have y := r4 j z2 (by omega)
          rw [(h.nm c0 c1 z2 (by omega)).1] at y
          exact y
    · intro cw wd c0 c1 w0 w1
      have e1 : lnOf KE kw cw = KE cw.toNat := if_pos ⟨c0, c1⟩
      have e2 : lnOf WL wn wd = WL wd.toNat := if_pos ⟨w0, by omega⟩
      unfold mlC mlM
      rw [e1, e2, (hB cw c0 c1).2, (hw.2.2.2.1 wd w0 (by omega)).1]
end RELD
