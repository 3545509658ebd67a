/-! choices by propositions, the least place, and the copying of arrays -/
noncomputable def ifP {α : Type} (p : Prop) (a b : α) : α := @ite α p (Classical.propDecidable p) a b
theorem ifP_t {α : Type} {p : Prop} {a b : α} (h : p) : ifP p a b = a := by unfold ifP; exact if_pos h
theorem ifP_f {α : Type} {p : Prop} {a b : α} (h : ¬ p) : ifP p a b = b := by unfold ifP; exact if_neg h
theorem ifP_c {α : Type} {p q : Prop} {a b : α} (h : p ↔ q) : ifP p a b = ifP q a b := by
  by_cases hp : p
  · rw [ifP_t hp, ifP_t (h.mp hp)]
  · rw [ifP_f hp, ifP_f (fun x => hp (h.mpr x))]
noncomputable def bI (p : Prop) : Int := ifP p 1 0
theorem bI_1 {p : Prop} (h : p) : bI p = 1 := ifP_t h
theorem bI_0 {p : Prop} (h : ¬ p) : bI p = 0 := ifP_f h
theorem bI_r (p : Prop) : 0 ≤ bI p ∧ bI p ≤ 1 := by
  by_cases h : p
  · rw [bI_1 h]; omega
  · rw [bI_0 h]; omega
theorem bI_z {p : Prop} (h : bI p = 0) : ¬ p := fun hp => by rw [bI_1 hp] at h; omega
theorem bI_n {p : Prop} (h : ¬ bI p = 0) : p := Classical.byContradiction fun hp => h (bI_0 hp)
theorem bI_c {p q : Prop} (h : p ↔ q) : bI p = bI q := ifP_c h
/-- the least j from 0 on below n of which p says yes; n when there is none -/
theorem lst_ex (p : Int → Prop) (n : Int) : ∃ r : Int, (0 ≤ r ∧ r < n ∧ p r ∧ ∀ j, 0 ≤ j → j < r → ¬ p j) ∨ (r = n ∧ ∀ j, 0 ≤ j → j < n → ¬ p j) := by
  by_cases h : ∃ k : Nat, (k : Int) < n ∧ p k
  · obtain ⟨k, ⟨h1, h2⟩, h3⟩ := pk_least (fun k : Nat => (k : Int) < n ∧ p k) h
    refine ⟨k, Or.inl ⟨by omega, h1, h2, fun j hj hk hp => ?_⟩⟩
    obtain ⟨i, rfl⟩ := Int.eq_ofNat_of_zero_le hj
    exact h3 i (by omega) ⟨by omega, hp⟩
  · refine ⟨n, Or.inr ⟨rfl, fun j hj hk hp => h ?_⟩⟩
    obtain ⟨i, rfl⟩ := Int.eq_ofNat_of_zero_le hj
    exact ⟨i, hk, hp⟩
noncomputable def lst (p : Int → Prop) (n : Int) : Int := Classical.choose (lst_ex p n)
theorem lst_sp (p : Int → Prop) (n : Int) : (0 ≤ lst p n ∧ lst p n < n ∧ p (lst p n) ∧ ∀ j, 0 ≤ j → j < lst p n → ¬ p j) ∨ (lst p n = n ∧ ∀ j, 0 ≤ j → j < n → ¬ p j) := Classical.choose_spec (lst_ex p n)
theorem lst_at {p : Int → Prop} {n r : Int} (h1 : 0 ≤ r) (h2 : r < n) (h3 : p r) (h4 : ∀ j, 0 ≤ j → j < r → ¬ p j) : lst p n = r := by
  rcases lst_sp p n with ⟨g1, g2, g3, g4⟩ | ⟨g1, g2⟩
  · rcases Int.lt_trichotomy (lst p n) r with h | h | h
    · exact absurd g3 (h4 _ g1 h)
    · exact h
    · exact absurd h3 (g4 _ h1 h)
  · exact absurd h3 (g2 r h1 h2)
theorem lst_no {p : Int → Prop} {n : Int} (h : ∀ j, 0 ≤ j → j < n → ¬ p j) : lst p n = n := by
  rcases lst_sp p n with ⟨g1, g2, g3, g4⟩ | ⟨g1, g2⟩
  · exact absurd g3 (h _ g1 g2)
  · exact g1
theorem lst_c {p q : Int → Prop} {n : Int} (h : ∀ j, 0 ≤ j → j < n → (p j ↔ q j)) : lst p n = lst q n := by
  rcases lst_sp p n with ⟨g1, g2, g3, g4⟩ | ⟨g1, g2⟩
  · exact (lst_at g1 g2 ((h _ g1 g2).mp g3) (fun j h1 h2 hq => g4 j h1 h2 ((h j h1 (by omega)).mpr hq))).symm
  · rw [g1]
    exact (lst_no (fun j h1 h2 hq => g2 j h1 h2 ((h j h1 h2).mpr hq))).symm
theorem cpy_iI (f g : Nat → Int) (sp dp n : Nat) : va_cpy (fun j => iI (f j)) (fun j => iI (g j)) sp dp n = fun j => iI (va_cpy f g sp dp n j) := by
  funext j
  simp only [va_cpy]
  split <;> rfl
section JCP
variable {p : Program} {l : Launch} {e : Env} {R : Room} {s : State} {m : MethodId} {args : Array Value} {below : List Frame} {meth : Method} {c : Code} {D : va_G} {tys : List (ClassId × FieldType)} {A : Nat → Prop} {nL : Nat} {Q : State → Prop} {cells slots pc : Nat} {lv : List (Nat × Value)} {st : List Value} {ws : va_W} {cc : ByteArray} {own : String}
theorem j_copy (C : Cx p s m args c D tys A nL cc own) {q index a0 a n0 n1 : Nat} {c0 c1 : ClassId} {f g : Nat → Int} {sp dp n : Int} (q0 q1 t0 t1 : Nat) (ha0 : ws[q0]? = some (a0, aI c0 n0 f)) (ha1 : ws[q1]? = some (a, aI c1 n1 g)) (ht0 : tys[t0]? = some (c0, .int)) (ht1 : tys[t1]? = some (c1, .int)) (hn0 : n0 < 2147483648) (hn1 : n1 < 2147483648) (h : 0 ≤ sp ∧ 0 ≤ dp ∧ 0 ≤ n ∧ sp + n ≤ (n0 : Int) ∧ dp + n ≤ (n1 : Int)) (hm : Cond.methodLink own index arraycopyName ∈ wtb)
    (hfr : 1 ≤ R.frames) (hlo : (st.map fun v => v.category).sum + (nativeFrameWords "java/lang/System" "arraycopy" 5 + 11) ≤ R.locals) (ws' : va_W) (hws : ws.set q1 (a, aI c1 n1 (va_cpy f g sp.toNat dp.toNat n.toNat)) = ws') (hdg : decode cc pc = .ok (.invokestatic index, 3)) (hq : pc + 3 = q)
    (k : JJ p l e R s m args below meth c D A nL Q cells slots q lv st ws') : JJ p l e R s m args below meth c D A nL Q cells slots pc lv (.int (iI n) :: .int (iI dp) :: .ref a :: .int (iI sp) :: .ref a0 :: st) ws := by
  subst hq
  subst hws
  intro H locs ls hP hD hS hl
  obtain ⟨h1, h2, h3, h4, h5⟩ := h
  have e1 : (iI sp).toNatClampNeg = sp.toNat := iI_clamp (by omega)
  have e2 : (iI dp).toNatClampNeg = dp.toNat := iI_clamp (by omega)
  have e3 : (iI n).toNatClampNeg = n.toNat := iI_clamp (by omega)
  have nn : ∀ z : Int, 0 ≤ z → z < 2147483648 → ¬ iI z < 0 := fun z hz hz2 hh => by
    have := (iI_lt (a := z) (b := 0) (by omega) (by omega)).mp hh
    omega
  refine va_copyi C.1 C.2.1 (C.2.2.1.trans hl.1.symm) C.2.2.2.1 (C.2.2.2.2.1 _ hm) (C.2.2.2.2.1 _ ac_na) (C.2.2.2.2.1 _ ac_st) (C.2.2.2.2.1 _ ac_ini) C.2.2.2.2.2.1 hP hD hS q0 q1 t0 t1 ha0 ha1 ht0 ht1 rfl (nn sp h1 (by omega)) (nn dp h2 (by omega)) (nn n h3 (by omega)) (by rw [e1, e3]; omega) (by rw [e2, e3]; omega) (fun i hi => rfl) hfr hlo hdg ?_
  rw [e1, e2, e3, cpy_iI]
  exact fun H1 locs1 hP1 hD1 hS1 => k H1 locs1 ls hP1 hD1 hS1 hl
end JCP
