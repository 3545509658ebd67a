/-! THE JUDGEMENT: at pc, with locals lv, stack st and world ws, the machine comes to Q -/
def JJ (p : Program) (l : Launch) (e : Env) (R : Room) (s : State) (m : MethodId) (args : Array Value) (below : List Frame) (meth : Method) (c : Code) (D : va_G) (A : Nat → Prop) (nL : Nat) (Q : State → Prop) (cells slots pc : Nat) (lv : List (Nat × Value)) (st : List Value) (ws : va_W) : Prop :=
  ∀ (H : Heap) (locs : List Loc) (ls : Array Slot), va_P D cls ws H → va_D A ws → va_S A s.heap H locs → lv_has ls nL lv → W p l e R s m args below meth c H locs cells slots Q (F0 m pc ls st)
/-- the links to private methods of nest mates -/
def NN (U : State) : Prop := ∀ q ∈ nst, va_Nw (nsw q) U
theorem NN.warm {s U : State} (hW : s.WarmedH U.vm) (h : NN s) : NN U := fun q hq => va_Nw.warmM hW (h q hq)
theorem NN.same {s U : State} (e : s.vm = U.vm) (h : NN s) : NN U := fun q hq => va_Nw.same rfl e (h q hq)
/-- what stays the same all through a method -/
def Cx (p : Program) (s : State) (m : MethodId) (args : Array Value) (c : Code) (D : va_G) (tys : List (ClassId × FieldType)) (A : Nat → Prop) (nL : Nat) (cc : ByteArray) (own : String) : Prop :=
  p.tables.exec = Jvm.exec ∧ c.code = cc ∧ c.maxLocals = nL ∧ s.vm.findClass own = some m.cls ∧ (∀ w ∈ wtb, w.before args s = true) ∧ va_K D cls tys s ∧ (∀ q : Nat, s.heap.size ≤ q → A q) ∧ NN s
/-- locals in order of their places -/
def lvp (i : Nat) (v : Value) (lv : List (Nat × Value)) : List (Nat × Value) :=
  lv.filter (fun q => Nat.blt q.1 i && !(q.1 + 1 == i && q.2.category == 2)) ++ (i, v) :: lv.filter (fun q => Nat.blt i q.1)
def lvp2 (i : Nat) (v : Value) (lv : List (Nat × Value)) : List (Nat × Value) :=
  lv.filter (fun q => Nat.blt q.1 i && !(q.1 + 1 == i && q.2.category == 2)) ++ (i, v) :: lv.filter (fun q => Nat.blt (i + 1) q.1)
theorem lvp_has {ls : Array Slot} {nL i : Nat} {v : Value} {lv : List (Nat × Value)} (h : lv_has ls nL ((i, v) :: lv.filter (fun q => !(q.1 == i) && !(q.1 + 1 == i && q.2.category == 2)))) : lv_has ls nL (lvp i v lv) := by
  refine ⟨h.1, h.2.1, fun q hq => h.2.2 q ?_⟩
  rcases List.mem_append.mp hq with h1 | h1
  · have h2 := List.mem_filter.mp h1
    refine List.mem_cons_of_mem _ (List.mem_filter.mpr ⟨h2.1, ?_⟩)
    have h3 := h2.2
    simp only [Bool.and_eq_true] at h3 ⊢
    refine ⟨?_, h3.2⟩
    have h4 : q.1 < i := by simpa [Nat.blt_eq] using h3.1
    simp
    omega
  · rcases List.mem_cons.mp h1 with h2 | h2
    · rw [h2]
      exact List.mem_cons_self
    · have h3 := List.mem_filter.mp h2
      refine List.mem_cons_of_mem _ (List.mem_filter.mpr ⟨h3.1, ?_⟩)
      have h4 : i < q.1 := by simpa [Nat.blt_eq] using h3.2
      have e1 : (q.1 == i) = false := by simp; omega
      have e2 : (q.1 + 1 == i) = false := by simp; omega
      simp [e1, e2]
theorem lvp2_has {ls : Array Slot} {nL i : Nat} {v : Value} {lv : List (Nat × Value)} (h : lv_has ls nL ((i, v) :: lv.filter (fun q => !(q.1 == i) && (!(q.1 == i + 1) && !(q.1 + 1 == i && q.2.category == 2))))) : lv_has ls nL (lvp2 i v lv) := by
  refine ⟨h.1, h.2.1, fun q hq => h.2.2 q ?_⟩
  rcases List.mem_append.mp hq with h1 | h1
  · have h2 := List.mem_filter.mp h1
    refine List.mem_cons_of_mem _ (List.mem_filter.mpr ⟨h2.1, ?_⟩)
    have h3 := h2.2
    simp only [Bool.and_eq_true] at h3 ⊢
    have h4 : q.1 < i := by simpa [Nat.blt_eq] using h3.1
    refine ⟨by simp; omega, by simp; omega, h3.2⟩
  · rcases List.mem_cons.mp h1 with h2 | h2
    · rw [h2]
      exact List.mem_cons_self
    · have h3 := List.mem_filter.mp h2
      refine List.mem_cons_of_mem _ (List.mem_filter.mpr ⟨h3.1, ?_⟩)
      have h4 : i + 1 < q.1 := by simpa [Nat.blt_eq] using h3.2
      have e1 : (q.1 == i) = false := by simp; omega
      have e2 : (q.1 + 1 == i) = false := by simp; omega
      have e3 : (q.1 == i + 1) = false := by simp; omega
      simp [e1, e2, e3]
/-- an int array that holds f, a boolean one that holds f -/
def aI (k : ClassId) (n : Nat) (f : Nat → Int) : va_E := .inl (k, n, .inl (fun j => iI (f j)))
def uI (f : Nat → Int) (k : Nat) (x : Int) : Nat → Int := fun j => if j = k then x else f j
theorem uI_upd (f : Nat → Int) (k : Nat) (x : Int) : upd (fun j => iI (f j)) k (iI x) = fun j => iI (uI f k x j) := by
  funext j
  simp only [upd, uI]
  split <;> rfl
section JR
variable {p : Program} {l : Launch} {e : Env} {R : Room} {s : State} {m : MethodId} {args : Array Value} {below : List Frame} {meth : Method} {c : Code} {D : va_G} {tys : List (ClassId × FieldType)} {A : Nat → Prop} {nL : Nat} {Q : State → Prop} {cells slots pc : Nat} {lv : List (Nat × Value)} {st : List Value} {ws : va_W} {cc : ByteArray} {own : String}

theorem j_iconst (C : Cx p s m args c D tys A nL cc own) {q : Nat} {n : Int} (hdg : decode cc pc = .ok (.iconst n, 1)) (hq : pc + 1 = q) (k : JJ p l e R s m args below meth c D A nL Q cells slots q lv (.int (iI n) :: st) ws) : JJ p l e R s m args below meth c D A nL Q cells slots pc lv st ws := by
  subst hq
  intro H locs ls hP hD hS hl
  exact lv_iconst C.1 C.2.1 hdg rfl (k H locs ls hP hD hS hl)
theorem j_bipush (C : Cx p s m args c D tys A nL cc own) {q : Nat} {n : Int} (hdg : decode cc pc = .ok (.bipush n, 2)) (hq : pc + 2 = q) (hv : (Int8.ofInt n).toInt32 = iI n) (k : JJ p l e R s m args below meth c D A nL Q cells slots q lv (.int (iI n) :: st) ws) : JJ p l e R s m args below meth c D A nL Q cells slots pc lv st ws := by
  subst hq
  intro H locs ls hP hD hS hl
  exact lv_bipush C.1 C.2.1 hdg hv (k H locs ls hP hD hS hl)
theorem j_sipush (C : Cx p s m args c D tys A nL cc own) {q : Nat} {n : Int} (hdg : decode cc pc = .ok (.sipush n, 3)) (hq : pc + 3 = q) (hv : (Int16.ofInt n).toInt32 = iI n) (k : JJ p l e R s m args below meth c D A nL Q cells slots q lv (.int (iI n) :: st) ws) : JJ p l e R s m args below meth c D A nL Q cells slots pc lv st ws := by
  subst hq
  intro H locs ls hP hD hS hl
  exact lv_sipush C.1 C.2.1 hdg hv (k H locs ls hP hD hS hl)
theorem j_lconst (C : Cx p s m args c D tys A nL cc own) {q : Nat} {n : Fin 2} (hdg : decode cc pc = .ok (.lconst n, 1)) (hq : pc + 1 = q) (k : JJ p l e R s m args below meth c D A nL Q cells slots q lv (.long (lI (n : Nat)) :: st) ws) : JJ p l e R s m args below meth c D A nL Q cells slots pc lv st ws := by
  subst hq
  intro H locs ls hP hD hS hl
  exact lv_lconst C.1 C.2.1 hdg (Int64.ofInt_eq_ofNat (n := (n : Nat))).symm (k H locs ls hP hD hS hl)
theorem j_ldc (C : Cx p s m args c D tys A nL cc own) {q index : Nat} {n : Int} (hdg : decode cc pc = .ok (.ldc index, 2)) (hq : pc + 2 = q) (hc : Jvm.Cond.constant own index (iI n) ∈ wtb) (k : JJ p l e R s m args below meth c D A nL Q cells slots q lv (.int (iI n) :: st) ws) : JJ p l e R s m args below meth c D A nL Q cells slots pc lv st ws := by
  subst hq
  intro H locs ls hP hD hS hl
  exact lv_ldc C.1 C.2.1 C.2.2.2.1 (C.2.2.2.2.1 _ hc) hdg (k H locs ls hP hD hS hl)
theorem j_iload_n (C : Cx p s m args c D tys A nL cc own) {q : Nat} {x : Int32} {i : Fin 4} (n : Nat) (hl0 : lv[n]? = some ((i : Nat), .int x)) (hdg : decode cc pc = .ok (.iload_n i, 1)) (hq : pc + 1 = q) (k : JJ p l e R s m args below meth c D A nL Q cells slots q lv (.int x :: st) ws) : JJ p l e R s m args below meth c D A nL Q cells slots pc lv st ws := by
  subst hq
  intro H locs ls hP hD hS hl
  exact lv_iload_n C.1 C.2.1 hdg rfl (lv_at hl n hl0) (k H locs ls hP hD hS hl)
theorem j_iload (C : Cx p s m args c D tys A nL cc own) {q i : Nat} {x : Int32} (n : Nat) (hl0 : lv[n]? = some (i, .int x)) (hdg : decode cc pc = .ok (.iload i, 2)) (hq : pc + 2 = q) (k : JJ p l e R s m args below meth c D A nL Q cells slots q lv (.int x :: st) ws) : JJ p l e R s m args below meth c D A nL Q cells slots pc lv st ws := by
  subst hq
  intro H locs ls hP hD hS hl
  exact lv_iload C.1 C.2.1 hdg (lv_at hl n hl0) (k H locs ls hP hD hS hl)
theorem j_istore_n (C : Cx p s m args c D tys A nL cc own) {q : Nat} {x : Int32} {i : Fin 4} (lv' : List (Nat × Value)) (hl0 : lvp (i : Nat) (.int x) lv = lv') (hi : (i : Nat) < nL) (hdg : decode cc pc = .ok (.istore_n i, 1)) (hq : pc + 1 = q) (k : JJ p l e R s m args below meth c D A nL Q cells slots q lv' st ws) : JJ p l e R s m args below meth c D A nL Q cells slots pc lv (.int x :: st) ws := by
  subst hq
  subst hl0
  intro H locs ls hP hD hS hl
  exact lv_istore_n C.1 C.2.1 hdg rfl hl hi rfl (fun ls' hl' => k H locs ls' hP hD hS (lvp_has hl'))
theorem j_istore (C : Cx p s m args c D tys A nL cc own) {q i : Nat} {x : Int32} (lv' : List (Nat × Value)) (hl0 : lvp i (.int x) lv = lv') (hi : i < nL) (hdg : decode cc pc = .ok (.istore i, 2)) (hq : pc + 2 = q) (k : JJ p l e R s m args below meth c D A nL Q cells slots q lv' st ws) : JJ p l e R s m args below meth c D A nL Q cells slots pc lv (.int x :: st) ws := by
  subst hq
  subst hl0
  intro H locs ls hP hD hS hl
  exact lv_istore C.1 C.2.1 hdg hl hi rfl (fun ls' hl' => k H locs ls' hP hD hS (lvp_has hl'))
theorem j_lload_n (C : Cx p s m args c D tys A nL cc own) {q : Nat} {x : Int64} {i : Fin 4} (n : Nat) (hl0 : lv[n]? = some ((i : Nat), .long x)) (hdg : decode cc pc = .ok (.lload_n i, 1)) (hq : pc + 1 = q) (k : JJ p l e R s m args below meth c D A nL Q cells slots q lv (.long x :: st) ws) : JJ p l e R s m args below meth c D A nL Q cells slots pc lv st ws := by
  subst hq
  intro H locs ls hP hD hS hl
  exact lv_lload_n C.1 C.2.1 hdg rfl (lv_at hl n hl0) (k H locs ls hP hD hS hl)
theorem j_lload (C : Cx p s m args c D tys A nL cc own) {q i : Nat} {x : Int64} (n : Nat) (hl0 : lv[n]? = some (i, .long x)) (hdg : decode cc pc = .ok (.lload i, 2)) (hq : pc + 2 = q) (k : JJ p l e R s m args below meth c D A nL Q cells slots q lv (.long x :: st) ws) : JJ p l e R s m args below meth c D A nL Q cells slots pc lv st ws := by
  subst hq
  intro H locs ls hP hD hS hl
  exact lv_lload C.1 C.2.1 hdg (lv_at hl n hl0) (k H locs ls hP hD hS hl)
theorem j_lstore_n (C : Cx p s m args c D tys A nL cc own) {q : Nat} {x : Int64} {i : Fin 4} (lv' : List (Nat × Value)) (hl0 : lvp2 (i : Nat) (.long x) lv = lv') (hi : (i : Nat) + 1 < nL) (hdg : decode cc pc = .ok (.lstore_n i, 1)) (hq : pc + 1 = q) (k : JJ p l e R s m args below meth c D A nL Q cells slots q lv' st ws) : JJ p l e R s m args below meth c D A nL Q cells slots pc lv (.long x :: st) ws := by
  subst hq
  subst hl0
  intro H locs ls hP hD hS hl
  exact lv_lstore_n C.1 C.2.1 hdg rfl hl hi rfl (fun ls' hl' => k H locs ls' hP hD hS (lvp2_has hl'))
theorem j_lstore (C : Cx p s m args c D tys A nL cc own) {q i : Nat} {x : Int64} (lv' : List (Nat × Value)) (hl0 : lvp2 i (.long x) lv = lv') (hi : i + 1 < nL) (hdg : decode cc pc = .ok (.lstore i, 2)) (hq : pc + 2 = q) (k : JJ p l e R s m args below meth c D A nL Q cells slots q lv' st ws) : JJ p l e R s m args below meth c D A nL Q cells slots pc lv (.long x :: st) ws := by
  subst hq
  subst hl0
  intro H locs ls hP hD hS hl
  exact lv_lstore C.1 C.2.1 hdg hl hi rfl (fun ls' hl' => k H locs ls' hP hD hS (lvp2_has hl'))
theorem j_aload_n (C : Cx p s m args c D tys A nL cc own) {q : Nat} {x : Nat} {i : Fin 4} (n : Nat) (hl0 : lv[n]? = some ((i : Nat), .ref x)) (hdg : decode cc pc = .ok (.aload_n i, 1)) (hq : pc + 1 = q) (k : JJ p l e R s m args below meth c D A nL Q cells slots q lv (.ref x :: st) ws) : JJ p l e R s m args below meth c D A nL Q cells slots pc lv st ws := by
  subst hq
  intro H locs ls hP hD hS hl
  exact lv_aload_n C.1 C.2.1 hdg rfl (lv_at hl n hl0) (k H locs ls hP hD hS hl)
theorem j_aload (C : Cx p s m args c D tys A nL cc own) {q i : Nat} {x : Nat} (n : Nat) (hl0 : lv[n]? = some (i, .ref x)) (hdg : decode cc pc = .ok (.aload i, 2)) (hq : pc + 2 = q) (k : JJ p l e R s m args below meth c D A nL Q cells slots q lv (.ref x :: st) ws) : JJ p l e R s m args below meth c D A nL Q cells slots pc lv st ws := by
  subst hq
  intro H locs ls hP hD hS hl
  exact lv_aload C.1 C.2.1 hdg (lv_at hl n hl0) (k H locs ls hP hD hS hl)
theorem j_astore_n (C : Cx p s m args c D tys A nL cc own) {q : Nat} {x : Nat} {i : Fin 4} (lv' : List (Nat × Value)) (hl0 : lvp (i : Nat) (.ref x) lv = lv') (hi : (i : Nat) < nL) (hdg : decode cc pc = .ok (.astore_n i, 1)) (hq : pc + 1 = q) (k : JJ p l e R s m args below meth c D A nL Q cells slots q lv' st ws) : JJ p l e R s m args below meth c D A nL Q cells slots pc lv (.ref x :: st) ws := by
  subst hq
  subst hl0
  intro H locs ls hP hD hS hl
  exact lv_astore_n C.1 C.2.1 hdg rfl hl hi rfl (fun ls' hl' => k H locs ls' hP hD hS (lvp_has hl'))
theorem j_astore (C : Cx p s m args c D tys A nL cc own) {q i : Nat} {x : Nat} (lv' : List (Nat × Value)) (hl0 : lvp i (.ref x) lv = lv') (hi : i < nL) (hdg : decode cc pc = .ok (.astore i, 2)) (hq : pc + 2 = q) (k : JJ p l e R s m args below meth c D A nL Q cells slots q lv' st ws) : JJ p l e R s m args below meth c D A nL Q cells slots pc lv (.ref x :: st) ws := by
  subst hq
  subst hl0
  intro H locs ls hP hD hS hl
  exact lv_astore C.1 C.2.1 hdg hl hi rfl (fun ls' hl' => k H locs ls' hP hD hS (lvp_has hl'))
theorem j_iinc (C : Cx p s m args c D tys A nL cc own) {q i : Nat} {a b : Int} (n : Nat) (lv' : List (Nat × Value)) (hk : lv[n]? = some (i, .int (iI a))) (hl0 : lvp i (.int (iI (a + b))) lv = lv') (hi : i < nL) (hdg : decode cc pc = .ok (.iinc i b, 3)) (hq : pc + 3 = q) (k : JJ p l e R s m args below meth c D A nL Q cells slots q lv' st ws) : JJ p l e R s m args below meth c D A nL Q cells slots pc lv st ws := by
  subst hq
  subst hl0
  intro H locs ls hP hD hS hl
  exact lv_iinc C.1 C.2.1 hdg hl hk (iI_add a b) hi rfl (fun ls' hl' => k H locs ls' hP hD hS (lvp_has hl'))
theorem j_iadd (C : Cx p s m args c D tys A nL cc own) {q : Nat} {a b : Int} (hdg : decode cc pc = .ok (.iadd, 1)) (hq : pc + 1 = q) (k : JJ p l e R s m args below meth c D A nL Q cells slots q lv (.int (iI (a + b)) :: st) ws) : JJ p l e R s m args below meth c D A nL Q cells slots pc lv (.int (iI b) :: .int (iI a) :: st) ws := by
  subst hq
  intro H locs ls hP hD hS hl
  exact lv_iadd C.1 C.2.1 hdg (by rw [iI_add]; exact (k H locs ls hP hD hS hl))
theorem j_isub (C : Cx p s m args c D tys A nL cc own) {q : Nat} {a b : Int} (hdg : decode cc pc = .ok (.isub, 1)) (hq : pc + 1 = q) (k : JJ p l e R s m args below meth c D A nL Q cells slots q lv (.int (iI (a - b)) :: st) ws) : JJ p l e R s m args below meth c D A nL Q cells slots pc lv (.int (iI b) :: .int (iI a) :: st) ws := by
  subst hq
  intro H locs ls hP hD hS hl
  exact lv_isub C.1 C.2.1 hdg (by rw [iI_sub]; exact (k H locs ls hP hD hS hl))
theorem j_imul (C : Cx p s m args c D tys A nL cc own) {q : Nat} {a b : Int} (hdg : decode cc pc = .ok (.imul, 1)) (hq : pc + 1 = q) (k : JJ p l e R s m args below meth c D A nL Q cells slots q lv (.int (iI (a * b)) :: st) ws) : JJ p l e R s m args below meth c D A nL Q cells slots pc lv (.int (iI b) :: .int (iI a) :: st) ws := by
  subst hq
  intro H locs ls hP hD hS hl
  exact lv_imul C.1 C.2.1 hdg (by rw [iI_mul]; exact (k H locs ls hP hD hS hl))
theorem j_ladd (C : Cx p s m args c D tys A nL cc own) {q : Nat} {a b : Int} (hdg : decode cc pc = .ok (.ladd, 1)) (hq : pc + 1 = q) (k : JJ p l e R s m args below meth c D A nL Q cells slots q lv (.long (lI (a + b)) :: st) ws) : JJ p l e R s m args below meth c D A nL Q cells slots pc lv (.long (lI b) :: .long (lI a) :: st) ws := by
  subst hq
  intro H locs ls hP hD hS hl
  exact lv_ladd C.1 C.2.1 hdg (by rw [lI_add]; exact (k H locs ls hP hD hS hl))
theorem j_i2l (C : Cx p s m args c D tys A nL cc own) {q : Nat} {a : Int} (ha : (-2147483648 ≤ a ∧ a < 2147483648)) (hdg : decode cc pc = .ok (.i2l, 1)) (hq : pc + 1 = q) (k : JJ p l e R s m args below meth c D A nL Q cells slots q lv (.long (lI a) :: st) ws) : JJ p l e R s m args below meth c D A nL Q cells slots pc lv (.int (iI a) :: st) ws := by
  subst hq
  intro H locs ls hP hD hS hl
  exact lv_i2l C.1 C.2.1 hdg (iI_long ha) (k H locs ls hP hD hS hl)
theorem j_idiv (C : Cx p s m args c D tys A nL cc own) {q : Nat} {a b : Int} (ha : 0 ≤ a ∧ a < 2147483648) (hb : 0 < b ∧ b < 2147483648) (hdg : decode cc pc = .ok (.idiv, 1)) (hq : pc + 1 = q) (k : JJ p l e R s m args below meth c D A nL Q cells slots q lv (.int (iI (a / b)) :: st) ws) : JJ p l e R s m args below meth c D A nL Q cells slots pc lv (.int (iI b) :: .int (iI a) :: st) ws := by
  subst hq
  intro H locs ls hP hD hS hl
  exact lv_idiv C.1 C.2.1 hdg (fun h => by have := (iI_eq (a := b) (b := 0) (by omega) (by omega)).mp h; omega) (by rw [iI_div ha hb]; exact (k H locs ls hP hD hS hl))
theorem j_irem (C : Cx p s m args c D tys A nL cc own) {q : Nat} {a b : Int} (ha : 0 ≤ a ∧ a < 2147483648) (hb : 0 < b ∧ b < 2147483648) (hdg : decode cc pc = .ok (.irem, 1)) (hq : pc + 1 = q) (k : JJ p l e R s m args below meth c D A nL Q cells slots q lv (.int (iI (a % b)) :: st) ws) : JJ p l e R s m args below meth c D A nL Q cells slots pc lv (.int (iI b) :: .int (iI a) :: st) ws := by
  subst hq
  intro H locs ls hP hD hS hl
  exact lv_irem C.1 C.2.1 hdg (fun h => by have := (iI_eq (a := b) (b := 0) (by omega) (by omega)).mp h; omega) (by rw [iI_rem ha hb]; exact (k H locs ls hP hD hS hl))
theorem j_dup (C : Cx p s m args c D tys A nL cc own) {q : Nat} {v : Value} (hv : v.category = 1) (hdg : decode cc pc = .ok (.dup, 1)) (hq : pc + 1 = q) (k : JJ p l e R s m args below meth c D A nL Q cells slots q lv (v :: v :: st) ws) : JJ p l e R s m args below meth c D A nL Q cells slots pc lv (v :: st) ws := by
  subst hq
  intro H locs ls hP hD hS hl
  exact lv_dup C.1 C.2.1 hdg hv (k H locs ls hP hD hS hl)
theorem j_dup_x1 (C : Cx p s m args c D tys A nL cc own) {q : Nat} {v w : Value} (hv : v.category = 1) (hw : w.category = 1) (hdg : decode cc pc = .ok (.dup_x1, 1)) (hq : pc + 1 = q) (k : JJ p l e R s m args below meth c D A nL Q cells slots q lv (v :: w :: v :: st) ws) : JJ p l e R s m args below meth c D A nL Q cells slots pc lv (v :: w :: st) ws := by
  subst hq
  intro H locs ls hP hD hS hl
  exact lv_dup_x1 C.1 C.2.1 hdg hv hw (k H locs ls hP hD hS hl)
theorem j_dup2 (C : Cx p s m args c D tys A nL cc own) {q : Nat} {v w : Value} (hv : v.category = 1) (hw : w.category = 1) (hdg : decode cc pc = .ok (.dup2, 1)) (hq : pc + 1 = q) (k : JJ p l e R s m args below meth c D A nL Q cells slots q lv (v :: w :: v :: w :: st) ws) : JJ p l e R s m args below meth c D A nL Q cells slots pc lv (v :: w :: st) ws := by
  subst hq
  intro H locs ls hP hD hS hl
  exact lv_dup2_11 C.1 C.2.1 hdg hv hw (k H locs ls hP hD hS hl)
theorem j_pop (C : Cx p s m args c D tys A nL cc own) {q : Nat} {v : Value} (hv : v.category = 1) (hdg : decode cc pc = .ok (.pop, 1)) (hq : pc + 1 = q) (k : JJ p l e R s m args below meth c D A nL Q cells slots q lv st ws) : JJ p l e R s m args below meth c D A nL Q cells slots pc lv (v :: st) ws := by
  subst hq
  intro H locs ls hP hD hS hl
  exact lv_pop C.1 C.2.1 hdg hv (k H locs ls hP hD hS hl)
theorem j_goto (C : Cx p s m args c D tys A nL cc own) {off : Int} (q : Nat) (hdg : decode cc pc = .ok (.goto off, 3)) (ht : (pc : Int) + off = (q : Int)) (k : JJ p l e R s m args below meth c D A nL Q cells slots q lv st ws) : JJ p l e R s m args below meth c D A nL Q cells slots pc lv st ws := by
  intro H locs ls hP hD hS hl
  exact lv_goto C.1 C.2.1 hdg ht (k H locs ls hP hD hS hl)
theorem j_icmp_eq (C : Cx p s m args c D tys A nL cc own) {off a b : Int} (t q : Nat) (hdg : decode cc pc = .ok (.if_icmp .eq off, 3)) (ht : (pc : Int) + off = (t : Int)) (hq : pc + 3 = q) (ha0 : (-2147483648 ≤ a ∧ a < 2147483648)) (hb0 : (-2147483648 ≤ b ∧ b < 2147483648)) (kt : a = b → JJ p l e R s m args below meth c D A nL Q cells slots t lv st ws) (kf : ¬ (a = b) → JJ p l e R s m args below meth c D A nL Q cells slots q lv st ws) : JJ p l e R s m args below meth c D A nL Q cells slots pc lv (.int (iI b) :: .int (iI a) :: st) ws := by
  subst hq
  intro H locs ls hP hD hS hl
  exact lv_icmp_eq C.1 C.2.1 hdg ht (fun h => kt ((iI_eq ha0 hb0).mp h) H locs ls hP hD hS hl) (fun h => kf (fun h2 => h ((iI_eq ha0 hb0).mpr h2)) H locs ls hP hD hS hl)
theorem j_if_eq (C : Cx p s m args c D tys A nL cc own) {off a : Int} (t q : Nat) (hdg : decode cc pc = .ok (.ifCond .eq off, 3)) (ht : (pc : Int) + off = (t : Int)) (hq : pc + 3 = q) (ha0 : (-2147483648 ≤ a ∧ a < 2147483648)) (kt : a = 0 → JJ p l e R s m args below meth c D A nL Q cells slots t lv st ws) (kf : ¬ (a = 0) → JJ p l e R s m args below meth c D A nL Q cells slots q lv st ws) : JJ p l e R s m args below meth c D A nL Q cells slots pc lv (.int (iI a) :: st) ws := by
  subst hq
  have hb0 : (-2147483648 : Int) ≤ 0 ∧ (0 : Int) < 2147483648 := by decide
  intro H locs ls hP hD hS hl
  exact lv_if_eq C.1 C.2.1 hdg ht (fun h => kt ((iI_eq (a := a) (b := 0) ha0 hb0).mp h) H locs ls hP hD hS hl) (fun h => kf (fun h2 => h ((iI_eq (a := a) (b := 0) ha0 hb0).mpr h2)) H locs ls hP hD hS hl)
theorem j_icmp_ne (C : Cx p s m args c D tys A nL cc own) {off a b : Int} (t q : Nat) (hdg : decode cc pc = .ok (.if_icmp .ne off, 3)) (ht : (pc : Int) + off = (t : Int)) (hq : pc + 3 = q) (ha0 : (-2147483648 ≤ a ∧ a < 2147483648)) (hb0 : (-2147483648 ≤ b ∧ b < 2147483648)) (kt : ¬ a = b → JJ p l e R s m args below meth c D A nL Q cells slots t lv st ws) (kf : a = b → JJ p l e R s m args below meth c D A nL Q cells slots q lv st ws) : JJ p l e R s m args below meth c D A nL Q cells slots pc lv (.int (iI b) :: .int (iI a) :: st) ws := by
  subst hq
  intro H locs ls hP hD hS hl
  exact lv_icmp_ne C.1 C.2.1 hdg ht (fun h => kt (fun h2 => h ((iI_eq ha0 hb0).mpr h2)) H locs ls hP hD hS hl) (fun h => kf ((iI_eq ha0 hb0).mp h) H locs ls hP hD hS hl)
theorem j_if_ne (C : Cx p s m args c D tys A nL cc own) {off a : Int} (t q : Nat) (hdg : decode cc pc = .ok (.ifCond .ne off, 3)) (ht : (pc : Int) + off = (t : Int)) (hq : pc + 3 = q) (ha0 : (-2147483648 ≤ a ∧ a < 2147483648)) (kt : ¬ a = 0 → JJ p l e R s m args below meth c D A nL Q cells slots t lv st ws) (kf : a = 0 → JJ p l e R s m args below meth c D A nL Q cells slots q lv st ws) : JJ p l e R s m args below meth c D A nL Q cells slots pc lv (.int (iI a) :: st) ws := by
  subst hq
  have hb0 : (-2147483648 : Int) ≤ 0 ∧ (0 : Int) < 2147483648 := by decide
  intro H locs ls hP hD hS hl
  exact lv_if_ne C.1 C.2.1 hdg ht (fun h => kt (fun h2 => h ((iI_eq (a := a) (b := 0) ha0 hb0).mpr h2)) H locs ls hP hD hS hl) (fun h => kf ((iI_eq (a := a) (b := 0) ha0 hb0).mp h) H locs ls hP hD hS hl)
theorem j_icmp_lt (C : Cx p s m args c D tys A nL cc own) {off a b : Int} (t q : Nat) (hdg : decode cc pc = .ok (.if_icmp .lt off, 3)) (ht : (pc : Int) + off = (t : Int)) (hq : pc + 3 = q) (ha0 : (-2147483648 ≤ a ∧ a < 2147483648)) (hb0 : (-2147483648 ≤ b ∧ b < 2147483648)) (kt : a < b → JJ p l e R s m args below meth c D A nL Q cells slots t lv st ws) (kf : ¬ (a < b) → JJ p l e R s m args below meth c D A nL Q cells slots q lv st ws) : JJ p l e R s m args below meth c D A nL Q cells slots pc lv (.int (iI b) :: .int (iI a) :: st) ws := by
  subst hq
  intro H locs ls hP hD hS hl
  exact lv_icmp_lt C.1 C.2.1 hdg ht (fun h => kt ((iI_lt ha0 hb0).mp h) H locs ls hP hD hS hl) (fun h => kf (fun h2 => h ((iI_lt ha0 hb0).mpr h2)) H locs ls hP hD hS hl)
theorem j_if_lt (C : Cx p s m args c D tys A nL cc own) {off a : Int} (t q : Nat) (hdg : decode cc pc = .ok (.ifCond .lt off, 3)) (ht : (pc : Int) + off = (t : Int)) (hq : pc + 3 = q) (ha0 : (-2147483648 ≤ a ∧ a < 2147483648)) (kt : a < 0 → JJ p l e R s m args below meth c D A nL Q cells slots t lv st ws) (kf : ¬ (a < 0) → JJ p l e R s m args below meth c D A nL Q cells slots q lv st ws) : JJ p l e R s m args below meth c D A nL Q cells slots pc lv (.int (iI a) :: st) ws := by
  subst hq
  have hb0 : (-2147483648 : Int) ≤ 0 ∧ (0 : Int) < 2147483648 := by decide
  intro H locs ls hP hD hS hl
  exact lv_if_lt C.1 C.2.1 hdg ht (fun h => kt ((iI_lt (a := a) (b := 0) ha0 hb0).mp h) H locs ls hP hD hS hl) (fun h => kf (fun h2 => h ((iI_lt (a := a) (b := 0) ha0 hb0).mpr h2)) H locs ls hP hD hS hl)
theorem j_icmp_ge (C : Cx p s m args c D tys A nL cc own) {off a b : Int} (t q : Nat) (hdg : decode cc pc = .ok (.if_icmp .ge off, 3)) (ht : (pc : Int) + off = (t : Int)) (hq : pc + 3 = q) (ha0 : (-2147483648 ≤ a ∧ a < 2147483648)) (hb0 : (-2147483648 ≤ b ∧ b < 2147483648)) (kt : b ≤ a → JJ p l e R s m args below meth c D A nL Q cells slots t lv st ws) (kf : ¬ (b ≤ a) → JJ p l e R s m args below meth c D A nL Q cells slots q lv st ws) : JJ p l e R s m args below meth c D A nL Q cells slots pc lv (.int (iI b) :: .int (iI a) :: st) ws := by
  subst hq
  intro H locs ls hP hD hS hl
  exact lv_icmp_ge C.1 C.2.1 hdg ht (fun h => kt ((iI_le hb0 ha0).mp h) H locs ls hP hD hS hl) (fun h => kf (fun h2 => h ((iI_le hb0 ha0).mpr h2)) H locs ls hP hD hS hl)
theorem j_if_ge (C : Cx p s m args c D tys A nL cc own) {off a : Int} (t q : Nat) (hdg : decode cc pc = .ok (.ifCond .ge off, 3)) (ht : (pc : Int) + off = (t : Int)) (hq : pc + 3 = q) (ha0 : (-2147483648 ≤ a ∧ a < 2147483648)) (kt : 0 ≤ a → JJ p l e R s m args below meth c D A nL Q cells slots t lv st ws) (kf : ¬ (0 ≤ a) → JJ p l e R s m args below meth c D A nL Q cells slots q lv st ws) : JJ p l e R s m args below meth c D A nL Q cells slots pc lv (.int (iI a) :: st) ws := by
  subst hq
  have hb0 : (-2147483648 : Int) ≤ 0 ∧ (0 : Int) < 2147483648 := by decide
  intro H locs ls hP hD hS hl
  exact lv_if_ge C.1 C.2.1 hdg ht (fun h => kt ((iI_le (a := 0) (b := a) hb0 ha0).mp h) H locs ls hP hD hS hl) (fun h => kf (fun h2 => h ((iI_le (a := 0) (b := a) hb0 ha0).mpr h2)) H locs ls hP hD hS hl)
theorem j_icmp_gt (C : Cx p s m args c D tys A nL cc own) {off a b : Int} (t q : Nat) (hdg : decode cc pc = .ok (.if_icmp .gt off, 3)) (ht : (pc : Int) + off = (t : Int)) (hq : pc + 3 = q) (ha0 : (-2147483648 ≤ a ∧ a < 2147483648)) (hb0 : (-2147483648 ≤ b ∧ b < 2147483648)) (kt : b < a → JJ p l e R s m args below meth c D A nL Q cells slots t lv st ws) (kf : ¬ (b < a) → JJ p l e R s m args below meth c D A nL Q cells slots q lv st ws) : JJ p l e R s m args below meth c D A nL Q cells slots pc lv (.int (iI b) :: .int (iI a) :: st) ws := by
  subst hq
  intro H locs ls hP hD hS hl
  exact lv_icmp_gt C.1 C.2.1 hdg ht (fun h => kt ((iI_lt hb0 ha0).mp h) H locs ls hP hD hS hl) (fun h => kf (fun h2 => h ((iI_lt hb0 ha0).mpr h2)) H locs ls hP hD hS hl)
theorem j_if_gt (C : Cx p s m args c D tys A nL cc own) {off a : Int} (t q : Nat) (hdg : decode cc pc = .ok (.ifCond .gt off, 3)) (ht : (pc : Int) + off = (t : Int)) (hq : pc + 3 = q) (ha0 : (-2147483648 ≤ a ∧ a < 2147483648)) (kt : 0 < a → JJ p l e R s m args below meth c D A nL Q cells slots t lv st ws) (kf : ¬ (0 < a) → JJ p l e R s m args below meth c D A nL Q cells slots q lv st ws) : JJ p l e R s m args below meth c D A nL Q cells slots pc lv (.int (iI a) :: st) ws := by
  subst hq
  have hb0 : (-2147483648 : Int) ≤ 0 ∧ (0 : Int) < 2147483648 := by decide
  intro H locs ls hP hD hS hl
  exact lv_if_gt C.1 C.2.1 hdg ht (fun h => kt ((iI_lt (a := 0) (b := a) hb0 ha0).mp h) H locs ls hP hD hS hl) (fun h => kf (fun h2 => h ((iI_lt (a := 0) (b := a) hb0 ha0).mpr h2)) H locs ls hP hD hS hl)
theorem j_icmp_le (C : Cx p s m args c D tys A nL cc own) {off a b : Int} (t q : Nat) (hdg : decode cc pc = .ok (.if_icmp .le off, 3)) (ht : (pc : Int) + off = (t : Int)) (hq : pc + 3 = q) (ha0 : (-2147483648 ≤ a ∧ a < 2147483648)) (hb0 : (-2147483648 ≤ b ∧ b < 2147483648)) (kt : a ≤ b → JJ p l e R s m args below meth c D A nL Q cells slots t lv st ws) (kf : ¬ (a ≤ b) → JJ p l e R s m args below meth c D A nL Q cells slots q lv st ws) : JJ p l e R s m args below meth c D A nL Q cells slots pc lv (.int (iI b) :: .int (iI a) :: st) ws := by
  subst hq
  intro H locs ls hP hD hS hl
  exact lv_icmp_le C.1 C.2.1 hdg ht (fun h => kt ((iI_le ha0 hb0).mp h) H locs ls hP hD hS hl) (fun h => kf (fun h2 => h ((iI_le ha0 hb0).mpr h2)) H locs ls hP hD hS hl)
theorem j_if_le (C : Cx p s m args c D tys A nL cc own) {off a : Int} (t q : Nat) (hdg : decode cc pc = .ok (.ifCond .le off, 3)) (ht : (pc : Int) + off = (t : Int)) (hq : pc + 3 = q) (ha0 : (-2147483648 ≤ a ∧ a < 2147483648)) (kt : a ≤ 0 → JJ p l e R s m args below meth c D A nL Q cells slots t lv st ws) (kf : ¬ (a ≤ 0) → JJ p l e R s m args below meth c D A nL Q cells slots q lv st ws) : JJ p l e R s m args below meth c D A nL Q cells slots pc lv (.int (iI a) :: st) ws := by
  subst hq
  have hb0 : (-2147483648 : Int) ≤ 0 ∧ (0 : Int) < 2147483648 := by decide
  intro H locs ls hP hD hS hl
  exact lv_if_le C.1 C.2.1 hdg ht (fun h => kt ((iI_le (a := a) (b := 0) ha0 hb0).mp h) H locs ls hP hD hS hl) (fun h => kf (fun h2 => h ((iI_le (a := a) (b := 0) ha0 hb0).mpr h2)) H locs ls hP hD hS hl)
theorem j_lcmp (C : Cx p s m args c D tys A nL cc own) {q : Nat} {a b : Int} (ha0 : -9223372036854775808 ≤ a ∧ a < 9223372036854775808) (hb0 : -9223372036854775808 ≤ b ∧ b < 9223372036854775808) (hdg : decode cc pc = .ok (.lcmp, 1)) (hq : pc + 1 = q) (k : JJ p l e R s m args below meth c D A nL Q cells slots q lv (.int (iI (if b < a then 1 else if a = b then 0 else -1)) :: st) ws) : JJ p l e R s m args below meth c D A nL Q cells slots pc lv (.long (lI b) :: .long (lI a) :: st) ws := by
  subst hq
  intro H locs ls hP hD hS hl
  refine W.lcmp C.1 C.2.1 hdg ?_
  have e : lg_cmp (lI a) (lI b) = iI (if b < a then 1 else if a = b then 0 else -1) := by
    unfold lg_cmp
    have h1 : lI a > lI b ↔ b < a := lI_lt hb0 ha0
    have h2 : lI a = lI b ↔ a = b := ⟨fun h => by have := congrArg Int64.toInt h; rwa [lI_toInt ha0, lI_toInt hb0] at this, fun h => by rw [h]⟩
    by_cases c1 : b < a
    · rw [if_pos (h1.mpr c1), if_pos c1]; rfl
    · rw [if_neg (fun h => c1 (h1.mp h)), if_neg c1]
      by_cases c2 : a = b
      · rw [if_pos (h2.mpr c2), if_pos c2]; rfl
      · rw [if_neg (fun h => c2 (h2.mp h)), if_neg c2]; rfl
  rw [e]
  exact (k H locs ls hP hD hS hl)
theorem j_get (C : Cx p s m args c D tys A nL cc own) {CC : String} {T : u_T} {N ci index a q : Nat} {fs : List Value} {v : Value} (hin : ∀ w ∈ u_ws CC T N, w ∈ wtb) (hc : cls[ci]? = some (CC, T, N)) (q0 : Nat) (he : ws[q0]? = some (a, .inr (ci, fs))) (k0 : Nat) (hk : k0 < N) (hv : fs[k0]? = some v) (ht : (T k0).1 = CC) (hlink : Cond.fieldLink own index CC (T k0).2.1 (T k0).2.2.1 ∈ wtb) (hdg : decode cc pc = .ok (.getfield index, 3)) (hq : pc + 3 = q) (k : JJ p l e R s m args below meth c D A nL Q cells slots q lv (v :: st) ws) : JJ p l e R s m args below meth c D A nL Q cells slots pc lv (.ref a :: st) ws := by
  subst hq
  intro H locs ls hP hD hS hl
  exact va_get C.1 C.2.1 C.2.2.2.2.1 hin C.2.2.2.1 C.2.2.2.2.2.1 hP q0 he hc k0 hk (C.2.2.2.2.1 _ hlink) (fun _ h => by rw [ht] at h; exact h) hv hdg (k H locs ls hP hD hS hl)
theorem j_put (C : Cx p s m args c D tys A nL cc own) {CC : String} {T : u_T} {N ci index a q : Nat} {fs : List Value} {v : Value} {ty : FieldType} (hin : ∀ w ∈ u_ws CC T N, w ∈ wtb) (hc : cls[ci]? = some (CC, T, N)) (ty0 : Nat → FieldType) (hty : ∀ k, k < N → parseFieldDescriptor (T k).2.2.1 = some (ty0 k)) (hnm : ∀ a, a < N → ∀ b, b < N → a ≠ b → (T a).2.1 ≠ (T b).2.1) (q0 : Nat) (he : ws[q0]? = some (a, .inr (ci, fs))) (k0 : Nat) (hk : k0 < N) (ht : (T k0).1 = CC) (hlink : Cond.fieldLink own index CC (T k0).2.1 (T k0).2.2.1 ∈ wtb) (hfin : (T k0).2.2.2 = false) (hd : parseFieldDescriptor (T k0).2.2.1 = some ty) (hn : narrow ty v = v) (hfit : fits ty v = true) (hl0 : k0 < fs.length) (ws' : va_W) (hws : ws.set q0 (a, .inr (ci, fs.set k0 v)) = ws') (hdg : decode cc pc = .ok (.putfield index, 3)) (hq : pc + 3 = q) (k : JJ p l e R s m args below meth c D A nL Q cells slots q lv st ws') : JJ p l e R s m args below meth c D A nL Q cells slots pc lv (v :: .ref a :: st) ws := by
  subst hq
  subst hws
  intro H locs ls hP hD hS hl
  exact va_put C.1 C.2.1 C.2.2.2.2.1 hin ty0 hty hnm C.2.2.2.1 C.2.2.2.2.2.1 hP hD hS q0 he hc k0 hk (C.2.2.2.2.1 _ hlink) (fun _ h => by rw [ht] at h; exact h) hfin hd hn hfit hl0 hdg (fun H1 locs1 hP1 hD1 hS1 => k H1 locs1 ls hP1 hD1 hS1 hl)
theorem j_putF (C : Cx p s m args c D tys A nL cc own) {CC : String} {T : u_T} {N ci index a q : Nat} {fs : List Value} {v : Value} {ty : FieldType} (hin : ∀ w ∈ u_ws CC T N, w ∈ wtb) (hc : cls[ci]? = some (CC, T, N)) (ty0 : Nat → FieldType) (hty : ∀ k, k < N → parseFieldDescriptor (T k).2.2.1 = some (ty0 k)) (hnm : ∀ a, a < N → ∀ b, b < N → a ≠ b → (T a).2.1 ≠ (T b).2.1) (hi2 : meth.name = "<init>") (q0 : Nat) (he : ws[q0]? = some (a, .inr (ci, fs))) (k0 : Nat) (hk : k0 < N) (ht : (T k0).1 = CC) (hco : CC = own) (hlink : Cond.fieldLink own index CC (T k0).2.1 (T k0).2.2.1 ∈ wtb) (hfin : (T k0).2.2.2 = true) (hd : parseFieldDescriptor (T k0).2.2.1 = some ty) (hn : narrow ty v = v) (hfit : fits ty v = true) (hl0 : k0 < fs.length) (ws' : va_W) (hws : ws.set q0 (a, .inr (ci, fs.set k0 v)) = ws') (hdg : decode cc pc = .ok (.putfield index, 3)) (hq : pc + 3 = q) (k : JJ p l e R s m args below meth c D A nL Q cells slots q lv st ws') : JJ p l e R s m args below meth c D A nL Q cells slots pc lv (v :: .ref a :: st) ws := by
  subst hq
  subst hws
  intro H locs ls hP hD hS hl
  exact va_putF C.1 C.2.1 C.2.2.2.2.1 hin ty0 hty hnm C.2.2.2.1 C.2.2.2.2.2.1 hP hD hS q0 he hc k0 hk (C.2.2.2.2.1 _ hlink) (fun _ h => by rw [ht] at h; exact h) hfin hi2 (ht.trans hco) hd hn hfit hl0 hdg (fun H1 locs1 hP1 hD1 hS1 => k H1 locs1 ls hP1 hD1 hS1 hl)
theorem j_iald (C : Cx p s m args c D tys A nL cc own) {q a n : Nat} {cA : ClassId} {f : Nat → Int} {z : Int} (q0 t0 : Nat) (ha : ws[q0]? = some (a, aI cA n f)) (ht : tys[t0]? = some (cA, .int)) (hn : n < 2147483648) (hz : 0 ≤ z ∧ z < (n : Int)) (hdg : decode cc pc = .ok (.iaload, 1)) (hq : pc + 1 = q) (k : JJ p l e R s m args below meth c D A nL Q cells slots q lv (.int (iI (f z.toNat)) :: st) ws) : JJ p l e R s m args below meth c D A nL Q cells slots pc lv (.int (iI z) :: .ref a :: st) ws := by
  subst hq
  intro H locs ls hP hD hS hl
  refine va_iald C.1 C.2.1 C.2.2.2.2.2.1 hP q0 t0 ha ht (iI_in hz hn) hdg ?_
  rw [iI_clamp (by omega)]
  exact (k H locs ls hP hD hS hl)
theorem j_zald (C : Cx p s m args c D tys A nL cc own) {q a n : Nat} {cA : ClassId} {f : Nat → Int} {z : Int} (q0 t0 : Nat) (ha : ws[q0]? = some (a, aI cA n f)) (ht : tys[t0]? = some (cA, .boolean)) (hn : n < 2147483648) (hz : 0 ≤ z ∧ z < (n : Int)) (hdg : decode cc pc = .ok (.baload, 1)) (hq : pc + 1 = q) (k : JJ p l e R s m args below meth c D A nL Q cells slots q lv (.int (iI (f z.toNat)) :: st) ws) : JJ p l e R s m args below meth c D A nL Q cells slots pc lv (.int (iI z) :: .ref a :: st) ws := by
  subst hq
  intro H locs ls hP hD hS hl
  refine va_zald C.1 C.2.1 C.2.2.2.2.2.1 hP q0 t0 ha ht (iI_in hz hn) hdg ?_
  rw [iI_clamp (by omega)]
  exact (k H locs ls hP hD hS hl)
theorem j_iast (C : Cx p s m args c D tys A nL cc own) {q a n : Nat} {cA : ClassId} {f : Nat → Int} {z x : Int} (q0 t0 : Nat) (ha : ws[q0]? = some (a, aI cA n f)) (ht : tys[t0]? = some (cA, .int)) (hn : n < 2147483648) (hz : 0 ≤ z ∧ z < (n : Int)) (ws' : va_W) (hws : ws.set q0 (a, aI cA n (uI f z.toNat x)) = ws') (hdg : decode cc pc = .ok (.iastore, 1)) (hq : pc + 1 = q) (k : JJ p l e R s m args below meth c D A nL Q cells slots q lv st ws') : JJ p l e R s m args below meth c D A nL Q cells slots pc lv (.int (iI x) :: .int (iI z) :: .ref a :: st) ws := by
  subst hq
  subst hws
  intro H locs ls hP hD hS hl
  refine va_iast C.1 C.2.1 C.2.2.2.2.2.1 hP hD hS q0 t0 ha ht (iI_in hz hn) hdg ?_
  rw [iI_clamp (by omega), uI_upd]
  exact fun H1 locs1 hP1 hD1 hS1 => k H1 locs1 ls hP1 hD1 hS1 hl
theorem nar_b (x : Int) (hx : x = 0 ∨ x = 1) : vp_nar .boolean (iI x) = iI x := by
  rcases hx with rfl | rfl <;> rfl
theorem j_zast (C : Cx p s m args c D tys A nL cc own) {q a n : Nat} {cA : ClassId} {f : Nat → Int} {z x : Int} (q0 t0 : Nat) (ha : ws[q0]? = some (a, aI cA n f)) (ht : tys[t0]? = some (cA, .boolean)) (hn : n < 2147483648) (hz : 0 ≤ z ∧ z < (n : Int)) (hx : x = 0 ∨ x = 1) (ws' : va_W) (hws : ws.set q0 (a, aI cA n (uI f z.toNat x)) = ws') (hdg : decode cc pc = .ok (.bastore, 1)) (hq : pc + 1 = q) (k : JJ p l e R s m args below meth c D A nL Q cells slots q lv st ws') : JJ p l e R s m args below meth c D A nL Q cells slots pc lv (.int (iI x) :: .int (iI z) :: .ref a :: st) ws := by
  subst hq
  subst hws
  intro H locs ls hP hD hS hl
  refine va_zast C.1 C.2.1 C.2.2.2.2.2.1 hP hD hS q0 t0 ha ht (iI_in hz hn) hdg ?_
  rw [iI_clamp (by omega), nar_b x hx, uI_upd]
  exact fun H1 locs1 hP1 hD1 hS1 => k H1 locs1 ls hP1 hD1 hS1 hl
theorem j_alen (C : Cx p s m args c D tys A nL cc own) {q a n : Nat} {cA : ClassId} {f : Nat → Int} {ty : FieldType} (q0 t0 : Nat) (ha : ws[q0]? = some (a, aI cA n f)) (ht : tys[t0]? = some (cA, ty)) (hdg : decode cc pc = .ok (.arraylength, 1)) (hq : pc + 1 = q) (k : JJ p l e R s m args below meth c D A nL Q cells slots q lv (.int (iI (n : Int)) :: st) ws) : JJ p l e R s m args below meth c D A nL Q cells slots pc lv (.ref a :: st) ws := by
  subst hq
  intro H locs ls hP hD hS hl
  exact va_alen C.1 C.2.1 C.2.2.2.2.2.1 hP q0 t0 ha ht (iI_nat n) hdg (k H locs ls hP hD hS hl)
end JR
