/-! CONTRACTS: on these values and in this world the method answers v and leaves the world w1 -/
def QD (D : va_G) (v : Option Value) (w1 : va_W) (A : Nat → Prop) : Array Value → State → Outcome → State → Prop := fun _ st oc t => (oc = .returned v ∧ va_P D cls w1 t.heap ∧ va_D A w1) ∧ va_F A st t
def PD (D : va_G) (tys : List (ClassId × FieldType)) (sz : Nat) (av : List Value) (w0 : va_W) : Array Value → State → Prop := va_Pc av (fun U => U.heap.size = sz ∧ va_P D cls w0 U.heap ∧ va_K D cls tys U ∧ va_D (fun _ => True) w0 ∧ NN U)
def Dt (l : Launch) (D : va_G) (tys : List (ClassId × FieldType)) (y : MethodName) (wds : List Cond) (rm : Room) (av : List Value) (w0 : va_W) (v : Option Value) (w1 : va_W) : Prop :=
  ∀ sz : Nat, Met l y wds rm (PD D tys sz av w0) (QD D v w1 (va_A w0 sz)) rm.cells rm.slots (va_A w0 sz)
/-- where the method makes cells: the world behind it has addresses that nobody knows -/
def QE (D : va_G) {ι : Type} (w1 : ι → va_W) (A : Nat → Prop) : Array Value → State → Outcome → State → Prop := fun _ st oc t => (∃ i : ι, oc = .returned none ∧ va_P D cls (w1 i) t.heap ∧ va_D A (w1 i)) ∧ va_F A st t
def De (l : Launch) (D : va_G) (tys : List (ClassId × FieldType)) (y : MethodName) (wds : List Cond) (rm : Room) (av : List Value) (w0 : va_W) {ι : Type} (w1 : ι → va_W) : Prop :=
  ∀ sz : Nat, Met l y wds rm (PD D tys sz av w0) (QE D w1 (va_A w0 sz)) rm.cells rm.slots (va_A w0 sz)
theorem PD.blind {D : va_G} {tys : List (ClassId × FieldType)} {sz : Nat} {av : List Value} {w0 : va_W} : FrameBlind (PD D tys sz av w0) := by
  intro a U g mk q
  obtain ⟨q0, q1, qP, qK, qD, qN⟩ := q
  exact ⟨q0, q1, qP, va_K.moved (u := U) (U := U.calling g mk a) (Vm.Alike.refl U.vm) qK, qD, NN.same (U := U.calling g mk a) rfl qN⟩
theorem Met.toJ {l : Launch} {D : va_G} {tys : List (ClassId × FieldType)} {y : MethodName} {rm : Room} {av : List Value} {w0 : va_W} {cc : ByteArray} {maxL n : Nat} {ret : Option FieldType} {own : String} (Qc : (Nat → Prop) → Array Value → State → Outcome → State → Prop)
    (hk : Mk y cc maxL ret n) (ho : y.cls = own) (hlen : (lg_sl av).length ≤ maxL)
    (body : ∀ (p : Program) (e : Env) (s : State) (m : MethodId) (args : Array Value) (below : List Frame) (meth : Method) (c : Code) (A : Nat → Prop), Cx p s m args c D tys A maxL cc own → meth.sig.returnType = ret → meth.locks = false → meth.name = y.name →
      JJ p l e rm s m args below meth c D A maxL (MQ below (Qc A) args s rm.cells rm.slots A) 0 0 0 (lv_args 0 av) [] w0) :
    ∀ sz : Nat, Met l y (Cond.code y cc maxL ret :: wtb) rm (PD D tys sz av w0) (Qc (va_A w0 sz)) rm.cells rm.slots (va_A w0 sz) := by
  intro sz
  refine va_MetF (cc := cc) (maxL := maxL) (ret := ret) hk.2.2.2.2.2 rfl ?_
  intro p e s m args below meth c s₁ B hml hv
  obtain ⟨rfl, hsz, hP, hK, hD0, hN⟩ := hv
  have hts := atoms_spec (ws := Cond.code y cc maxL ret :: wtb) B.pre
  have hown : s.vm.findClass own = some m.cls := by rw [← ho]; exact findClass_of_methodNamed B.named
  have hlocks := B.notSynchronized
  have hin : meth.name = y.name := (name_of_methodNamed B.named B.method).1
  subst hsz
  have hD := hD0.self (sz := s.heap.size)
  have hl := lv_entry av (n := maxL) hlen
  rw [lg_entry_eq]
  exact body p e s m _ below meth c (va_A w0 s.heap.size) ⟨B.exec, B.bytes, hml, hown, fun w h => hts w (List.mem_cons_of_mem _ h), hK, fun q h => Or.inr h, hN⟩ B.returns hlocks hin s.heap [] _ hP hD va_S.rf hl
section JC
variable {p : Program} {l : Launch} {e : Env} {R : Room} {s : State} {m : MethodId} {args : Array Value} {below : List Frame} {meth : Method} {c : Code} {D : va_G} {tys : List (ClassId × FieldType)} {A : Nat → Prop} {nL : Nat} {Q : State → Prop} {cells slots pc : Nat} {lv : List (Nat × Value)} {st : List Value} {ws : va_W} {cc : ByteArray} {own : String}
theorem j_widen {k n : Nat} (h1 : cells ≤ k) (h2 : slots ≤ n) (h : JJ p l e R s m args below meth c D A nL Q k n pc lv st ws) : JJ p l e R s m args below meth c D A nL Q cells slots pc lv st ws :=
  fun H locs ls hP hD hS hl => W.widen h1 h2 (h H locs ls hP hD hS hl)
/-- fewer locals -/
theorem j_lv {lv' : List (Nat × Value)} (is : List Nat) (h0 : lv_pick lv is = lv') (h : JJ p l e R s m args below meth c D A nL Q cells slots pc lv' st ws) : JJ p l e R s m args below meth c D A nL Q cells slots pc lv st ws :=
  fun H locs ls hP hD hS hl => h H locs ls hP hD hS (lv_sub hl is h0)
theorem j_iret (C : Cx p s m args c D tys A nL cc own) (hr : meth.sig.returnType = some .int) (hlk : meth.locks = false) {v : Option Value} {w1 : va_W} {x : Int32} (hdg : decode cc pc = .ok (.ireturn, 1)) (hv : v = some (.int x)) (hw : ws = w1) : JJ p l e R s m args below meth c D A nL (MQ below (QD D v w1 A) args s cells slots A) cells slots pc lv [.int x] ws := by
  subst hv
  subst hw
  intro H locs ls hP hD hS hl
  exact W.iret C.1 C.2.1 hr (fun t ht hW => ⟨⟨rfl, by rw [ht]; exact hP, hD⟩, hS.F ht⟩) hS.2.2 hdg hlk
theorem j_zret (C : Cx p s m args c D tys A nL cc own) (hr : meth.sig.returnType = some .boolean) (hlk : meth.locks = false) {v : Option Value} {w1 : va_W} {x : Int} (hx : x = 0 ∨ x = 1) (hdg : decode cc pc = .ok (.ireturn, 1)) (hv : v = some (.int (iI x))) (hw : ws = w1) : JJ p l e R s m args below meth c D A nL (MQ below (QD D v w1 A) args s cells slots A) cells slots pc lv [.int (iI x)] ws := by
  subst hv
  subst hw
  intro H locs ls hP hD hS hl
  exact W.zret (ty := .boolean) C.1 C.2.1 hr (by rcases hx with rfl | rfl <;> rfl) (fun t ht hW => ⟨⟨rfl, by rw [ht]; exact hP, hD⟩, hS.F ht⟩) hS.2.2 hdg hlk
theorem j_lret (C : Cx p s m args c D tys A nL cc own) (hr : meth.sig.returnType = some .long) (hlk : meth.locks = false) {v : Option Value} {w1 : va_W} {x : Int64} (hdg : decode cc pc = .ok (.lreturn, 1)) (hv : v = some (.long x)) (hw : ws = w1) : JJ p l e R s m args below meth c D A nL (MQ below (QD D v w1 A) args s cells slots A) cells slots pc lv [.long x] ws := by
  subst hv
  subst hw
  intro H locs ls hP hD hS hl
  exact W.lret C.1 C.2.1 hr (fun t ht hW => ⟨⟨rfl, by rw [ht]; exact hP, hD⟩, hS.F ht⟩) hS.2.2 hdg hlk
theorem j_vret (C : Cx p s m args c D tys A nL cc own) (hr : meth.sig.returnType = none) (hlk : meth.locks = false) {w1 : va_W} (hdg : decode cc pc = .ok (.return_, 1)) (hw : ws = w1) : JJ p l e R s m args below meth c D A nL (MQ below (QD D none w1 A) args s cells slots A) cells slots pc lv [] ws := by
  subst hw
  intro H locs ls hP hD hS hl
  exact W.vret C.1 C.2.1 hr (fun t ht hW => ⟨⟨rfl, by rw [ht]; exact hP, hD⟩, hS.F ht⟩) hS.2.2 hdg hlk
theorem j_eret (C : Cx p s m args c D tys A nL cc own) (hr : meth.sig.returnType = none) (hlk : meth.locks = false) {ι : Type} {w1 : ι → va_W} (i : ι) (hdg : decode cc pc = .ok (.return_, 1)) (hw : ws = w1 i) : JJ p l e R s m args below meth c D A nL (MQ below (QE D w1 A) args s cells slots A) cells slots pc lv [] ws := by
  subst hw
  intro H locs ls hP hD hS hl
  exact W.vret C.1 C.2.1 hr (fun t ht hW => ⟨⟨i, rfl, by rw [ht]; exact hP, hD⟩, hS.F ht⟩) hS.2.2 hdg hlk
/-- behind a call: what came back beside what stayed -/
theorem j_back (C : Cx p s m args c D tys A nL cc own) {H : Heap} {locs : List Loc} {ls : Array Slot} {mc ms q : Nat} {st0 rest st' : List Value} {wc wr w1 : va_W} {v : Option Value} {a : Array Value}
    (hP : va_P D cls ws H) (hD : va_D A ws) (hS : va_S A s.heap H locs) (hl : lv_has ls nL lv)
    (hr : va_Run p l e R s m args below meth c H locs cells slots mc ms (F0 m pc ls st0) rest (QD D v w1 (va_A wc H.size) a) (va_A wc H.size))
    (isC isR is : List Nat) (hC : isC.map (fun i => ws[i]?) = wc.map some) (hR : isR.map (fun i => ws[i]?) = wr.map some) (hn : va_nd isR = true) (hdis : ∀ i ∈ isR, i ∉ isC)
    (ws' : va_W) (h1 : is.map (fun i => (wr ++ w1)[i]?) = ws'.map some) (h2 : va_nd is = true) (hq : pc + 3 = q) (hst : v.toList ++ rest = st')
    (k : JJ p l e R s m args below meth c D A nL Q (cells + mc) (slots + ms) q lv st' ws') : W p l e R s m args below meth c H locs cells slots Q (F0 m pc ls st0) := by
  subst hq
  subst hst
  have hF := va_free (wc := wc) hD hS C.2.2.2.2.2.2.1 isC hC
  intro T hT X
  obtain ⟨v', st₀, t, T', L, h0, X', hL, e1, e2, ⟨⟨hv, hP1, hD1⟩, hz, hk⟩, stp⟩ := hr T hT X
  cases hv
  rw [h0] at hz hk
  rw [← e1] at hP1 hz hk
  obtain ⟨hPj, hDj⟩ := va_join hP hD isC isR hC hR hn hdis hk hF hP1 hD1
  have hPs : va_P D cls ws' T'.heap := by
    intro j qq hj
    have hh : (is.map (fun i => (wr ++ w1)[i]?))[j]? = some (some qq) := by rw [h1]; simp [hj]
    rw [List.getElem?_map] at hh
    cases hi : is[j]? with
    | none => rw [hi] at hh; cases hh
    | some i =>
      rw [hi] at hh
      exact hPj i qq (Option.some.inj hh)
  have hDs : va_D A ws' := hDj.sub is h2 h1
  obtain ⟨t2, a1, b1⟩ := k T'.heap (locs ++ L) ls hPs hDs ⟨Nat.le_trans hS.1 hz, fun q h1 h2 => by rw [hk q (Nat.lt_of_lt_of_le h1 hS.1) (fun z => h2 (hF q z))]; exact hS.2.1 q h1 h2, fun q hq => by
      rcases List.mem_append.mp hq with h | h
      · exact hS.2.2 q h
      · exact hF _ (hL q h)⟩ hl T' rfl X'
  exact ⟨t2, stp t2 a1, b1⟩
theorem j_pre (C : Cx p s m args c D tys A nL cc own) {H : Heap} {wc : va_W} (hP : va_P D cls ws H) (hD : va_D A ws) (isC : List Nat) (hC : isC.map (fun i => ws[i]?) = wc.map some) (hnC : va_nd isC = true) (av : List Value) : va_P D cls wc H ∧ ∀ U : State, U.heap = H → s.WarmedH U.vm → PD D tys H.size av wc av.toArray U := by
  have hPc : va_P D cls wc H := by
    intro j qq hj
    have hh : (isC.map (fun i => ws[i]?))[j]? = some (some qq) := by rw [hC]; simp [hj]
    rw [List.getElem?_map] at hh
    cases hi : isC[j]? with
    | none => rw [hi] at hh; cases hh
    | some i =>
      rw [hi] at hh
      exact hP i qq (Option.some.inj hh)
  have hDc : va_D A wc := hD.sub isC hnC hC
  exact ⟨hPc, fun U hU hW => ⟨rfl, by rw [hU], by rw [hU]; exact hPc, va_K.moved hW.alike C.2.2.2.2.2.1, hDc.weaken (fun _ _ _ _ => trivial), NN.warm hW C.2.2.2.2.2.2.2⟩⟩
theorem gV {own CC : String} {index mL n : Nat} {y : MethodName} {b : ByteArray} {ret : Option FieldType} (hm : Cond.methodLink own index y ∈ wtb) (hk : Mk y b mL ret n) (hi : Cond.instanceMethod y ∈ wtb) (hs : Cond.selects CC y y ∈ wtb) (hc : y.cls = CC) : GoodIn wtb (wsV own index CC y (Cond.code y b mL ret :: wtb)) := by
  subst hc
  intro w hw
  unfold wsV at hw
  rcases List.mem_append.mp hw with h | h
  · rcases List.mem_cons.mp h with h | h
    · rw [h]; exact ⟨hm, wtb_good hm⟩
    rcases List.mem_cons.mp h with h | h
    · rw [h]; exact ⟨hi, wtb_good hi⟩
    rcases List.mem_cons.mp h with h | h
    · rw [h]; exact ⟨hs, wtb_good hs⟩
    rcases List.mem_cons.mp h with h | h
    · rw [h]; exact ⟨hk.2.1, wtb_good hk.2.1⟩
    · exact absurd h List.not_mem_nil
  · exact wtb_cons hk.1 w h
theorem gS {own : String} {index mL n : Nat} {y : MethodName} {b : ByteArray} {ret : Option FieldType} (hm : Cond.methodLink own index y ∈ wtb) (hk : Mk y b mL ret n) (hs : Cond.static y ∈ wtb) : GoodIn wtb (va_wsS own index y (Cond.code y b mL ret :: wtb)) := by
  intro w hw
  unfold va_wsS at hw
  rcases List.mem_append.mp hw with h | h
  · rcases List.mem_cons.mp h with h | h
    · rw [h]; exact ⟨hm, wtb_good hm⟩
    rcases List.mem_cons.mp h with h | h
    · rw [h]; exact ⟨hs, wtb_good hs⟩
    rcases List.mem_cons.mp h with h | h
    · rw [h]; exact ⟨hk.2.1, wtb_good hk.2.1⟩
    · exact absurd h List.not_mem_nil
  · exact wtb_cons hk.1 w h
/-- invokevirtual -/
theorem j_callV (C : Cx p s m args c D tys A nL cc own) {index maxL n q : Nat} {y : MethodName} {bytes : ByteArray} {ret : Option FieldType} {rm : Room} {wc wr w1 : va_W} {v : Option Value} {CC : String} {T : u_T} {N ci b : Nat} {fs : List Value} (As rest : List Value) {st' : List Value}
    (hM : Dt l D tys y (Cond.code y bytes maxL ret :: wtb) rm (.ref b :: As) wc v w1) (hm : Cond.methodLink own index y ∈ wtb) (hk : Mk y bytes maxL ret n) (hi : Cond.instanceMethod y ∈ wtb) (hse : Cond.selects CC y y ∈ wtb) (hcc : y.cls = CC)
    (hc : cls[ci]? = some (CC, T, N)) (hwc : wc[0]? = some (b, .inr (ci, fs)))
    (isC isR is : List Nat) (hC : isC.map (fun i => ws[i]?) = wc.map some) (hnC : va_nd isC = true) (hR : isR.map (fun i => ws[i]?) = wr.map some) (hn : va_nd isR = true) (hdis : ∀ i ∈ isR, i ∉ isC)
    (ws' : va_W) (h1 : is.map (fun i => (wr ++ w1)[i]?) = ws'.map some) (h2 : va_nd is = true) (hst0 : As.reverse ++ .ref b :: rest = st) (hst : v.toList ++ rest = st') (hnn : As.length = n) (hcat : (rest.map fun v => v.category).sum ≤ 8)
    (hR0 : rm.frames + 1 ≤ R.frames ∧ 8 + (maxL + 11) + rm.locals ≤ R.locals) (hf : cells + rm.cells ≤ R.cells ∧ slots + rm.slots ≤ R.slots) (hdg : decode cc pc = .ok (.invokevirtual index, 3)) (hq : pc + 3 = q)
    (k : JJ p l e R s m args below meth c D A nL Q (cells + rm.cells) (slots + rm.slots) q lv st' ws') : JJ p l e R s m args below meth c D A nL Q cells slots pc lv st ws := by
  subst hst0
  intro H locs ls hP hD hS hl
  obtain ⟨hPc, hU⟩ := j_pre C hP hD isC hC hnC (.ref b :: As)
  exact j_back C hP hD hS hl (va_runV (As := As) (rest := rest) ⟨C.1, C.2.1, C.2.2.1, C.2.2.2.1, C.2.2.2.2.1⟩ (hM H.size) (cwV n C.2.2.2.2.1 (gV hm hk hi hse hcc) rfl rfl rfl ⟨hcc, hk.2.2.1, hk.2.2.2.1, hk.2.2.2.2.1⟩ hR0) ⟨PD.blind, va_recv C.2.2.2.2.2.1 hPc hc hwc, hU⟩ rfl hnn hl.1 rfl (lv_room hcat) hdg hf) isC isR is hC hR hn hdis ws' h1 h2 hq hst k
/-- invokestatic -/
theorem j_callS (C : Cx p s m args c D tys A nL cc own) {index maxL n q : Nat} {y : MethodName} {bytes : ByteArray} {ret : Option FieldType} {rm : Room} {wc wr w1 : va_W} {v : Option Value} (As rest : List Value) {st' : List Value}
    (hM : Dt l D tys y (Cond.code y bytes maxL ret :: wtb) rm As wc v w1) (hm : Cond.methodLink own index y ∈ wtb) (hk : Mk y bytes maxL ret n) (hs : Cond.static y ∈ wtb)
    (isC isR is : List Nat) (hC : isC.map (fun i => ws[i]?) = wc.map some) (hnC : va_nd isC = true) (hR : isR.map (fun i => ws[i]?) = wr.map some) (hn : va_nd isR = true) (hdis : ∀ i ∈ isR, i ∉ isC)
    (ws' : va_W) (h1 : is.map (fun i => (wr ++ w1)[i]?) = ws'.map some) (h2 : va_nd is = true) (hst0 : As.reverse ++ rest = st) (hst : v.toList ++ rest = st') (hnn : As.length = n) (hcat : (rest.map fun v => v.category).sum ≤ 8)
    (hR0 : rm.frames + 1 ≤ R.frames ∧ 8 + (maxL + 11) + rm.locals ≤ R.locals) (hf : cells + rm.cells ≤ R.cells ∧ slots + rm.slots ≤ R.slots) (hdg : decode cc pc = .ok (.invokestatic index, 3)) (hq : pc + 3 = q)
    (k : JJ p l e R s m args below meth c D A nL Q (cells + rm.cells) (slots + rm.slots) q lv st' ws') : JJ p l e R s m args below meth c D A nL Q cells slots pc lv st ws := by
  subst hst0
  intro H locs ls hP hD hS hl
  obtain ⟨hPc, hU⟩ := j_pre C hP hD isC hC hnC As
  exact j_back C hP hD hS hl (va_runS (As := As) (rest := rest) ⟨C.1, C.2.1, C.2.2.1, C.2.2.2.1, C.2.2.2.2.1⟩ (hM H.size) (va_cwS n C.2.2.2.2.1 (gS hm hk hs) rfl rfl rfl ⟨hk.2.2.1, hk.2.2.2.1, hk.2.2.2.2.1⟩ hR0) ⟨PD.blind, hU⟩ rfl hnn hl.1 rfl (lv_room hcat) hdg hf) isC isR is hC hR hn hdis ws' h1 h2 hq hst k
/-- invokestatic of a nest mate's private method -/
theorem j_callN (C : Cx p s m args c D tys A nL cc own) {index maxL n q : Nat} {y : MethodName} {bytes : ByteArray} {ret : Option FieldType} {rm : Room} {wc wr w1 : va_W} {v : Option Value} {host : String} (As rest : List Value) {st' : List Value} {nk : Nat}
    (hM : Dt l D tys y (Cond.code y bytes maxL ret :: wtb) rm As wc v w1) (hm : nst[nk]? = some (own, index, y, host)) (hk : Mk y bytes maxL ret n) (hs : Cond.static y ∈ wtb)
    (isC isR is : List Nat) (hC : isC.map (fun i => ws[i]?) = wc.map some) (hnC : va_nd isC = true) (hR : isR.map (fun i => ws[i]?) = wr.map some) (hn : va_nd isR = true) (hdis : ∀ i ∈ isR, i ∉ isC)
    (ws' : va_W) (h1 : is.map (fun i => (wr ++ w1)[i]?) = ws'.map some) (h2 : va_nd is = true) (hst0 : As.reverse ++ rest = st) (hst : v.toList ++ rest = st') (hnn : As.length = n) (hcat : (rest.map fun v => v.category).sum ≤ 8)
    (hR0 : rm.frames + 1 ≤ R.frames ∧ 8 + (maxL + 11) + rm.locals ≤ R.locals) (hf : cells + rm.cells ≤ R.cells ∧ slots + rm.slots ≤ R.slots) (hdg : decode cc pc = .ok (.invokestatic index, 3)) (hq : pc + 3 = q)
    (k : JJ p l e R s m args below meth c D A nL Q (cells + rm.cells) (slots + rm.slots) q lv st' ws') : JJ p l e R s m args below meth c D A nL Q cells slots pc lv st ws := by
  subst hst0
  intro H locs ls hP hD hS hl
  obtain ⟨hPc, hU⟩ := j_pre C hP hD isC hC hnC As
  exact j_back C hP hD hS hl (va_runSN (host := host) (As := As) (rest := rest) ⟨C.1, C.2.1, C.2.2.1, C.2.2.2.1, C.2.2.2.2.1⟩ (hM H.size) ⟨va_cnB n C.2.2.2.2.1 (wtb_cons hk.1) rfl rfl rfl (C.2.2.2.2.2.2.2 _ (List.mem_of_getElem? hm)) (C.2.2.2.2.1 _ hk.2.1) ⟨hk.2.2.1, hk.2.2.2.1, hk.2.2.2.2.1⟩ hR0, C.2.2.2.2.1 _ hs, trivial⟩ ⟨PD.blind, hU⟩ rfl hnn hl.1 rfl (lv_room hcat) hdg hf) isC isR is hC hR hn hdis ws' h1 h2 hq hst k
end JC
