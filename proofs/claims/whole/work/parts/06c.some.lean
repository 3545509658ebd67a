/-! contracts whose world behind has a part that nobody knows -/
def QX (D : va_G) {ι : Type} (v : Option Value) (w1 : ι → va_W) (A : Nat → Prop) : Array Value → State → Outcome → State → Prop := fun _ st oc t => (∃ i : ι, oc = .returned v ∧ va_P D cls (w1 i) t.heap ∧ va_D A (w1 i)) ∧ va_F A st t
def Dx (l : Launch) (D : va_G) (tys : List (ClassId × FieldType)) (y : MethodName) (wds : List Cond) (rm : Room) (av : List Value) (w0 : va_W) {ι : Type} (v : Option Value) (w1 : ι → va_W) : Prop :=
  ∀ sz : Nat, Met l y wds rm (PD D tys sz av w0) (QX D v w1 (va_A w0 sz)) rm.cells rm.slots (va_A w0 sz)
section JX
variable {p : Program} {l : Launch} {e : Env} {R : Room} {s : State} {m : MethodId} {args : Array Value} {below : List Frame} {meth : Method} {c : Code} {D : va_G} {tys : List (ClassId × FieldType)} {A : Nat → Prop} {nL : Nat} {Q : State → Prop} {cells slots pc : Nat} {lv : List (Nat × Value)} {st : List Value} {ws : va_W} {cc : ByteArray} {own : String}
theorem j_vretX (C : Cx p s m args c D tys A nL cc own) (hr : meth.sig.returnType = none) (hlk : meth.locks = false) {ι : Type} {w1 : ι → va_W} (i : ι) (hdg : decode cc pc = .ok (.return_, 1)) (hw : ws = w1 i) : JJ p l e R s m args below meth c D A nL (MQ below (QX D none w1 A) args s cells slots A) cells slots pc lv [] ws := by
  subst hw
  intro H locs ls hP hD hS hl
  exact W.vret C.1 C.2.1 hr (fun t ht hW => ⟨⟨i, rfl, by rw [ht]; exact hP, hD⟩, hS.F ht⟩) hS.2.2 hdg hlk
theorem j_iretX (C : Cx p s m args c D tys A nL cc own) (hr : meth.sig.returnType = some .int) (hlk : meth.locks = false) {ι : Type} {v : Option Value} {w1 : ι → va_W} {x : Int32} (i : ι) (hdg : decode cc pc = .ok (.ireturn, 1)) (hv : v = some (.int x)) (hw : ws = w1 i) : JJ p l e R s m args below meth c D A nL (MQ below (QX D v w1 A) args s cells slots A) cells slots pc lv [.int x] ws := by
  subst hv
  subst hw
  intro H locs ls hP hD hS hl
  exact W.iret C.1 C.2.1 hr (fun t ht hW => ⟨⟨i, rfl, by rw [ht]; exact hP, hD⟩, hS.F ht⟩) hS.2.2 hdg hlk
theorem j_backX (C : Cx p s m args c D tys A nL cc own) {H : Heap} {locs : List Loc} {ls : Array Slot} {mc ms q : Nat} {st0 rest st' : List Value} {wc wr : va_W} {ι : Type} {w1 : ι → va_W} {v : Option Value} {a : Array Value}
    (hP : va_P D cls ws H) (hD : va_D A ws) (hS : va_S A s.heap H locs) (hl : lv_has ls nL lv)
    (hr : va_Run p l e R s m args below meth c H locs cells slots mc ms (F0 m pc ls st0) rest (QX D v w1 (va_A wc H.size) a) (va_A wc H.size))
    (isC isR is : List Nat) (hC : isC.map (fun i => ws[i]?) = wc.map some) (hR : isR.map (fun i => ws[i]?) = wr.map some) (hn : va_nd isR = true) (hdis : ∀ i ∈ isR, i ∉ isC)
    (ws' : ι → va_W) (h1 : ∀ j, is.map (fun i => (wr ++ w1 j)[i]?) = (ws' j).map some) (h2 : va_nd is = true) (hq : pc + 3 = q) (hst : v.toList ++ rest = st')
    (k : ∀ j, JJ p l e R s m args below meth c D A nL Q (cells + mc) (slots + ms) q lv st' (ws' j)) : W p l e R s m args below meth c H locs cells slots Q (F0 m pc ls st0) := by
  subst hq
  subst hst
  have hF := va_free (wc := wc) hD hS C.2.2.2.2.2.2.1 isC hC
  intro T hT X
  obtain ⟨v', st₀, t, T', L, h0, X', hL, e1, e2, ⟨⟨j, hv, hP1, hD1⟩, hz, hk⟩, stp⟩ := hr T hT X
  cases hv
  rw [h0] at hz hk
  rw [← e1] at hP1 hz hk
  obtain ⟨hPj, hDj⟩ := va_join hP hD isC isR hC hR hn hdis hk hF hP1 hD1
  have hPs : va_P D cls (ws' j) T'.heap := by
    intro j2 qq hj
    have hh : (is.map (fun i => (wr ++ w1 j)[i]?))[j2]? = some (some qq) := by rw [h1 j]; simp [hj]
    rw [List.getElem?_map] at hh
    cases hi : is[j2]? with
    | none => rw [hi] at hh; cases hh
    | some i =>
      rw [hi] at hh
      exact hPj i qq (Option.some.inj hh)
  have hDs : va_D A (ws' j) := hDj.sub is h2 (h1 j)
  obtain ⟨t2, a1, b1⟩ := k j T'.heap (locs ++ L) ls hPs hDs ⟨Nat.le_trans hS.1 hz, fun q h1 h2 => by rw [hk q (Nat.lt_of_lt_of_le h1 hS.1) (fun z => h2 (hF q z))]; exact hS.2.1 q h1 h2, fun q hq => by
      rcases List.mem_append.mp hq with h | h
      · exact hS.2.2 q h
      · exact hF _ (hL q h)⟩ hl T' rfl X'
  exact ⟨t2, stp t2 a1, b1⟩
theorem j_callVX (C : Cx p s m args c D tys A nL cc own) {index maxL n q : Nat} {y : MethodName} {bytes : ByteArray} {ret : Option FieldType} {rm : Room} {wc wr : va_W} {ι : Type} {w1 : ι → va_W} {v : Option Value} {CC : String} {T : u_T} {N ci b : Nat} {fs : List Value} (As rest : List Value) {st' : List Value}
    (hM : Dx l D tys y (Cond.code y bytes maxL ret :: wtb) rm (.ref b :: As) wc v w1) (hm : Cond.methodLink own index y ∈ wtb) (hk : Mk y bytes maxL ret n) (hi : Cond.instanceMethod y ∈ wtb) (hse : Cond.selects CC y y ∈ wtb) (hcc : y.cls = CC)
    (hc : cls[ci]? = some (CC, T, N)) (hwc : wc[0]? = some (b, .inr (ci, fs)))
    (isC isR is : List Nat) (hC : isC.map (fun i => ws[i]?) = wc.map some) (hnC : va_nd isC = true) (hR : isR.map (fun i => ws[i]?) = wr.map some) (hn : va_nd isR = true) (hdis : ∀ i ∈ isR, i ∉ isC)
    (ws' : ι → va_W) (h1 : ∀ j, is.map (fun i => (wr ++ w1 j)[i]?) = (ws' j).map some) (h2 : va_nd is = true) (hst0 : As.reverse ++ .ref b :: rest = st) (hst : v.toList ++ rest = st') (hnn : As.length = n) (hcat : (rest.map fun v => v.category).sum ≤ 8)
    (hR0 : rm.frames + 1 ≤ R.frames ∧ 8 + (maxL + 11) + rm.locals ≤ R.locals) (hf : cells + rm.cells ≤ R.cells ∧ slots + rm.slots ≤ R.slots) (hdg : decode cc pc = .ok (.invokevirtual index, 3)) (hq : pc + 3 = q)
    (k : ∀ j, JJ p l e R s m args below meth c D A nL Q (cells + rm.cells) (slots + rm.slots) q lv st' (ws' j)) : JJ p l e R s m args below meth c D A nL Q cells slots pc lv st ws := by
  subst hst0
  intro H locs ls hP hD hS hl
  obtain ⟨hPc, hU⟩ := j_pre C hP hD isC hC hnC (.ref b :: As)
  exact j_backX C hP hD hS hl (va_runV (As := As) (rest := rest) ⟨C.1, C.2.1, C.2.2.1, C.2.2.2.1, C.2.2.2.2.1⟩ (hM H.size) (cwV n C.2.2.2.2.1 (gV hm hk hi hse hcc) rfl rfl rfl ⟨hcc, hk.2.2.1, hk.2.2.2.1, hk.2.2.2.2.1⟩ hR0) ⟨PD.blind, va_recv C.2.2.2.2.2.1 hPc hc hwc, hU⟩ rfl hnn hl.1 rfl (lv_room hcat) hdg hf) isC isR is hC hR hn hdis ws' h1 h2 hq hst k
/-- invokespecial of a constructor that makes cells -/
theorem j_callI (C : Cx p s m args c D tys A nL cc own) {index maxL n q : Nat} {y : MethodName} {bytes : ByteArray} {rm : Room} {wc wr : va_W} {ι : Type} {w1 : ι → va_W} {b : Nat} (As rest : List Value) {st' : List Value}
    (hM : Dx l D tys y (Cond.code y bytes maxL none :: wtb) rm (.ref b :: As) wc none w1) (hm : Cond.methodLink own index y ∈ wtb) (hk : Mk y bytes maxL none n) (hi : Cond.instanceMethod y ∈ wtb) (hy : y.name = "<init>")
    (isC isR is : List Nat) (hC : isC.map (fun i => ws[i]?) = wc.map some) (hnC : va_nd isC = true) (hR : isR.map (fun i => ws[i]?) = wr.map some) (hn : va_nd isR = true) (hdis : ∀ i ∈ isR, i ∉ isC)
    (ws' : ι → va_W) (h1 : ∀ j, is.map (fun i => (wr ++ w1 j)[i]?) = (ws' j).map some) (h2 : va_nd is = true) (hst0 : As.reverse ++ .ref b :: rest = st) (hnn : As.length = n) (hcat : (rest.map fun v => v.category).sum ≤ 8)
    (hR0 : rm.frames + 1 ≤ R.frames ∧ 8 + (maxL + 11) + rm.locals ≤ R.locals) (hf : cells + rm.cells ≤ R.cells ∧ slots + rm.slots ≤ R.slots) (hdg : decode cc pc = .ok (.invokespecial index, 3)) (hq : pc + 3 = q)
    (k : ∀ j, JJ p l e R s m args below meth c D A nL Q (cells + rm.cells) (slots + rm.slots) q lv rest (ws' j)) : JJ p l e R s m args below meth c D A nL Q cells slots pc lv st ws := by
  subst hst0
  intro H locs ls hP hD hS hl
  obtain ⟨hPc, hU⟩ := j_pre C hP hD isC hC hnC (.ref b :: As)
  exact j_backX C hP hD hS hl (va_runI (As := As) (rest := rest) ⟨C.1, C.2.1, C.2.2.1, C.2.2.2.1, C.2.2.2.2.1⟩ (hM H.size) (cwI n C.2.2.2.2.1 (wtb_cons hk.1) rfl rfl rfl (C.2.2.2.2.1 _ hk.2.1) (C.2.2.2.2.1 _ hm) (C.2.2.2.2.1 _ hi) hy ⟨hk.2.2.1, hk.2.2.2.1, hk.2.2.2.2.1⟩ hR0) ⟨PD.blind, hU⟩ rfl hnn hl.1 rfl (lv_room hcat) hdg hf) isC isR is hC hR hn hdis ws' h1 h2 hq rfl k
theorem j_callIN (C : Cx p s m args c D tys A nL cc own) {index maxL n q nk : Nat} {y : MethodName} {bytes : ByteArray} {rm : Room} {wc wr : va_W} {ι : Type} {w1 : ι → va_W} {b : Nat} {host : String} (As rest : List Value) {st' : List Value}
    (hM : Dx l D tys y (Cond.code y bytes maxL none :: wtb) rm (.ref b :: As) wc none w1) (hm : nst[nk]? = some (own, index, y, host)) (hk : Mk y bytes maxL none n) (hi : Cond.instanceMethod y ∈ wtb) (hy : y.name = "<init>")
    (isC isR is : List Nat) (hC : isC.map (fun i => ws[i]?) = wc.map some) (hnC : va_nd isC = true) (hR : isR.map (fun i => ws[i]?) = wr.map some) (hn : va_nd isR = true) (hdis : ∀ i ∈ isR, i ∉ isC)
    (ws' : ι → va_W) (h1 : ∀ j, is.map (fun i => (wr ++ w1 j)[i]?) = (ws' j).map some) (h2 : va_nd is = true) (hst0 : As.reverse ++ .ref b :: rest = st) (hnn : As.length = n) (hcat : (rest.map fun v => v.category).sum ≤ 8)
    (hR0 : rm.frames + 1 ≤ R.frames ∧ 8 + (maxL + 11) + rm.locals ≤ R.locals) (hf : cells + rm.cells ≤ R.cells ∧ slots + rm.slots ≤ R.slots) (hdg : decode cc pc = .ok (.invokespecial index, 3)) (hq : pc + 3 = q)
    (k : ∀ j, JJ p l e R s m args below meth c D A nL Q (cells + rm.cells) (slots + rm.slots) q lv rest (ws' j)) : JJ p l e R s m args below meth c D A nL Q cells slots pc lv st ws := by
  subst hst0
  intro H locs ls hP hD hS hl
  obtain ⟨hPc, hU⟩ := j_pre C hP hD isC hC hnC (.ref b :: As)
  exact j_backX C hP hD hS hl (va_runIN (host := host) (As := As) (rest := rest) ⟨C.1, C.2.1, C.2.2.1, C.2.2.2.1, C.2.2.2.2.1⟩ (hM H.size) ⟨va_cnB n C.2.2.2.2.1 (wtb_cons hk.1) rfl rfl rfl (C.2.2.2.2.2.2.2 _ (List.mem_of_getElem? hm)) (C.2.2.2.2.1 _ hk.2.1) ⟨hk.2.2.1, hk.2.2.2.1, hk.2.2.2.2.1⟩ hR0, hy, C.2.2.2.2.1 _ hi⟩ ⟨PD.blind, hU⟩ rfl hnn hl.1 rfl (lv_room hcat) hdg hf) isC isR is hC hR hn hdis ws' h1 h2 hq rfl k
/-- new, and a new array of ints or booleans -/
theorem j_new (C : Cx p s m args c D tys A nL cc own) {CC : String} {T : u_T} {N ci index q : Nat} {fs : List Value} (hin : ∀ w ∈ u_ws CC T N, w ∈ wtb) (ty0 : Nat → FieldType) (hty : ∀ k, k < N → parseFieldDescriptor (T k).2.2.1 = some (ty0 k)) (hc : cls[ci]? = some (CC, T, N)) (hcl : Cond.classLink own index CC ∈ wtb) (his : Cond.instantiable CC N ∈ wtb) (hini : Cond.initialized CC ∈ wtb) (hfs : ∀ j, j < N → defaultValue (ty0 j) = vp_V fs j) (hcells : cells + 1 ≤ R.cells) (hslots : slots + N ≤ R.slots) (hdg : decode cc pc = .ok (.new index, 3)) (hq : pc + 3 = q)
    (k : ∀ h : Nat, JJ p l e R s m args below meth c D A nL Q (cells + 1) (slots + N) q lv (.ref h :: st) (ws ++ [(h, .inr (ci, fs))])) : JJ p l e R s m args below meth c D A nL Q cells slots pc lv st ws := by
  subst hq
  intro H locs ls hP hD hS hl
  exact va_new C.1 C.2.1 C.2.2.2.2.1 hin ty0 hty C.2.2.2.1 (C.2.2.2.2.1 _ hcl) (C.2.2.2.2.1 _ his) (C.2.2.2.2.1 _ hini) C.2.2.2.2.2.1 hP hD hS C.2.2.2.2.2.2.1 hc hfs hcells hslots hdg (fun h H1 hP1 hD1 hS1 => k h H1 locs ls hP1 hD1 hS1 hl)
theorem j_newI (C : Cx p s m args c D tys A nL cc own) {q N : Nat} {cA : ClassId} {z : Int} (t0 : Nat) (ht : tys[t0]? = some (cA, .int)) (hz : z = (N : Int)) (hN : N < 100000) (hcells : cells + 1 ≤ R.cells) (hslots : slots + N ≤ R.slots) (hdg : decode cc pc = .ok (.newarray .int, 2)) (hq : pc + 2 = q)
    (k : ∀ h : Nat, JJ p l e R s m args below meth c D A nL Q (cells + 1) (slots + N) q lv (.ref h :: st) (ws ++ [(h, aI cA N (fun _ => 0))])) : JJ p l e R s m args below meth c D A nL Q cells slots pc lv (.int (iI z) :: st) ws := by
  subst hq
  subst hz
  intro H locs ls hP hD hS hl
  have hK := C.2.2.2.2.2.1
  refine va_newa (atype := .int) (ty := .int) (a0 := (N, .inl (fun _ => iI 0))) C.1 C.2.1 (C.2.2.2.2.1 _ ar_I) rfl hK hP hD hS C.2.2.2.2.2.2.1 (fun _ => rfl) (fun hh => by have := (iI_lt (a := (N : Int)) (b := 0) (by omega) (by omega)).mp hh; omega) (by rw [iI_clamp (by omega)]; rfl) (by show N * 4 ≤ _; omega) hcells hslots hdg (fun h cA2 H1 hK1 hP1 hD1 hS1 => ?_)
  have e1 : s.vm.findClass ("[" ++ FieldType.int.toString) = some cA2 := (hK1.2 tys.length (cA2, .int) (by simp)).2
  have e2 : s.vm.findClass ("[" ++ FieldType.int.toString) = some cA := (hK.2 t0 (cA, .int) ht).2
  have e3 : cA2 = cA := Option.some.inj (e1.symm.trans e2)
  subst e3
  exact k h H1 locs ls hP1 hD1 hS1 hl
theorem j_newZ (C : Cx p s m args c D tys A nL cc own) {q N : Nat} {cA : ClassId} {z : Int} (t0 : Nat) (ht : tys[t0]? = some (cA, .boolean)) (hz : z = (N : Int)) (hN : N < 100000) (hcells : cells + 1 ≤ R.cells) (hslots : slots + N ≤ R.slots) (hdg : decode cc pc = .ok (.newarray .boolean, 2)) (hq : pc + 2 = q)
    (k : ∀ h : Nat, JJ p l e R s m args below meth c D A nL Q (cells + 1) (slots + N) q lv (.ref h :: st) (ws ++ [(h, aI cA N (fun _ => 0))])) : JJ p l e R s m args below meth c D A nL Q cells slots pc lv (.int (iI z) :: st) ws := by
  subst hq
  subst hz
  intro H locs ls hP hD hS hl
  have hK := C.2.2.2.2.2.1
  refine va_newa (atype := .boolean) (ty := .boolean) (a0 := (N, .inl (fun _ => iI 0))) C.1 C.2.1 (C.2.2.2.2.1 _ ar_Z) rfl hK hP hD hS C.2.2.2.2.2.2.1 (fun _ => rfl) (fun hh => by have := (iI_lt (a := (N : Int)) (b := 0) (by omega) (by omega)).mp hh; omega) (by rw [iI_clamp (by omega)]; rfl) (by show N * 1 ≤ _; omega) hcells hslots hdg (fun h cA2 H1 hK1 hP1 hD1 hS1 => ?_)
  have e1 : s.vm.findClass ("[" ++ FieldType.boolean.toString) = some cA2 := (hK1.2 tys.length (cA2, .boolean) (by simp)).2
  have e2 : s.vm.findClass ("[" ++ FieldType.boolean.toString) = some cA := (hK.2 t0 (cA, .boolean) ht).2
  have e3 : cA2 = cA := Option.some.inj (e1.symm.trans e2)
  subst e3
  exact k h H1 locs ls hP1 hD1 hS1 hl
theorem j_oinit (C : Cx p s m args c D tys A nL cc own) {index q a : Nat} (hm : Cond.methodLink own index objectInit ∈ wtb) (hfr : 1 ≤ R.frames) (hlo : (st.map fun v => v.category).sum + 12 ≤ R.locals) (hdg : decode cc pc = .ok (.invokespecial index, 3)) (hq : pc + 3 = q)
    (k : JJ p l e R s m args below meth c D A nL Q cells slots q lv st ws) : JJ p l e R s m args below meth c D A nL Q cells slots pc lv (.ref a :: st) ws := by
  subst hq
  intro H locs ls hP hD hS hl
  refine W.objInit C.1 C.2.1 C.2.2.2.1 (C.2.2.2.2.1 _ hm) (C.2.2.2.2.1 _ oi_in) (C.2.2.2.2.1 _ oi_co) rfl (by rw [C.2.2.1]; exact hl.1) rfl hdg hfr (by show 2 * 0 + _ + 12 ≤ _; omega) ?_
  exact k H locs ls hP hD hS hl
end JX
