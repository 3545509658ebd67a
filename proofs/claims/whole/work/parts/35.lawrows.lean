def lw_P (b : Addr) (xs : List Int32) (args : Array Value) (s : State) : Prop := args = #[.ref b] ∧ s.IntsAt b xs ∧ xs.length ≤ 2048 ∧ (Jvm.Cond.and given_1 narrow_1).before args s = true
def lw_Q (_ : Array Value) (s : State) (o : Outcome) (t : State) : Prop := o = .returned (some (.int 1)) ∧ Framed s o t [] 600000 7302250
def lw_Z (below : List Frame) (a : Array Value) (s : State) : State → Prop := fun t => ∃ o, t.status = .running ∧ Ended t below o ∧ lw_Q a s o t
/-- the law's own end, with 1 on the stack, nothing written that was there before, its room as the claim has it -/
theorem lw_ret {p : Program} {l : Launch} {e : Env} {s : State} {m : MethodId} {below : List Frame} {meth : Method} {c : Code} {b : Nat} (hx : p.tables.exec = Jvm.exec) (hb : c.code = code) (hr : meth.sig.returnType = ret) (hlocks : meth.locks = false) {pc : Nat} {H : Heap} {ls : Array Slot} (hdg : decode code pc = .ok (.ireturn, 1)) : W p l e room_1 s m #[Value.ref b] below meth c H [] 600000 7302250 (lw_Z below #[Value.ref b] s) (F0 m pc ls [.int 1]) := by
  intro T hT X
  obtain ⟨fs, hret, hrun, hended, hW, hframe⟩ := X.leave (v := some (.int 1)) (hlocks := hlocks) (fun h => by rw [hr] at h; cases h)
  have hmeth' : T.vm.method? m = some meth := X.method'
  refine ⟨T.setFrames fs, ?_, .returned (some (.int 1)), hrun, hended, rfl, ⟨_, rfl⟩, hW, hframe⟩
  jvm_step X.here [X.here.top, hx, hb, hdg, hmeth', hr, ret, narrow_b1]
  (try refine ⟨rfl, ?_⟩); (try refine ⟨rfl, ?_⟩)
  first | (intro acts; rw [hret _ acts rfl rfl rfl]) | rw [hret _ _ rfl rfl rfl]
  exact Steps.refl _
/-- what holds at the law's entry: the machine, the code, the tables' words (any of lw_tbl by 'hts w (by decide +kernel)'), the script of L ints xs at the cell b, what the Statement gives of the start (any of its parts by flat_of_before) -/
def lw_At (p : Program) (s : State) (m : MethodId) (meth : Method) (c : Code) (b L : Nat) (xs : Nat → Int32) : Prop :=
  p.tables.exec = Jvm.exec ∧ c.code = code ∧ meth.sig.returnType = ret ∧ c.maxLocals = 4 ∧ s.vm.findClass R_law = some m.cls ∧ (∀ w ∈ lw_tbl, w.before #[Value.ref b] s = true) ∧ va_X b L xs s s.heap ∧ b < s.heap.size ∧ meth.locks = false ∧ (Jvm.Cond.and given_1 narrow_1).before #[Value.ref b] s = true
/-- a number of the script -/
def sv (xs : Nat → Int32) (z : Int) : Int := (xs z.toNat).toInt
theorem sv_r (xs : Nat → Int32) (z : Int) : -2147483648 ≤ sv xs z ∧ sv xs z < 2147483648 := iI_rg _
section JLAW
variable {p : Program} {l : Launch} {e : Env} {R : Room} {s : State} {m : MethodId} {args : Array Value} {below : List Frame} {meth : Method} {c : Code} {D : va_G} {tys : List (ClassId × FieldType)} {A : Nat → Prop} {nL : Nat} {Q : State → Prop} {cells slots pc : Nat} {lv : List (Nat × Value)} {st : List Value} {ws : va_W} {cc : ByteArray} {own : String}
theorem j_sld (C : Cx p s m args c D tys A nL cc own) {b L q : Nat} {xs : Nat → Int32} {z : Int} (hX : va_X b L xs s s.heap) (hbl : b < s.heap.size) (hbA : ¬ A b) (hL : L ≤ 2048) (hz : 0 ≤ z ∧ z < (L : Int)) (hdg : decode cc pc = .ok (.iaload, 1)) (hq : pc + 1 = q) (k : JJ p l e R s m args below meth c D A nL Q cells slots q lv (.int (iI (sv xs z)) :: st) ws) : JJ p l e R s m args below meth c D A nL Q cells slots pc lv (.int (iI z) :: .ref b :: st) ws := by
  subst hq
  intro H locs ls hP hD hS hl
  refine va_sld C.1 C.2.1 hX hbl hbA hS (iI_in hz (by omega)) hdg ?_
  rw [iI_clamp (by omega), ← iI_self (xs z.toNat)]
  exact k H locs ls hP hD hS hl
theorem j_slen (C : Cx p s m args c D tys A nL cc own) {b L q : Nat} {xs : Nat → Int32} (hX : va_X b L xs s s.heap) (hbl : b < s.heap.size) (hbA : ¬ A b) (hdg : decode cc pc = .ok (.arraylength, 1)) (hq : pc + 1 = q) (k : JJ p l e R s m args below meth c D A nL Q cells slots q lv (.int (iI (L : Int)) :: st) ws) : JJ p l e R s m args below meth c D A nL Q cells slots pc lv (.ref b :: st) ws := by
  subst hq
  intro H locs ls hP hD hS hl
  refine va_slen C.1 C.2.1 hX hbl hbA hS hdg ?_
  rw [iI_nat]
  exact k H locs ls hP hD hS hl
theorem j_and31 (C : Cx p s m args c D tys A nL cc own) {q : Nat} {a : Int} (hdg : decode cc pc = .ok (.iand, 1)) (hq : pc + 1 = q) (k : ∀ z : Int, 0 ≤ z → z < 32 → JJ p l e R s m args below meth c D A nL Q cells slots q lv (.int (iI z) :: st) ws) : JJ p l e R s m args below meth c D A nL Q cells slots pc lv (.int (iI 31) :: .int (iI a) :: st) ws := by
  subst hq
  intro H locs ls hP hD hS hl
  obtain ⟨j, hj, e⟩ := pk_andE (iI a) (m := iI 31) 5 (by decide)
  refine lv_iand C.1 C.2.1 hdg ?_
  rw [e, show nI j = iI (j : Int) from iI_nat j]
  exact k j (by omega) (by omega) H locs ls hP hD hS hl
theorem j_swIn (C : Cx p s m args c D tys A nL cc own) {dflt lo hi : Int} {offs : Array Int} {len : Nat} {z off : Int} (t : Nat) (hdg : decode cc pc = .ok (.tableswitch dflt lo hi offs, len)) (hz : -2147483648 ≤ z ∧ z < 2147483648) (h1 : lo ≤ z) (h2 : z ≤ hi) (ho : offs[(z - lo).toNat]? = some off) (ht : (pc : Int) + off = (t : Int)) (k : JJ p l e R s m args below meth c D A nL Q cells slots t lv st ws) : JJ p l e R s m args below meth c D A nL Q cells slots pc lv (.int (iI z) :: st) ws := by
  intro H locs ls hP hD hS hl
  exact lv_tableIn C.1 C.2.1 hdg (by rw [iI_toInt hz]; omega) (by rw [iI_toInt hz]; omega) (by rw [iI_toInt hz]; exact ho) ht (k H locs ls hP hD hS hl)
theorem j_swOut (C : Cx p s m args c D tys A nL cc own) {dflt lo hi : Int} {offs : Array Int} {len : Nat} {z : Int} (t : Nat) (hdg : decode cc pc = .ok (.tableswitch dflt lo hi offs, len)) (hz : -2147483648 ≤ z ∧ z < 2147483648) (h1 : z < lo ∨ hi < z) (ht : (pc : Int) + dflt = (t : Int)) (k : JJ p l e R s m args below meth c D A nL Q cells slots t lv st ws) : JJ p l e R s m args below meth c D A nL Q cells slots pc lv (.int (iI z) :: st) ws := by
  intro H locs ls hP hD hS hl
  exact lv_tableOut C.1 C.2.1 hdg (by rw [iI_toInt hz]; exact h1) ht (k H locs ls hP hD hS hl)
theorem j_same (C : Cx p s m args c D tys A nL cc own) {off : Int} {x y : Int32} (t : Nat) (hdg : decode cc pc = .ok (.if_icmp .eq off, 3)) (ht : (pc : Int) + off = (t : Int)) (hv : x = y) (k : JJ p l e R s m args below meth c D A nL Q cells slots t lv st ws) : JJ p l e R s m args below meth c D A nL Q cells slots pc lv (.int y :: .int x :: st) ws := by
  intro H locs ls hP hD hS hl
  exact lv_icmp_eq C.1 C.2.1 hdg ht (fun _ => k H locs ls hP hD hS hl) (fun h => absurd hv h)
theorem j_lsame (C : Cx p s m args c D tys A nL cc own) {q : Nat} {x y : Int64} (hdg : decode cc pc = .ok (.lcmp, 1)) (hq : pc + 1 = q) (hv : x = y) (k : JJ p l e R s m args below meth c D A nL Q cells slots q lv (.int (iI 0) :: st) ws) : JJ p l e R s m args below meth c D A nL Q cells slots pc lv (.long y :: .long x :: st) ws := by
  subst hq
  subst hv
  intro H locs ls hP hD hS hl
  refine W.lcmp C.1 C.2.1 hdg ?_
  have e : lg_cmp x x = iI 0 := by
    unfold lg_cmp
    rw [if_neg (fun h : x > x => by have := Int64.lt_iff_toInt_lt.mp h; omega), if_pos rfl]
    rfl
  rw [e]
  exact k H locs ls hP hD hS hl
end JLAW

def INV (WP WL WC : Nat → Int) (wn wk : Int) (KS KB KE KZ KV : Nat → Int) (kn kw : Int) (PW RP RS : Nat → Int) (rn : Int) (σ : T4) (sa sm sf ss : Int) (XP : Nat → Int) (xn : Int) (BF : Nat → Int) (th co : Int) (Rw : Nat → Int) (nw : Int) (Le Lt : Nat → Int) (sn : Int) (Cd Kp We : Nat → Int) (mn : Int) (Bg Sz Td Mp : Nat → Int) (ts nr : Int) (Fo : Nat → Int) (np : Int) (Pl Fw : Nat → Int) : Prop :=
  GW WP WL WC wn wk co Rw nw Le Lt ∧ GX XP xn np Pl ∧ We = PW ∧ (∀ j, -1000 ≤ PW j ∧ PW j ≤ 1000) ∧ GK KS KB KE KZ KV kn kw sn Cd Kp ∧ GR RP RS rn nr Fo ∧ CR KS kn RP RS rn ∧ I4 σ ∧ ts = sm ∧ IB BF ∧ (∀ j, -1 ≤ Fw j ∧ Fw j ≤ 60) ∧ (∀ j, -1 ≤ Td j ∧ Td j ≤ 60) ∧ (∀ j, 0 ≤ Mp j ∧ Mp j ≤ 122) ∧ Z26 Mp ∧ (∀ j, 0 ≤ Bg j ∧ Bg j ≤ 59) ∧ (∀ j, 0 ≤ Sz j ∧ Sz j ≤ 60)
/-- a world of both, in which they agree -/
def HW (kI kZ : ClassId) (x y : Nat → Nat) (ws : va_W) : Prop := ∃ (WP WL WC : Nat → Int) (wn wk : Int) (KS KB KE KZ KV : Nat → Int) (kn kw : Int) (PW RP RS : Nat → Int) (rn : Int) (σ : T4) (sa sm sf ss : Int) (XP : Nat → Int) (xn : Int) (BF : Nat → Int), ∃ (th co : Int) (Rw : Nat → Int) (nw : Int) (Le Lt : Nat → Int) (sn : Int) (Cd Kp We : Nat → Int) (mn : Int) (Bg Sz Td Mp : Nat → Int) (ts nr : Int) (Fo : Nat → Int) (np : Int) (Pl Fw : Nat → Int), INV WP WL WC wn wk KS KB KE KZ KV kn kw PW RP RS rn σ sa sm sf ss XP xn BF th co Rw nw Le Lt sn Cd Kp We mn Bg Sz Td Mp ts nr Fo np Pl Fw ∧ ws = wC kI kZ x ++ wW kI kZ x WP WL WC wn wk ++ wK kI kZ x KS KB KE KZ KV kn kw ++ wP kI kZ x PW ++ wR kI kZ x RP RS rn ++ wY kI kZ x σ.1 ++ wS kI kZ x σ.2.1 σ.2.2.1 σ.2.2.2 sa sm sf ss ++ wX kI kZ x XP xn ++ wB kI kZ x BF ++ wM kI kZ y th co Rw nw Le Lt sn Cd Kp We mn Bg Sz Td Mp ts nr Fo np Pl Fw

