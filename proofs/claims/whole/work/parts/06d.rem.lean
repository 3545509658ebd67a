/-! remainders of any number, exclusive or: by sign -/
def tm (a b : Int) : Int := if 0 ≤ a then a % b else -((-a) % b)
theorem iI_rems {a b : Int} (ha : -2147483648 ≤ a ∧ a < 2147483648) (hb : 0 < b ∧ b < 2147483648) : iI a - iI a / iI b * iI b = iI (tm a b) := by
  by_cases c : 0 ≤ a
  · rw [iI_rem (by omega) hb, show tm a b = a % b from if_pos c]
  · have e0 : a.tdiv b = -((-a) / b) := by
      rw [show a = -(-a) from by omega, Int.neg_tdiv, Int.tdiv_eq_ediv_of_nonneg (by omega), show (- -a : Int) = a from by omega]
    have r0 : 0 ≤ (-a) / b := Int.ediv_nonneg (by omega) (by omega)
    have r1 : (-a) / b ≤ -a := Int.ediv_le_self _ (by omega)
    have e1 : iI a / iI b = iI (-((-a) / b)) := by
      apply Int32.toInt_inj.mp
      rw [Int32.toInt_div_of_ne_right _ _ (fun h => by
        have h2 := congrArg Int32.toInt h
        rw [iI_toInt (by omega)] at h2
        have h3 : (-1 : Int32).toInt = -1 := by decide
        omega), iI_toInt ha, iI_toInt (by omega), iI_toInt (by omega), e0]
    rw [e1, iI_mul, iI_sub]
    congr 1
    rw [show tm a b = -((-a) % b) from if_neg c]
    have h4 := Int.mul_ediv_add_emod (-a) b
    rw [Int.mul_comm] at h4
    rw [Int.neg_mul]
    omega
def xr (a b : Int) : Int := (iI a ^^^ iI b).toInt
theorem xr_r (a b : Int) : -2147483648 ≤ xr a b ∧ xr a b < 2147483648 := iI_rg _
theorem xr_s {a b : Int} (ha : -2147483648 ≤ a ∧ a < 2147483648) (hb : 0 ≤ b ∧ b < 2147483648) : xr a b < 0 ↔ a < 0 := by
  have h1 : (iI b).toBitVec.msb = false := by
    rw [BitVec.msb_eq_toInt]
    simp only [decide_eq_false_iff_not]
    show ¬ (iI b).toInt < 0
    rw [iI_toInt (by omega)]
    omega
  have h2 : (iI a).toBitVec.msb = decide (a < 0) := by
    rw [BitVec.msb_eq_toInt]
    show decide ((iI a).toInt < 0) = _
    rw [iI_toInt ha]
  have h3 : ((iI a).toBitVec ^^^ (iI b).toBitVec).msb = decide (a < 0) := by
    rw [BitVec.msb_xor, h1, h2]
    simp
  rw [BitVec.msb_eq_toInt] at h3
  have h4 : xr a b = ((iI a).toBitVec ^^^ (iI b).toBitVec).toInt := rfl
  rw [h4]
  exact decide_eq_decide.mp h3
section JREM
variable {p : Program} {l : Launch} {e : Env} {R : Room} {s : State} {m : MethodId} {args : Array Value} {below : List Frame} {meth : Method} {c : Code} {D : va_G} {tys : List (ClassId × FieldType)} {A : Nat → Prop} {nL : Nat} {Q : State → Prop} {cells slots pc : Nat} {lv : List (Nat × Value)} {st : List Value} {ws : va_W} {cc : ByteArray} {own : String}
theorem j_iremT (C : Cx p s m args c D tys A nL cc own) {q : Nat} {a b : Int} (ha : -2147483648 ≤ a ∧ a < 2147483648) (hb : 0 < b ∧ b < 2147483648) (hdg : decode cc pc = .ok (.irem, 1)) (hq : pc + 1 = q) (k : JJ p l e R s m args below meth c D A nL Q cells slots q lv (.int (iI (tm a b)) :: st) ws) : JJ p l e R s m args below meth c D A nL Q cells slots pc lv (.int (iI b) :: .int (iI a) :: st) ws := by
  subst hq
  intro H locs ls hP hD hS hl
  exact lv_irem C.1 C.2.1 hdg (fun h => by have := (iI_eq (a := b) (b := 0) (by omega) (by omega)).mp h; omega) (by rw [iI_rems ha hb]; exact k H locs ls hP hD hS hl)
theorem j_ixor (C : Cx p s m args c D tys A nL cc own) {q : Nat} {a b : Int} (hdg : decode cc pc = .ok (.ixor, 1)) (hq : pc + 1 = q) (k : JJ p l e R s m args below meth c D A nL Q cells slots q lv (.int (iI (xr a b)) :: st) ws) : JJ p l e R s m args below meth c D A nL Q cells slots pc lv (.int (iI b) :: .int (iI a) :: st) ws := by
  subst hq
  intro H locs ls hP hD hS hl
  exact lv_ixor C.1 C.2.1 hdg (by rw [← iI_self (iI a ^^^ iI b)]; exact k H locs ls hP hD hS hl)
end JREM
