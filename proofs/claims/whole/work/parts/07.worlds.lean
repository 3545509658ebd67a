abbrev ty2 (kI kZ : ClassId) : List (ClassId × FieldType) := [(kI, .int), (kZ, .boolean)]
def wW (kI kZ : ClassId) (x : Nat → Nat) (P : Nat → Int) (L : Nat → Int) (C : Nat → Int) (n : Int) (k : Int) : va_W := [(x 1, .inr (6, [.ref (x 2), .ref (x 3), .ref (x 4), .int (iI (n)), .int (iI (k))])), (x 2, aI kI 480 P), (x 3, aI kI 60 L), (x 4, aI kI 8 C)]
def wK (kI kZ : ClassId) (x : Nat → Nat) (S : Nat → Int) (B : Nat → Int) (E : Nat → Int) (Z : Nat → Int) (V : Nat → Int) (n : Int) (w : Int) : va_W := [(x 5, .inr (0, [.ref (x 6), .ref (x 7), .ref (x 8), .ref (x 9), .ref (x 10), .int (iI (n)), .int (iI (w))])), (x 6, aI kI 60 S), (x 7, aI kI 30 B), (x 8, aI kI 30 E), (x 9, aI kZ 26 Z), (x 10, aI kI 26 V)]
def wP (kI kZ : ClassId) (x : Nat → Nat) (W : Nat → Int) : va_W := [(x 11, .inr (1, [.ref (x 12)])), (x 12, aI kI 676 W)]
def wR (kI kZ : ClassId) (x : Nat → Nat) (P : Nat → Int) (S : Nat → Int) (n : Int) : va_W := [(x 13, .inr (3, [.ref (x 14), .ref (x 15), .int (iI (n))])), (x 14, aI kI 5200 P), (x 15, aI kI 200 S)]
def wY (kI kZ : ClassId) (x : Nat → Nat) (P : Nat → Int) : va_W := [(x 17, aI kI 26 P)]
def wS (kI kZ : ClassId) (x : Nat → Nat) (T : Nat → Int) (G : Nat → Int) (g : Int) (a : Int) (m : Int) (f : Int) (s : Int) : va_W := [(x 16, .inr (4, [.ref (x 1), .ref (x 5), .ref (x 13), .ref (x 17), .ref (x 18), .ref (x 19), .int (iI (g)), .int (iI (a)), .int (iI (m)), .int (iI (f)), .int (iI (s))])), (x 18, aI kZ 26 T), (x 19, aI kI 26 G)]
def wX (kI kZ : ClassId) (x : Nat → Nat) (P : Nat → Int) (n : Int) : va_W := [(x 20, .inr (2, [.ref (x 21), .int (iI (n))])), (x 21, aI kI 60 P)]
def wB (kI kZ : ClassId) (x : Nat → Nat) (F : Nat → Int) : va_W := [(x 22, .inr (5, [.ref (x 1), .ref (x 20), .ref (x 23)])), (x 23, aI kI 61 F)]
def wC (kI kZ : ClassId) (x : Nat → Nat)  : va_W := [(x 0, .inr (7, [.ref (x 1), .ref (x 5), .ref (x 11), .ref (x 13), .ref (x 16), .ref (x 20), .ref (x 22)]))]
def bP (a : Int) : Int := if 0 ≤ a ∧ a < 26 then 1 else 0
theorem bP_r (a : Int) : 0 ≤ bP a ∧ bP a ≤ 1 := by unfold bP; split <;> omega
theorem bP_0 {a : Int} (h : bP a = 0) : ¬ (0 ≤ a ∧ a < 26) := by unfold bP at h; split at h <;> omega
theorem bP_1 {a : Int} (h : ¬ bP a = 0) : 0 ≤ a ∧ a < 26 := by unfold bP at h; split at h <;> omega
def plOf (a : Int) : Int := if 97 ≤ a ∧ a < 123 then a - 97 else -1
theorem plOf_r (a : Int) : -1 ≤ plOf a ∧ plOf a < 26 := by unfold plOf; split <;> omega
def leOf (a : Int) : Int := if 0 ≤ a ∧ a < 26 then a + 97 else -1
def shL (a b : Int) : Int := if a = -1 then -1 else leOf ((a + b) % 26)
section JL
variable {p : Program} {l : Launch} {e : Env} {R : Room} {s : State} {m : MethodId} {args : Array Value} {below : List Frame} {meth : Method} {c : Code} {D : va_G} {tys : List (ClassId × FieldType)} {A : Nat → Prop} {nL : Nat} {Q : State → Prop} {cells slots pc : Nat} {lv : List (Nat × Value)} {st : List Value} {ws : va_W} {cc : ByteArray} {own : String}
theorem j_lconst0 (C : Cx p s m args c D tys A nL cc own) {q : Nat} (hdg : decode cc pc = .ok (.lconst 0, 1)) (hq : pc + 1 = q) (k : JJ p l e R s m args below meth c D A nL Q cells slots q lv (.long (lI 0) :: st) ws) : JJ p l e R s m args below meth c D A nL Q cells slots pc lv st ws := j_lconst (n := 0) C hdg hq k
end JL
