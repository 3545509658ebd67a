section
-- ===== PART A: goes FIRST, ahead of the names: the tables' words, and 'selects' of the private methods out of them =====
/-- a private method of a class that the tables say can be made, by its rows of tables_1 -/
def lw_okq (q : MethodName × Nat) : Prop := (q.1.cls ≠ "java/lang/invoke/MethodHandle" ∧ q.1.cls ≠ "java/lang/invoke/VarHandle") ∧ Cond.instantiable q.1.cls q.2 ∈ tables_1 ∧ Cond.privateMethod q.1 ∈ tables_1 ∧ Cond.instanceMethod q.1 ∈ tables_1
theorem lw_p0 : lw_okq (⟨"CodedLetters$WordList", "numberOfCollected", "()I"⟩, 5) := ⟨⟨by decide +kernel, by decide +kernel⟩, List.mem_of_getElem? (i := 22) (by decide +kernel), List.mem_of_getElem? (i := 216) (by decide +kernel), List.mem_of_getElem? (i := 217) (by decide +kernel)⟩
theorem lw_p1 : lw_okq (⟨"CodedLetters$WordList", "isCollected", "(I)Z"⟩, 5) := ⟨⟨by decide +kernel, by decide +kernel⟩, List.mem_of_getElem? (i := 22) (by decide +kernel), List.mem_of_getElem? (i := 220) (by decide +kernel), List.mem_of_getElem? (i := 221) (by decide +kernel)⟩
theorem lw_p2 : lw_okq (⟨"CodedLetters$WordList", "addCollected", "()I"⟩, 5) := ⟨⟨by decide +kernel, by decide +kernel⟩, List.mem_of_getElem? (i := 22) (by decide +kernel), List.mem_of_getElem? (i := 232) (by decide +kernel), List.mem_of_getElem? (i := 233) (by decide +kernel)⟩
theorem lw_p3 : lw_okq (⟨"CodedLetters$Code", "growCodeword", "()V"⟩, 7) := ⟨⟨by decide +kernel, by decide +kernel⟩, List.mem_of_getElem? (i := 45) (by decide +kernel), List.mem_of_getElem? (i := 250) (by decide +kernel), List.mem_of_getElem? (i := 251) (by decide +kernel)⟩
theorem lw_p4 : lw_okq (⟨"CodedLetters$Search", "beginWithKept", "()Z"⟩, 11) := ⟨⟨by decide +kernel, by decide +kernel⟩, List.mem_of_getElem? (i := 103) (by decide +kernel), List.mem_of_getElem? (i := 290) (by decide +kernel), List.mem_of_getElem? (i := 291) (by decide +kernel)⟩
theorem lw_p5 : lw_okq (⟨"CodedLetters$Search", "seekFrom", "(I)V"⟩, 11) := ⟨⟨by decide +kernel, by decide +kernel⟩, List.mem_of_getElem? (i := 103) (by decide +kernel), List.mem_of_getElem? (i := 304) (by decide +kernel), List.mem_of_getElem? (i := 305) (by decide +kernel)⟩
theorem lw_p6 : lw_okq (⟨"CodedLetters$Readings", "positionOf", "([I)I"⟩, 3) := ⟨⟨by decide +kernel, by decide +kernel⟩, List.mem_of_getElem? (i := 87) (by decide +kernel), List.mem_of_getElem? (i := 316) (by decide +kernel), List.mem_of_getElem? (i := 317) (by decide +kernel)⟩
theorem lw_p7 : lw_okq (⟨"CodedLetters$Readings", "isAhead", "(I[I)Z"⟩, 3) := ⟨⟨by decide +kernel, by decide +kernel⟩, List.mem_of_getElem? (i := 87) (by decide +kernel), List.mem_of_getElem? (i := 320) (by decide +kernel), List.mem_of_getElem? (i := 321) (by decide +kernel)⟩
theorem lw_p8 : lw_okq (⟨"CodedLetters$Search", "tryWord", "(II)V"⟩, 11) := ⟨⟨by decide +kernel, by decide +kernel⟩, List.mem_of_getElem? (i := 103) (by decide +kernel), List.mem_of_getElem? (i := 334) (by decide +kernel), List.mem_of_getElem? (i := 335) (by decide +kernel)⟩
theorem lw_p9 : lw_okq (⟨"CodedLetters$Search", "agrees", "(II)Z"⟩, 11) := ⟨⟨by decide +kernel, by decide +kernel⟩, List.mem_of_getElem? (i := 103) (by decide +kernel), List.mem_of_getElem? (i := 338) (by decide +kernel), List.mem_of_getElem? (i := 339) (by decide +kernel)⟩
theorem lw_p10 : lw_okq (⟨"CodedLetters$Search", "give", "(II)Z"⟩, 11) := ⟨⟨by decide +kernel, by decide +kernel⟩, List.mem_of_getElem? (i := 103) (by decide +kernel), List.mem_of_getElem? (i := 348) (by decide +kernel), List.mem_of_getElem? (i := 349) (by decide +kernel)⟩
theorem lw_p11 : lw_okq (⟨"CodedLetters$Search", "takeBack", "(I)V"⟩, 11) := ⟨⟨by decide +kernel, by decide +kernel⟩, List.mem_of_getElem? (i := 103) (by decide +kernel), List.mem_of_getElem? (i := 353) (by decide +kernel), List.mem_of_getElem? (i := 354) (by decide +kernel)⟩
theorem lw_p12 : lw_okq (⟨"CodedLetters", "rankOfKept", "(I)J"⟩, 7) := ⟨⟨by decide +kernel, by decide +kernel⟩, List.mem_of_getElem? (i := 14) (by decide +kernel), List.mem_of_getElem? (i := 387) (by decide +kernel), List.mem_of_getElem? (i := 388) (by decide +kernel)⟩
theorem lw_p13 : lw_okq (⟨"CodedLetters", "shiftedSum", "(I)J"⟩, 7) := ⟨⟨by decide +kernel, by decide +kernel⟩, List.mem_of_getElem? (i := 14) (by decide +kernel), List.mem_of_getElem? (i := 454) (by decide +kernel), List.mem_of_getElem? (i := 455) (by decide +kernel)⟩
theorem lw_p14 : lw_okq (⟨"CodedLetters$WordBreaks", "fewestAt", "(I)I"⟩, 3) := ⟨⟨by decide +kernel, by decide +kernel⟩, List.mem_of_getElem? (i := 156) (by decide +kernel), List.mem_of_getElem? (i := 477) (by decide +kernel), List.mem_of_getElem? (i := 478) (by decide +kernel)⟩
theorem lw_p15 : lw_okq (⟨"CodedLetters$WordBreaks", "fewestBehind", "(II)I"⟩, 3) := ⟨⟨by decide +kernel, by decide +kernel⟩, List.mem_of_getElem? (i := 156) (by decide +kernel), List.mem_of_getElem? (i := 482) (by decide +kernel), List.mem_of_getElem? (i := 483) (by decide +kernel)⟩
def lw_privs_1 : List (MethodName × Nat) := [(⟨"CodedLetters$WordList", "numberOfCollected", "()I"⟩, 5), (⟨"CodedLetters$WordList", "isCollected", "(I)Z"⟩, 5), (⟨"CodedLetters$WordList", "addCollected", "()I"⟩, 5), (⟨"CodedLetters$Code", "growCodeword", "()V"⟩, 7), (⟨"CodedLetters$Search", "beginWithKept", "()Z"⟩, 11), (⟨"CodedLetters$Search", "seekFrom", "(I)V"⟩, 11), (⟨"CodedLetters$Readings", "positionOf", "([I)I"⟩, 3), (⟨"CodedLetters$Readings", "isAhead", "(I[I)Z"⟩, 3), (⟨"CodedLetters$Search", "tryWord", "(II)V"⟩, 11), (⟨"CodedLetters$Search", "agrees", "(II)Z"⟩, 11), (⟨"CodedLetters$Search", "give", "(II)Z"⟩, 11), (⟨"CodedLetters$Search", "takeBack", "(I)V"⟩, 11), (⟨"CodedLetters", "rankOfKept", "(I)J"⟩, 7), (⟨"CodedLetters", "shiftedSum", "(I)J"⟩, 7), (⟨"CodedLetters$WordBreaks", "fewestAt", "(I)I"⟩, 3), (⟨"CodedLetters$WordBreaks", "fewestBehind", "(II)I"⟩, 3)]
theorem lw_r1 : ∀ q ∈ lw_privs_1, lw_okq q := List.forall_mem_cons.mpr ⟨lw_p0, List.forall_mem_cons.mpr ⟨lw_p1, List.forall_mem_cons.mpr ⟨lw_p2, List.forall_mem_cons.mpr ⟨lw_p3, List.forall_mem_cons.mpr ⟨lw_p4, List.forall_mem_cons.mpr ⟨lw_p5, List.forall_mem_cons.mpr ⟨lw_p6, List.forall_mem_cons.mpr ⟨lw_p7, List.forall_mem_cons.mpr ⟨lw_p8, List.forall_mem_cons.mpr ⟨lw_p9, List.forall_mem_cons.mpr ⟨lw_p10, List.forall_mem_cons.mpr ⟨lw_p11, List.forall_mem_cons.mpr ⟨lw_p12, List.forall_mem_cons.mpr ⟨lw_p13, List.forall_mem_cons.mpr ⟨lw_p14, List.forall_mem_cons.mpr ⟨lw_p15, fun _ h => absurd h List.not_mem_nil⟩⟩⟩⟩⟩⟩⟩⟩⟩⟩⟩⟩⟩⟩⟩⟩
theorem lw_p16 : lw_okq (⟨"CodedLetters$WordBreaks", "leastWordAt", "(I)I"⟩, 3) := ⟨⟨by decide +kernel, by decide +kernel⟩, List.mem_of_getElem? (i := 156) (by decide +kernel), List.mem_of_getElem? (i := 498) (by decide +kernel), List.mem_of_getElem? (i := 499) (by decide +kernel)⟩
theorem lw_p17 : lw_okq (⟨"CodedLettersModel", "enter", "()I"⟩, 21) := ⟨⟨by decide +kernel, by decide +kernel⟩, List.mem_of_getElem? (i := 514) (by decide +kernel), List.mem_of_getElem? (i := 595) (by decide +kernel), List.mem_of_getElem? (i := 596) (by decide +kernel)⟩
theorem lw_p18 : lw_okq (⟨"CodedLettersModel", "isRow", "(I)Z"⟩, 21) := ⟨⟨by decide +kernel, by decide +kernel⟩, List.mem_of_getElem? (i := 514) (by decide +kernel), List.mem_of_getElem? (i := 599) (by decide +kernel), List.mem_of_getElem? (i := 600) (by decide +kernel)⟩
theorem lw_p19 : lw_okq (⟨"CodedLettersModel", "at", "(II)I"⟩, 21) := ⟨⟨by decide +kernel, by decide +kernel⟩, List.mem_of_getElem? (i := 514) (by decide +kernel), List.mem_of_getElem? (i := 603) (by decide +kernel), List.mem_of_getElem? (i := 604) (by decide +kernel)⟩
theorem lw_p20 : lw_okq (⟨"CodedLettersModel", "part", "()V"⟩, 21) := ⟨⟨by decide +kernel, by decide +kernel⟩, List.mem_of_getElem? (i := 514) (by decide +kernel), List.mem_of_getElem? (i := 623) (by decide +kernel), List.mem_of_getElem? (i := 624) (by decide +kernel)⟩
theorem lw_p21 : lw_okq (⟨"CodedLettersModel", "fits", "(I)Z"⟩, 21) := ⟨⟨by decide +kernel, by decide +kernel⟩, List.mem_of_getElem? (i := 514) (by decide +kernel), List.mem_of_getElem? (i := 632) (by decide +kernel), List.mem_of_getElem? (i := 633) (by decide +kernel)⟩
theorem lw_p22 : lw_okq (⟨"CodedLettersModel", "isIn", "(I)Z"⟩, 21) := ⟨⟨by decide +kernel, by decide +kernel⟩, List.mem_of_getElem? (i := 514) (by decide +kernel), List.mem_of_getElem? (i := 636) (by decide +kernel), List.mem_of_getElem? (i := 637) (by decide +kernel)⟩
theorem lw_p23 : lw_okq (⟨"CodedLettersModel", "tell", "(II)Z"⟩, 21) := ⟨⟨by decide +kernel, by decide +kernel⟩, List.mem_of_getElem? (i := 514) (by decide +kernel), List.mem_of_getElem? (i := 640) (by decide +kernel), List.mem_of_getElem? (i := 641) (by decide +kernel)⟩
theorem lw_p24 : lw_okq (⟨"CodedLettersModel", "enterReading", "()V"⟩, 21) := ⟨⟨by decide +kernel, by decide +kernel⟩, List.mem_of_getElem? (i := 514) (by decide +kernel), List.mem_of_getElem? (i := 644) (by decide +kernel), List.mem_of_getElem? (i := 645) (by decide +kernel)⟩
theorem lw_p25 : lw_okq (⟨"CodedLettersModel", "isAhead", "(I)Z"⟩, 21) := ⟨⟨by decide +kernel, by decide +kernel⟩, List.mem_of_getElem? (i := 514) (by decide +kernel), List.mem_of_getElem? (i := 648) (by decide +kernel), List.mem_of_getElem? (i := 649) (by decide +kernel)⟩
theorem lw_p26 : lw_okq (⟨"CodedLettersModel", "rankOf", "(I)J"⟩, 21) := ⟨⟨by decide +kernel, by decide +kernel⟩, List.mem_of_getElem? (i := 514) (by decide +kernel), List.mem_of_getElem? (i := 664) (by decide +kernel), List.mem_of_getElem? (i := 665) (by decide +kernel)⟩
theorem lw_p27 : lw_okq (⟨"CodedLettersModel", "weight", "(II)I"⟩, 21) := ⟨⟨by decide +kernel, by decide +kernel⟩, List.mem_of_getElem? (i := 514) (by decide +kernel), List.mem_of_getElem? (i := 668) (by decide +kernel), List.mem_of_getElem? (i := 669) (by decide +kernel)⟩
theorem lw_p28 : lw_okq (⟨"CodedLettersModel", "reckon", "()V"⟩, 21) := ⟨⟨by decide +kernel, by decide +kernel⟩, List.mem_of_getElem? (i := 514) (by decide +kernel), List.mem_of_getElem? (i := 703) (by decide +kernel), List.mem_of_getElem? (i := 704) (by decide +kernel)⟩
theorem lw_p29 : lw_okq (⟨"CodedLettersModel", "stands", "(II)Z"⟩, 21) := ⟨⟨by decide +kernel, by decide +kernel⟩, List.mem_of_getElem? (i := 514) (by decide +kernel), List.mem_of_getElem? (i := 707) (by decide +kernel), List.mem_of_getElem? (i := 708) (by decide +kernel)⟩
def lw_privs_2 : List (MethodName × Nat) := [(⟨"CodedLetters$WordBreaks", "leastWordAt", "(I)I"⟩, 3), (⟨"CodedLettersModel", "enter", "()I"⟩, 21), (⟨"CodedLettersModel", "isRow", "(I)Z"⟩, 21), (⟨"CodedLettersModel", "at", "(II)I"⟩, 21), (⟨"CodedLettersModel", "part", "()V"⟩, 21), (⟨"CodedLettersModel", "fits", "(I)Z"⟩, 21), (⟨"CodedLettersModel", "isIn", "(I)Z"⟩, 21), (⟨"CodedLettersModel", "tell", "(II)Z"⟩, 21), (⟨"CodedLettersModel", "enterReading", "()V"⟩, 21), (⟨"CodedLettersModel", "isAhead", "(I)Z"⟩, 21), (⟨"CodedLettersModel", "rankOf", "(I)J"⟩, 21), (⟨"CodedLettersModel", "weight", "(II)I"⟩, 21), (⟨"CodedLettersModel", "reckon", "()V"⟩, 21), (⟨"CodedLettersModel", "stands", "(II)Z"⟩, 21)]
theorem lw_r2 : ∀ q ∈ lw_privs_2, lw_okq q := List.forall_mem_cons.mpr ⟨lw_p16, List.forall_mem_cons.mpr ⟨lw_p17, List.forall_mem_cons.mpr ⟨lw_p18, List.forall_mem_cons.mpr ⟨lw_p19, List.forall_mem_cons.mpr ⟨lw_p20, List.forall_mem_cons.mpr ⟨lw_p21, List.forall_mem_cons.mpr ⟨lw_p22, List.forall_mem_cons.mpr ⟨lw_p23, List.forall_mem_cons.mpr ⟨lw_p24, List.forall_mem_cons.mpr ⟨lw_p25, List.forall_mem_cons.mpr ⟨lw_p26, List.forall_mem_cons.mpr ⟨lw_p27, List.forall_mem_cons.mpr ⟨lw_p28, List.forall_mem_cons.mpr ⟨lw_p29, fun _ h => absurd h List.not_mem_nil⟩⟩⟩⟩⟩⟩⟩⟩⟩⟩⟩⟩⟩⟩
def lw_privs : List (MethodName × Nat) := lw_privs_1 ++ (lw_privs_2)
def lw_tbl : List Cond := k2_sels lw_privs ++ tables_1
theorem lw_privs_ok : ∀ q ∈ lw_privs, lw_okq q := by
  show ∀ q ∈ lw_privs_1 ++ (lw_privs_2), lw_okq q
  exact List.forall_mem_append.mpr ⟨lw_r1, lw_r2⟩
end
section
/-! THE NUMBERS: every int is iI of an integer, every long lI of one -/
def iI (z : Int) : Int32 := Int32.ofInt z
def lI (z : Int) : Int64 := Int64.ofInt z
theorem iI_toInt {z : Int} (h : -2147483648 ≤ z ∧ z < 2147483648) : (iI z).toInt = z := by
  unfold iI
  rw [Int32.toInt_ofInt]
  unfold Int.bmod
  simp only [Int32.size]
  omega
theorem iI_self (x : Int32) : iI x.toInt = x := by
  unfold iI
  exact Int32.ofInt_toInt x
theorem iI_rg (x : Int32) : -2147483648 ≤ x.toInt ∧ x.toInt < 2147483648 := by
  have h1 := Int32.le_toInt x
  have h2 := Int32.toInt_lt x
  omega
theorem iI_add (a b : Int) : iI a + iI b = iI (a + b) := by
  unfold iI
  exact (Int32.ofInt_add a b).symm
theorem iI_sub (a b : Int) : iI a - iI b = iI (a - b) := by
  unfold iI
  exact (Int32.ofInt_sub a b).symm
theorem iI_mul (a b : Int) : iI a * iI b = iI (a * b) := by
  unfold iI
  exact (Int32.ofInt_mul a b).symm
theorem iI_lt {a b : Int} (ha : -2147483648 ≤ a ∧ a < 2147483648) (hb : -2147483648 ≤ b ∧ b < 2147483648) : iI a < iI b ↔ a < b := by
  rw [Int32.lt_iff_toInt_lt, iI_toInt ha, iI_toInt hb]
theorem iI_le {a b : Int} (ha : -2147483648 ≤ a ∧ a < 2147483648) (hb : -2147483648 ≤ b ∧ b < 2147483648) : iI a ≤ iI b ↔ a ≤ b := by
  rw [Int32.le_iff_toInt_le, iI_toInt ha, iI_toInt hb]
theorem iI_eq {a b : Int} (ha : -2147483648 ≤ a ∧ a < 2147483648) (hb : -2147483648 ≤ b ∧ b < 2147483648) : iI a = iI b ↔ a = b := by
  constructor
  · intro h
    have := congrArg Int32.toInt h
    rwa [iI_toInt ha, iI_toInt hb] at this
  · intro h
    rw [h]
theorem iI_clamp {z : Int} (h : -2147483648 ≤ z ∧ z < 2147483648) : (iI z).toNatClampNeg = z.toNat := by
  show (iI z).toInt.toNat = z.toNat
  rw [iI_toInt h]
theorem iI_in {z : Int} {n : Nat} (h : 0 ≤ z ∧ z < n) (hn : n < 2147483648) : vp_in (iI z) n := by
  rw [vp_in_iff, iI_toInt (by omega)]
  omega
theorem iI_0 : iI 0 = 0 := rfl
theorem iI_nat (n : Nat) : Int32.ofNat n = iI n := by
  unfold iI
  exact (Int32.ofInt_eq_ofNat (n := n)).symm
theorem lI_toInt {z : Int} (h : -9223372036854775808 ≤ z ∧ z < 9223372036854775808) : (lI z).toInt = z := by
  unfold lI
  rw [Int64.toInt_ofInt]
  unfold Int.bmod
  simp only [Int64.size]
  omega
theorem lI_add (a b : Int) : lI a + lI b = lI (a + b) := by
  unfold lI
  exact (Int64.ofInt_add a b).symm
theorem lI_lt {a b : Int} (ha : -9223372036854775808 ≤ a ∧ a < 9223372036854775808) (hb : -9223372036854775808 ≤ b ∧ b < 9223372036854775808) : lI a < lI b ↔ a < b := by
  rw [Int64.lt_iff_toInt_lt, lI_toInt ha, lI_toInt hb]
theorem iI_long {a : Int} (h : -2147483648 ≤ a ∧ a < 2147483648) : (iI a).toInt64 = lI a := by
  apply Int64.toInt_inj.mp
  rw [Int32.toInt_toInt64, iI_toInt h, lI_toInt (by omega)]
theorem iI_div {a b : Int} (ha : 0 ≤ a ∧ a < 2147483648) (hb : 0 < b ∧ b < 2147483648) : iI a / iI b = iI (a / b) := by
  obtain ⟨n, rfl⟩ := Int.eq_ofNat_of_zero_le ha.1
  obtain ⟨k, rfl⟩ := Int.eq_ofNat_of_zero_le (Int.le_of_lt hb.1)
  have h1 : iI (n : Int) = nI n := (iI_nat n).symm
  have h2 : iI (k : Int) = nI k := (iI_nat k).symm
  rw [h1, h2, pk_div (by omega) (by omega) (by omega)]
  show Int32.ofNat (n / k) = _
  rw [iI_nat]
  rfl
theorem iI_rem {a b : Int} (ha : 0 ≤ a ∧ a < 2147483648) (hb : 0 < b ∧ b < 2147483648) : iI a - iI a / iI b * iI b = iI (a % b) := by
  rw [iI_div ha hb, iI_mul, iI_sub]
  congr 1
  have := Int.mul_ediv_add_emod a b
  rw [Int.mul_comm] at this
  omega
end
section
def R_law : String := "CodedLettersLaw"
/-! NAMES, by wip/tools/gen_names.py out of JAVAP.txt and the tables of the Statement -/
def wtb : List Cond := lw_tbl.filter goodWord
theorem wtb_of {w : Cond} (h : w ∈ lw_tbl) (g : goodWord w = true) : w ∈ wtb := List.mem_filter.mpr ⟨h, g⟩
theorem wtb_in {w : Cond} (h : w ∈ wtb) : w ∈ lw_tbl := (List.mem_filter.mp h).1
theorem wtb_good {w : Cond} (h : w ∈ wtb) : (w.onTables && w.keeps) = true ∨ ∃ ty, w = .arrayClass ty := good_of_word (List.mem_filter.mp h).2
theorem wtb_at {w : Cond} (i : Nat) (h : lw_tbl[i]? = some w) (g : goodWord w = true) : w ∈ wtb := wtb_of (List.mem_of_getElem? h) g
theorem wtb_all (ws : List Cond) (ps : List Nat) (hp : ws = ps.filterMap (fun i => lw_tbl[i]?)) (h : ws.all goodWord = true) : ∀ w ∈ ws, w ∈ wtb := by
  intro w hw
  have h1 := List.all_eq_true.mp h w hw
  rw [hp] at hw
  obtain ⟨i, -, hi⟩ := List.mem_filterMap.mp hw
  exact wtb_of (List.mem_of_getElem? hi) h1
theorem wtb_self : GoodIn wtb wtb := fun _ h => ⟨h, wtb_good h⟩
theorem wtb_cons {w : Cond} (h : w ∈ wtb) : GoodIn wtb (w :: wtb) := fun v hv => by
  rcases List.mem_cons.mp hv with e | e
  · rw [e]; exact ⟨h, wtb_good h⟩
  · exact ⟨e, wtb_good e⟩
def R_K : String := "CodedLetters$Code"
def F_K : u_T := fun k => match k with
  | 0 => ("CodedLetters$Code", "signs", "[I", true)
  | 1 => ("CodedLetters$Code", "starts", "[I", true)
  | 2 => ("CodedLetters$Code", "lengths", "[I", true)
  | 3 => ("CodedLetters$Code", "present", "[Z", true)
  | 4 => ("CodedLetters$Code", "kept", "[I", true)
  | 5 => ("CodedLetters$Code", "count", "I", false)
  | _ => ("CodedLetters$Code", "codewordCount", "I", false)
def t_K : Nat → FieldType := fun k => match k with
  | 0 => .array .int
  | 1 => .array .int
  | 2 => .array .int
  | 3 => .array .boolean
  | 4 => .array .int
  | 5 => .int
  | _ => .int
theorem n_K : ∀ a, a < 7 → ∀ b, b < 7 → a ≠ b → (F_K a).2.1 ≠ (F_K b).2.1 := by decide +kernel
theorem t_K_ok : ∀ k, k < 7 → parseFieldDescriptor (F_K k).2.2.1 = some (t_K k) := by decide +kernel
theorem i_K : ∀ w ∈ u_ws R_K F_K 7, w ∈ wtb := wtb_all _ [90, 92, 94, 96, 98, 100, 102] (by decide +kernel) (by decide +kernel)
theorem is_K : Cond.instantiable R_K 7 ∈ wtb := wtb_at 75 (by decide +kernel) rfl
def R_P : String := "CodedLetters$Pairs"
def F_P : u_T := fun k => match k with
  | _ => ("CodedLetters$Pairs", "weights", "[I", true)
def t_P : Nat → FieldType := fun k => match k with
  | _ => .array .int
theorem n_P : ∀ a, a < 1 → ∀ b, b < 1 → a ≠ b → (F_P a).2.1 ≠ (F_P b).2.1 := by decide +kernel
theorem t_P_ok : ∀ k, k < 1 → parseFieldDescriptor (F_P k).2.2.1 = some (t_P k) := by decide +kernel
theorem i_P : ∀ w ∈ u_ws R_P F_P 1, w ∈ wtb := wtb_all _ [113] (by decide +kernel) (by decide +kernel)
theorem is_P : Cond.instantiable R_P 1 ∈ wtb := wtb_at 107 (by decide +kernel) rfl
def R_X : String := "CodedLetters$PlainText"
def F_X : u_T := fun k => match k with
  | 0 => ("CodedLetters$PlainText", "places", "[I", true)
  | _ => ("CodedLetters$PlainText", "count", "I", false)
def t_X : Nat → FieldType := fun k => match k with
  | 0 => .array .int
  | _ => .int
theorem n_X : ∀ a, a < 2 → ∀ b, b < 2 → a ≠ b → (F_X a).2.1 ≠ (F_X b).2.1 := by decide +kernel
theorem t_X_ok : ∀ k, k < 2 → parseFieldDescriptor (F_X k).2.2.1 = some (t_X k) := by decide +kernel
theorem i_X : ∀ w ∈ u_ws R_X F_X 2, w ∈ wtb := wtb_all _ [180, 182] (by decide +kernel) (by decide +kernel)
theorem is_X : Cond.instantiable R_X 2 ∈ wtb := wtb_at 173 (by decide +kernel) rfl
def R_R : String := "CodedLetters$Readings"
def F_R : u_T := fun k => match k with
  | 0 => ("CodedLetters$Readings", "places", "[I", true)
  | 1 => ("CodedLetters$Readings", "slots", "[I", true)
  | _ => ("CodedLetters$Readings", "count", "I", false)
def t_R : Nat → FieldType := fun k => match k with
  | 0 => .array .int
  | 1 => .array .int
  | _ => .int
theorem n_R : ∀ a, a < 3 → ∀ b, b < 3 → a ≠ b → (F_R a).2.1 ≠ (F_R b).2.1 := by decide +kernel
theorem t_R_ok : ∀ k, k < 3 → parseFieldDescriptor (F_R k).2.2.1 = some (t_R k) := by decide +kernel
theorem i_R : ∀ w ∈ u_ws R_R F_R 3, w ∈ wtb := wtb_all _ [125, 127, 129] (by decide +kernel) (by decide +kernel)
theorem is_R : Cond.instantiable R_R 3 ∈ wtb := wtb_at 117 (by decide +kernel) rfl
def R_S : String := "CodedLetters$Search"
def F_S : u_T := fun k => match k with
  | 0 => ("CodedLetters$Search", "words", "LCodedLetters$WordList;", true)
  | 1 => ("CodedLetters$Search", "code", "LCodedLetters$Code;", true)
  | 2 => ("CodedLetters$Search", "readings", "LCodedLetters$Readings;", true)
  | 3 => ("CodedLetters$Search", "places", "[I", true)
  | 4 => ("CodedLetters$Search", "taken", "[Z", true)
  | 5 => ("CodedLetters$Search", "given", "[I", true)
  | 6 => ("CodedLetters$Search", "givenCount", "I", false)
  | 7 => ("CodedLetters$Search", "allowed", "I", false)
  | 8 => ("CodedLetters$Search", "made", "I", false)
  | 9 => ("CodedLetters$Search", "found", "I", false)
  | _ => ("CodedLetters$Search", "stopped", "Z", false)
def t_S : Nat → FieldType := fun k => match k with
  | 0 => .object "CodedLetters$WordList"
  | 1 => .object "CodedLetters$Code"
  | 2 => .object "CodedLetters$Readings"
  | 3 => .array .int
  | 4 => .array .boolean
  | 5 => .array .int
  | 6 => .int
  | 7 => .int
  | 8 => .int
  | 9 => .int
  | _ => .boolean
theorem n_S : ∀ a, a < 11 → ∀ b, b < 11 → a ≠ b → (F_S a).2.1 ≠ (F_S b).2.1 := by decide +kernel
theorem t_S_ok : ∀ k, k < 11 → parseFieldDescriptor (F_S k).2.2.1 = some (t_S k) := by decide +kernel
theorem i_S : ∀ w ∈ u_ws R_S F_S 11, w ∈ wtb := wtb_all _ [149, 151, 153, 155, 157, 159, 161, 163, 165, 167, 169] (by decide +kernel) (by decide +kernel)
theorem is_S : Cond.instantiable R_S 11 ∈ wtb := wtb_at 133 (by decide +kernel) rfl
def R_B : String := "CodedLetters$WordBreaks"
def F_B : u_T := fun k => match k with
  | 0 => ("CodedLetters$WordBreaks", "words", "LCodedLetters$WordList;", true)
  | 1 => ("CodedLetters$WordBreaks", "text", "LCodedLetters$PlainText;", true)
  | _ => ("CodedLetters$WordBreaks", "fewest", "[I", true)
def t_B : Nat → FieldType := fun k => match k with
  | 0 => .object "CodedLetters$WordList"
  | 1 => .object "CodedLetters$PlainText"
  | _ => .array .int
theorem n_B : ∀ a, a < 3 → ∀ b, b < 3 → a ≠ b → (F_B a).2.1 ≠ (F_B b).2.1 := by decide +kernel
theorem t_B_ok : ∀ k, k < 3 → parseFieldDescriptor (F_B k).2.2.1 = some (t_B k) := by decide +kernel
theorem i_B : ∀ w ∈ u_ws R_B F_B 3, w ∈ wtb := wtb_all _ [194, 196, 198] (by decide +kernel) (by decide +kernel)
theorem is_B : Cond.instantiable R_B 3 ∈ wtb := wtb_at 186 (by decide +kernel) rfl
def R_W : String := "CodedLetters$WordList"
def F_W : u_T := fun k => match k with
  | 0 => ("CodedLetters$WordList", "places", "[I", true)
  | 1 => ("CodedLetters$WordList", "lengths", "[I", true)
  | 2 => ("CodedLetters$WordList", "collected", "[I", true)
  | 3 => ("CodedLetters$WordList", "count", "I", false)
  | _ => ("CodedLetters$WordList", "collectedCount", "I", false)
def t_W : Nat → FieldType := fun k => match k with
  | 0 => .array .int
  | 1 => .array .int
  | 2 => .array .int
  | 3 => .int
  | _ => .int
theorem n_W : ∀ a, a < 5 → ∀ b, b < 5 → a ≠ b → (F_W a).2.1 ≠ (F_W b).2.1 := by decide +kernel
theorem t_W_ok : ∀ k, k < 5 → parseFieldDescriptor (F_W k).2.2.1 = some (t_W k) := by decide +kernel
theorem i_W : ∀ w ∈ u_ws R_W F_W 5, w ∈ wtb := wtb_all _ [62, 64, 66, 68, 70] (by decide +kernel) (by decide +kernel)
theorem is_W : Cond.instantiable R_W 5 ∈ wtb := wtb_at 52 (by decide +kernel) rfl
def R_C : String := "CodedLetters"
def F_C : u_T := fun k => match k with
  | 0 => ("CodedLetters", "words", "LCodedLetters$WordList;", true)
  | 1 => ("CodedLetters", "code", "LCodedLetters$Code;", true)
  | 2 => ("CodedLetters", "pairs", "LCodedLetters$Pairs;", true)
  | 3 => ("CodedLetters", "readings", "LCodedLetters$Readings;", true)
  | 4 => ("CodedLetters", "search", "LCodedLetters$Search;", true)
  | 5 => ("CodedLetters", "plainText", "LCodedLetters$PlainText;", true)
  | _ => ("CodedLetters", "wordBreaks", "LCodedLetters$WordBreaks;", true)
def t_C : Nat → FieldType := fun k => match k with
  | 0 => .object "CodedLetters$WordList"
  | 1 => .object "CodedLetters$Code"
  | 2 => .object "CodedLetters$Pairs"
  | 3 => .object "CodedLetters$Readings"
  | 4 => .object "CodedLetters$Search"
  | 5 => .object "CodedLetters$PlainText"
  | _ => .object "CodedLetters$WordBreaks"
theorem n_C : ∀ a, a < 7 → ∀ b, b < 7 → a ≠ b → (F_C a).2.1 ≠ (F_C b).2.1 := by decide +kernel
theorem t_C_ok : ∀ k, k < 7 → parseFieldDescriptor (F_C k).2.2.1 = some (t_C k) := by decide +kernel
theorem i_C : ∀ w ∈ u_ws R_C F_C 7, w ∈ wtb := wtb_all _ [208, 210, 212, 214, 216, 218, 220] (by decide +kernel) (by decide +kernel)
theorem is_C : Cond.instantiable R_C 7 ∈ wtb := wtb_at 44 (by decide +kernel) rfl
def R_M : String := "CodedLettersModel"
def F_M : u_T := fun k => match k with
  | 0 => ("CodedLettersModel", "thrown", "I", false)
  | 1 => ("CodedLettersModel", "collected", "I", false)
  | 2 => ("CodedLettersModel", "row", "[I", true)
  | 3 => ("CodedLettersModel", "words", "I", false)
  | 4 => ("CodedLettersModel", "lengths", "[I", true)
  | 5 => ("CodedLettersModel", "letters", "[I", true)
  | 6 => ("CodedLettersModel", "signs", "I", false)
  | 7 => ("CodedLettersModel", "code", "[I", true)
  | 8 => ("CodedLettersModel", "kept", "[I", true)
  | 9 => ("CodedLettersModel", "weights", "[I", true)
  | 10 => ("CodedLettersModel", "many", "I", false)
  | 11 => ("CodedLettersModel", "begins", "[I", true)
  | 12 => ("CodedLettersModel", "sizes", "[I", true)
  | 13 => ("CodedLettersModel", "tried", "[I", true)
  | 14 => ("CodedLettersModel", "map", "[I", true)
  | 15 => ("CodedLettersModel", "steps", "I", false)
  | 16 => ("CodedLettersModel", "readings", "I", false)
  | 17 => ("CodedLettersModel", "found", "[I", true)
  | 18 => ("CodedLettersModel", "plains", "I", false)
  | 19 => ("CodedLettersModel", "plain", "[I", true)
  | _ => ("CodedLettersModel", "fewest", "[I", true)
def t_M : Nat → FieldType := fun k => match k with
  | 0 => .int
  | 1 => .int
  | 2 => .array .int
  | 3 => .int
  | 4 => .array .int
  | 5 => .array .int
  | 6 => .int
  | 7 => .array .int
  | 8 => .array .int
  | 9 => .array .int
  | 10 => .int
  | 11 => .array .int
  | 12 => .array .int
  | 13 => .array .int
  | 14 => .array .int
  | 15 => .int
  | 16 => .int
  | 17 => .array .int
  | 18 => .int
  | 19 => .array .int
  | _ => .array .int
theorem n_M : ∀ a, a < 21 → ∀ b, b < 21 → a ≠ b → (F_M a).2.1 ≠ (F_M b).2.1 := by decide +kernel
theorem t_M_ok : ∀ k, k < 21 → parseFieldDescriptor (F_M k).2.2.1 = some (t_M k) := by decide +kernel
theorem i_M : ∀ w ∈ u_ws R_M F_M 21, w ∈ wtb := wtb_all _ [570, 572, 574, 576, 578, 580, 582, 584, 586, 588, 590, 592, 594, 596, 598, 600, 602, 604, 606, 608, 610] (by decide +kernel) (by decide +kernel)
theorem is_M : Cond.instantiable R_M 21 ∈ wtb := wtb_at 544 (by decide +kernel) rfl
def R_A : String := "java/util/Arrays"
def R_H : String := "java/lang/Math"
theorem ini_K : Cond.initialized R_K ∈ wtb := wtb_at 33 (by decide +kernel) rfl
theorem ini_P : Cond.initialized R_P ∈ wtb := wtb_at 35 (by decide +kernel) rfl
theorem ini_X : Cond.initialized R_X ∈ wtb := wtb_at 38 (by decide +kernel) rfl
theorem ini_R : Cond.initialized R_R ∈ wtb := wtb_at 36 (by decide +kernel) rfl
theorem ini_S : Cond.initialized R_S ∈ wtb := wtb_at 37 (by decide +kernel) rfl
theorem ini_B : Cond.initialized R_B ∈ wtb := wtb_at 39 (by decide +kernel) rfl
theorem ini_W : Cond.initialized R_W ∈ wtb := wtb_at 32 (by decide +kernel) rfl
theorem ini_C : Cond.initialized R_C ∈ wtb := wtb_at 31 (by decide +kernel) rfl
theorem ini_M : Cond.initialized R_M ∈ wtb := wtb_at 40 (by decide +kernel) rfl
theorem ini_A : Cond.initialized R_A ∈ wtb := wtb_at 34 (by decide +kernel) rfl
theorem ini_H : Cond.initialized R_H ∈ wtb := wtb_at 42 (by decide +kernel) rfl
abbrev cls : List vw_C := [(R_K, F_K, 7), (R_P, F_P, 1), (R_X, F_X, 2), (R_R, F_R, 3), (R_S, F_S, 11), (R_B, F_B, 3), (R_W, F_W, 5), (R_C, F_C, 7), (R_M, F_M, 21)]
theorem ar_I : Cond.arrayClass .int ∈ wtb := wtb_at 73 (by decide +kernel) rfl
theorem ar_Z : Cond.arrayClass .boolean ∈ wtb := wtb_at 105 (by decide +kernel) rfl
theorem oi_in : Cond.instanceMethod objectInit ∈ wtb := wtb_at 49 (by decide +kernel) rfl
theorem oi_co : Cond.code objectInit ⟨#[0xb1]⟩ 1 none ∈ wtb := wtb_at 50 (by decide +kernel) rfl
theorem ac_na : Cond.native arraycopyName ∈ wtb := wtb_at 267 (by decide +kernel) rfl
theorem ac_st : Cond.static arraycopyName ∈ wtb := wtb_at 266 (by decide +kernel) rfl
theorem ac_ini : Cond.initialized "java/lang/System" ∈ wtb := wtb_at 41 (by decide +kernel) rfl
def Mk (y : MethodName) (b : ByteArray) (mL : Nat) (ret : Option FieldType) (n : Nat) : Prop := Cond.code y b mL ret ∈ wtb ∧ Cond.initialized y.cls ∈ wtb ∧ y.cls ≠ "java/lang/invoke/MethodHandle" ∧ y.cls ≠ "java/lang/invoke/VarHandle" ∧ (parseMethodDescriptor y.desc).map (fun d => d.parameters.length) = some n ∧ plainFor y = true
abbrev b_C_init : ByteArray := prog_1_method_1_code
def y_C_init : MethodName := ⟨R_C, "<init>", "()V"⟩
abbrev w_C_init : List Cond := .code y_C_init b_C_init 1 none :: wtb
theorem mk_C_init : Mk y_C_init b_C_init 1 none 0 := ⟨wtb_at 47 (by decide +kernel) rfl, ini_C, by decide +kernel⟩
theorem in_C_init : Cond.instanceMethod y_C_init ∈ wtb := wtb_at 46 (by decide +kernel) rfl
abbrev b_C_unit : ByteArray := prog_1_method_2_code
def y_C_unit : MethodName := ⟨R_C, "unit", "(I)Z"⟩
abbrev w_C_unit : List Cond := .code y_C_unit b_C_unit 2 (some .boolean) :: wtb
theorem mk_C_unit : Mk y_C_unit b_C_unit 2 (some .boolean) 1 := ⟨wtb_at 226 (by decide +kernel) rfl, ini_C, by decide +kernel⟩
theorem in_C_unit : Cond.instanceMethod y_C_unit ∈ wtb := wtb_at 224 (by decide +kernel) rfl
theorem se_C_unit : Cond.selects R_C y_C_unit y_C_unit ∈ wtb := wtb_at 225 (by decide +kernel) rfl
abbrev b_C_word : ByteArray := prog_1_method_3_code
def y_C_word : MethodName := ⟨R_C, "word", "()I"⟩
abbrev w_C_word : List Cond := .code y_C_word b_C_word 1 (some .int) :: wtb
theorem mk_C_word : Mk y_C_word b_C_word 1 (some .int) 0 := ⟨wtb_at 240 (by decide +kernel) rfl, ini_C, by decide +kernel⟩
theorem in_C_word : Cond.instanceMethod y_C_word ∈ wtb := wtb_at 238 (by decide +kernel) rfl
theorem se_C_word : Cond.selects R_C y_C_word y_C_word ∈ wtb := wtb_at 239 (by decide +kernel) rfl
abbrev b_C_sign : ByteArray := prog_1_method_4_code
def y_C_sign : MethodName := ⟨R_C, "sign", "(I)Z"⟩
abbrev w_C_sign : List Cond := .code y_C_sign b_C_sign 2 (some .boolean) :: wtb
theorem mk_C_sign : Mk y_C_sign b_C_sign 2 (some .boolean) 1 := ⟨wtb_at 271 (by decide +kernel) rfl, ini_C, by decide +kernel⟩
theorem in_C_sign : Cond.instanceMethod y_C_sign ∈ wtb := wtb_at 269 (by decide +kernel) rfl
theorem se_C_sign : Cond.selects R_C y_C_sign y_C_sign ∈ wtb := wtb_at 270 (by decide +kernel) rfl
abbrev b_C_keep : ByteArray := prog_1_method_5_code
def y_C_keep : MethodName := ⟨R_C, "keep", "(II)Z"⟩
abbrev w_C_keep : List Cond := .code y_C_keep b_C_keep 4 (some .boolean) :: wtb
theorem mk_C_keep : Mk y_C_keep b_C_keep 4 (some .boolean) 2 := ⟨wtb_at 294 (by decide +kernel) rfl, ini_C, by decide +kernel⟩
theorem in_C_keep : Cond.instanceMethod y_C_keep ∈ wtb := wtb_at 292 (by decide +kernel) rfl
theorem se_C_keep : Cond.selects R_C y_C_keep y_C_keep ∈ wtb := wtb_at 293 (by decide +kernel) rfl
abbrev b_C_pair : ByteArray := prog_1_method_6_code
def y_C_pair : MethodName := ⟨R_C, "pair", "(III)Z"⟩
abbrev w_C_pair : List Cond := .code y_C_pair b_C_pair 4 (some .boolean) :: wtb
theorem mk_C_pair : Mk y_C_pair b_C_pair 4 (some .boolean) 3 := ⟨wtb_at 303 (by decide +kernel) rfl, ini_C, by decide +kernel⟩
theorem in_C_pair : Cond.instanceMethod y_C_pair ∈ wtb := wtb_at 301 (by decide +kernel) rfl
theorem se_C_pair : Cond.selects R_C y_C_pair y_C_pair ∈ wtb := wtb_at 302 (by decide +kernel) rfl
abbrev b_C_run : ByteArray := prog_1_method_7_code
def y_C_run : MethodName := ⟨R_C, "run", "(I)I"⟩
abbrev w_C_run : List Cond := .code y_C_run b_C_run 2 (some .int) :: wtb
theorem mk_C_run : Mk y_C_run b_C_run 2 (some .int) 1 := ⟨wtb_at 312 (by decide +kernel) rfl, ini_C, by decide +kernel⟩
theorem in_C_run : Cond.instanceMethod y_C_run ∈ wtb := wtb_at 310 (by decide +kernel) rfl
theorem se_C_run : Cond.selects R_C y_C_run y_C_run ∈ wtb := wtb_at 311 (by decide +kernel) rfl
abbrev b_C_steps : ByteArray := prog_1_method_8_code
def y_C_steps : MethodName := ⟨R_C, "steps", "()I"⟩
abbrev w_C_steps : List Cond := .code y_C_steps b_C_steps 1 (some .int) :: wtb
theorem mk_C_steps : Mk y_C_steps b_C_steps 1 (some .int) 0 := ⟨wtb_at 389 (by decide +kernel) rfl, ini_C, by decide +kernel⟩
theorem in_C_steps : Cond.instanceMethod y_C_steps ∈ wtb := wtb_at 387 (by decide +kernel) rfl
theorem se_C_steps : Cond.selects R_C y_C_steps y_C_steps ∈ wtb := wtb_at 388 (by decide +kernel) rfl
abbrev b_C_letter : ByteArray := prog_1_method_9_code
def y_C_letter : MethodName := ⟨R_C, "letter", "(II)I"⟩
abbrev w_C_letter : List Cond := .code y_C_letter b_C_letter 3 (some .int) :: wtb
theorem mk_C_letter : Mk y_C_letter b_C_letter 3 (some .int) 2 := ⟨wtb_at 397 (by decide +kernel) rfl, ini_C, by decide +kernel⟩
theorem in_C_letter : Cond.instanceMethod y_C_letter ∈ wtb := wtb_at 395 (by decide +kernel) rfl
theorem se_C_letter : Cond.selects R_C y_C_letter y_C_letter ∈ wtb := wtb_at 396 (by decide +kernel) rfl
abbrev b_C_rank : ByteArray := prog_1_method_10_code
def y_C_rank : MethodName := ⟨R_C, "rank", "(I)J"⟩
abbrev w_C_rank : List Cond := .code y_C_rank b_C_rank 2 (some .long) :: wtb
theorem mk_C_rank : Mk y_C_rank b_C_rank 2 (some .long) 1 := ⟨wtb_at 414 (by decide +kernel) rfl, ini_C, by decide +kernel⟩
theorem in_C_rank : Cond.instanceMethod y_C_rank ∈ wtb := wtb_at 412 (by decide +kernel) rfl
theorem se_C_rank : Cond.selects R_C y_C_rank y_C_rank ∈ wtb := wtb_at 413 (by decide +kernel) rfl
abbrev b_C_best : ByteArray := prog_1_method_11_code
def y_C_best : MethodName := ⟨R_C, "best", "()I"⟩
abbrev w_C_best : List Cond := .code y_C_best b_C_best 7 (some .int) :: wtb
theorem mk_C_best : Mk y_C_best b_C_best 7 (some .int) 0 := ⟨wtb_at 432 (by decide +kernel) rfl, ini_C, by decide +kernel⟩
theorem in_C_best : Cond.instanceMethod y_C_best ∈ wtb := wtb_at 430 (by decide +kernel) rfl
theorem se_C_best : Cond.selects R_C y_C_best y_C_best ∈ wtb := wtb_at 431 (by decide +kernel) rfl
abbrev b_C_hint : ByteArray := prog_1_method_12_code
def y_C_hint : MethodName := ⟨R_C, "hint", "()I"⟩
abbrev w_C_hint : List Cond := .code y_C_hint b_C_hint 3 (some .int) :: wtb
theorem mk_C_hint : Mk y_C_hint b_C_hint 3 (some .int) 0 := ⟨wtb_at 440 (by decide +kernel) rfl, ini_C, by decide +kernel⟩
theorem in_C_hint : Cond.instanceMethod y_C_hint ∈ wtb := wtb_at 438 (by decide +kernel) rfl
theorem se_C_hint : Cond.selects R_C y_C_hint y_C_hint ∈ wtb := wtb_at 439 (by decide +kernel) rfl
abbrev b_C_codewords : ByteArray := prog_1_method_13_code
def y_C_codewords : MethodName := ⟨R_C, "codewords", "()I"⟩
abbrev w_C_codewords : List Cond := .code y_C_codewords b_C_codewords 1 (some .int) :: wtb
theorem mk_C_codewords : Mk y_C_codewords b_C_codewords 1 (some .int) 0 := ⟨wtb_at 451 (by decide +kernel) rfl, ini_C, by decide +kernel⟩
theorem in_C_codewords : Cond.instanceMethod y_C_codewords ∈ wtb := wtb_at 449 (by decide +kernel) rfl
theorem se_C_codewords : Cond.selects R_C y_C_codewords y_C_codewords ∈ wtb := wtb_at 450 (by decide +kernel) rfl
abbrev b_C_plain : ByteArray := prog_1_method_14_code
def y_C_plain : MethodName := ⟨R_C, "plain", "(I)Z"⟩
abbrev w_C_plain : List Cond := .code y_C_plain b_C_plain 2 (some .boolean) :: wtb
theorem mk_C_plain : Mk y_C_plain b_C_plain 2 (some .boolean) 1 := ⟨wtb_at 456 (by decide +kernel) rfl, ini_C, by decide +kernel⟩
theorem in_C_plain : Cond.instanceMethod y_C_plain ∈ wtb := wtb_at 454 (by decide +kernel) rfl
theorem se_C_plain : Cond.selects R_C y_C_plain y_C_plain ∈ wtb := wtb_at 455 (by decide +kernel) rfl
abbrev b_C_shifted : ByteArray := prog_1_method_15_code
def y_C_shifted : MethodName := ⟨R_C, "shifted", "(II)I"⟩
abbrev w_C_shifted : List Cond := .code y_C_shifted b_C_shifted 3 (some .int) :: wtb
theorem mk_C_shifted : Mk y_C_shifted b_C_shifted 3 (some .int) 2 := ⟨wtb_at 465 (by decide +kernel) rfl, ini_C, by decide +kernel⟩
theorem in_C_shifted : Cond.instanceMethod y_C_shifted ∈ wtb := wtb_at 463 (by decide +kernel) rfl
theorem se_C_shifted : Cond.selects R_C y_C_shifted y_C_shifted ∈ wtb := wtb_at 464 (by decide +kernel) rfl
abbrev b_C_bestShift : ByteArray := prog_1_method_16_code
def y_C_bestShift : MethodName := ⟨R_C, "bestShift", "()I"⟩
abbrev w_C_bestShift : List Cond := .code y_C_bestShift b_C_bestShift 7 (some .int) :: wtb
theorem mk_C_bestShift : Mk y_C_bestShift b_C_bestShift 7 (some .int) 0 := ⟨wtb_at 482 (by decide +kernel) rfl, ini_C, by decide +kernel⟩
theorem in_C_bestShift : Cond.instanceMethod y_C_bestShift ∈ wtb := wtb_at 480 (by decide +kernel) rfl
theorem se_C_bestShift : Cond.selects R_C y_C_bestShift y_C_bestShift ∈ wtb := wtb_at 481 (by decide +kernel) rfl
abbrev b_C_keyed : ByteArray := prog_1_method_17_code
def y_C_keyed : MethodName := ⟨R_C, "keyed", "(II)I"⟩
abbrev w_C_keyed : List Cond := .code y_C_keyed b_C_keyed 4 (some .int) :: wtb
theorem mk_C_keyed : Mk y_C_keyed b_C_keyed 4 (some .int) 2 := ⟨wtb_at 494 (by decide +kernel) rfl, ini_C, by decide +kernel⟩
theorem in_C_keyed : Cond.instanceMethod y_C_keyed ∈ wtb := wtb_at 492 (by decide +kernel) rfl
theorem se_C_keyed : Cond.selects R_C y_C_keyed y_C_keyed ∈ wtb := wtb_at 493 (by decide +kernel) rfl
abbrev b_C_breaks : ByteArray := prog_1_method_18_code
def y_C_breaks : MethodName := ⟨R_C, "breaks", "()I"⟩
abbrev w_C_breaks : List Cond := .code y_C_breaks b_C_breaks 1 (some .int) :: wtb
theorem mk_C_breaks : Mk y_C_breaks b_C_breaks 1 (some .int) 0 := ⟨wtb_at 500 (by decide +kernel) rfl, ini_C, by decide +kernel⟩
theorem in_C_breaks : Cond.instanceMethod y_C_breaks ∈ wtb := wtb_at 498 (by decide +kernel) rfl
theorem se_C_breaks : Cond.selects R_C y_C_breaks y_C_breaks ∈ wtb := wtb_at 499 (by decide +kernel) rfl
abbrev b_C_breakAt : ByteArray := prog_1_method_19_code
def y_C_breakAt : MethodName := ⟨R_C, "breakAt", "(I)I"⟩
abbrev w_C_breakAt : List Cond := .code y_C_breakAt b_C_breakAt 2 (some .int) :: wtb
theorem mk_C_breakAt : Mk y_C_breakAt b_C_breakAt 2 (some .int) 1 := ⟨wtb_at 521 (by decide +kernel) rfl, ini_C, by decide +kernel⟩
theorem in_C_breakAt : Cond.instanceMethod y_C_breakAt ∈ wtb := wtb_at 519 (by decide +kernel) rfl
theorem se_C_breakAt : Cond.selects R_C y_C_breakAt y_C_breakAt ∈ wtb := wtb_at 520 (by decide +kernel) rfl
abbrev b_C_clear : ByteArray := prog_1_method_20_code
def y_C_clear : MethodName := ⟨R_C, "clear", "()V"⟩
abbrev w_C_clear : List Cond := .code y_C_clear b_C_clear 1 none :: wtb
theorem mk_C_clear : Mk y_C_clear b_C_clear 1 none 0 := ⟨wtb_at 534 (by decide +kernel) rfl, ini_C, by decide +kernel⟩
theorem in_C_clear : Cond.instanceMethod y_C_clear ∈ wtb := wtb_at 532 (by decide +kernel) rfl
theorem se_C_clear : Cond.selects R_C y_C_clear y_C_clear ∈ wtb := wtb_at 533 (by decide +kernel) rfl
abbrev b_C_rankOfKept : ByteArray := prog_1_method_21_code
def y_C_rankOfKept : MethodName := ⟨R_C, "rankOfKept", "(I)J"⟩
abbrev w_C_rankOfKept : List Cond := .code y_C_rankOfKept b_C_rankOfKept 7 (some .long) :: wtb
theorem mk_C_rankOfKept : Mk y_C_rankOfKept b_C_rankOfKept 7 (some .long) 1 := ⟨wtb_at 419 (by decide +kernel) rfl, ini_C, by decide +kernel⟩
theorem in_C_rankOfKept : Cond.instanceMethod y_C_rankOfKept ∈ wtb := wtb_at 418 (by decide +kernel) rfl
theorem se_C_rankOfKept : Cond.selects R_C y_C_rankOfKept y_C_rankOfKept ∈ wtb := wtb_at 12 (by decide +kernel) rfl
abbrev b_C_shiftedSum : ByteArray := prog_1_method_22_code
def y_C_shiftedSum : MethodName := ⟨R_C, "shiftedSum", "(I)J"⟩
abbrev w_C_shiftedSum : List Cond := .code y_C_shiftedSum b_C_shiftedSum 7 (some .long) :: wtb
theorem mk_C_shiftedSum : Mk y_C_shiftedSum b_C_shiftedSum 7 (some .long) 1 := ⟨wtb_at 486 (by decide +kernel) rfl, ini_C, by decide +kernel⟩
theorem in_C_shiftedSum : Cond.instanceMethod y_C_shiftedSum ∈ wtb := wtb_at 485 (by decide +kernel) rfl
theorem se_C_shiftedSum : Cond.selects R_C y_C_shiftedSum y_C_shiftedSum ∈ wtb := wtb_at 13 (by decide +kernel) rfl
abbrev b_C_shiftedPlace : ByteArray := prog_1_method_23_code
def y_C_shiftedPlace : MethodName := ⟨R_C, "shiftedPlace", "(II)I"⟩
abbrev w_C_shiftedPlace : List Cond := .code y_C_shiftedPlace b_C_shiftedPlace 2 (some .int) :: wtb
theorem mk_C_shiftedPlace : Mk y_C_shiftedPlace b_C_shiftedPlace 2 (some .int) 2 := ⟨wtb_at 478 (by decide +kernel) rfl, ini_C, by decide +kernel⟩
theorem st_C_shiftedPlace : Cond.static y_C_shiftedPlace ∈ wtb := wtb_at 477 (by decide +kernel) rfl
abbrev b_C_shiftedLetter : ByteArray := prog_1_method_24_code
def y_C_shiftedLetter : MethodName := ⟨R_C, "shiftedLetter", "(II)I"⟩
abbrev w_C_shiftedLetter : List Cond := .code y_C_shiftedLetter b_C_shiftedLetter 2 (some .int) :: wtb
theorem mk_C_shiftedLetter : Mk y_C_shiftedLetter b_C_shiftedLetter 2 (some .int) 2 := ⟨wtb_at 475 (by decide +kernel) rfl, ini_C, by decide +kernel⟩
theorem st_C_shiftedLetter : Cond.static y_C_shiftedLetter ∈ wtb := wtb_at 474 (by decide +kernel) rfl
abbrev b_C_placeOf : ByteArray := prog_1_method_25_code
def y_C_placeOf : MethodName := ⟨R_C, "placeOf", "(I)I"⟩
abbrev w_C_placeOf : List Cond := .code y_C_placeOf b_C_placeOf 2 (some .int) :: wtb
theorem mk_C_placeOf : Mk y_C_placeOf b_C_placeOf 2 (some .int) 1 := ⟨wtb_at 229 (by decide +kernel) rfl, ini_C, by decide +kernel⟩
theorem st_C_placeOf : Cond.static y_C_placeOf ∈ wtb := wtb_at 228 (by decide +kernel) rfl
abbrev b_C_letterOf : ByteArray := prog_1_method_26_code
def y_C_letterOf : MethodName := ⟨R_C, "letterOf", "(I)I"⟩
abbrev w_C_letterOf : List Cond := .code y_C_letterOf b_C_letterOf 1 (some .int) :: wtb
theorem mk_C_letterOf : Mk y_C_letterOf b_C_letterOf 1 (some .int) 1 := ⟨wtb_at 409 (by decide +kernel) rfl, ini_C, by decide +kernel⟩
theorem st_C_letterOf : Cond.static y_C_letterOf ∈ wtb := wtb_at 408 (by decide +kernel) rfl
abbrev b_C_isPlace : ByteArray := prog_1_method_27_code
def y_C_isPlace : MethodName := ⟨R_C, "isPlace", "(I)Z"⟩
abbrev w_C_isPlace : List Cond := .code y_C_isPlace b_C_isPlace 1 (some .boolean) :: wtb
theorem mk_C_isPlace : Mk y_C_isPlace b_C_isPlace 1 (some .boolean) 1 := ⟨wtb_at 236 (by decide +kernel) rfl, ini_C, by decide +kernel⟩
theorem st_C_isPlace : Cond.static y_C_isPlace ∈ wtb := wtb_at 235 (by decide +kernel) rfl
abbrev b_C_isNumber : ByteArray := prog_1_method_28_code
def y_C_isNumber : MethodName := ⟨R_C, "isNumber", "(I)Z"⟩
abbrev w_C_isNumber : List Cond := .code y_C_isNumber b_C_isNumber 1 (some .boolean) :: wtb
theorem mk_C_isNumber : Mk y_C_isNumber b_C_isNumber 1 (some .boolean) 1 := ⟨wtb_at 278 (by decide +kernel) rfl, ini_C, by decide +kernel⟩
theorem st_C_isNumber : Cond.static y_C_isNumber ∈ wtb := wtb_at 277 (by decide +kernel) rfl
abbrev b_M_init : ByteArray := prog_10_method_1_code
def y_M_init : MethodName := ⟨R_M, "<init>", "()V"⟩
abbrev w_M_init : List Cond := .code y_M_init b_M_init 1 none :: wtb
theorem mk_M_init : Mk y_M_init b_M_init 1 none 0 := ⟨wtb_at 547 (by decide +kernel) rfl, ini_M, by decide +kernel⟩
theorem in_M_init : Cond.instanceMethod y_M_init ∈ wtb := wtb_at 546 (by decide +kernel) rfl
abbrev b_M_isLetter : ByteArray := prog_10_method_3_code
def y_M_isLetter : MethodName := ⟨R_M, "isLetter", "(I)Z"⟩
abbrev w_M_isLetter : List Cond := .code y_M_isLetter b_M_isLetter 1 (some .boolean) :: wtb
theorem mk_M_isLetter : Mk y_M_isLetter b_M_isLetter 1 (some .boolean) 1 := ⟨wtb_at 619 (by decide +kernel) rfl, ini_M, by decide +kernel⟩
theorem st_M_isLetter : Cond.static y_M_isLetter ∈ wtb := wtb_at 618 (by decide +kernel) rfl
abbrev b_M_at : ByteArray := prog_10_method_4_code
def y_M_at : MethodName := ⟨R_M, "at", "(II)I"⟩
abbrev w_M_at : List Cond := .code y_M_at b_M_at 3 (some .int) :: wtb
theorem mk_M_at : Mk y_M_at b_M_at 3 (some .int) 2 := ⟨wtb_at 635 (by decide +kernel) rfl, ini_M, by decide +kernel⟩
theorem in_M_at : Cond.instanceMethod y_M_at ∈ wtb := wtb_at 634 (by decide +kernel) rfl
theorem se_M_at : Cond.selects R_M y_M_at y_M_at ∈ wtb := wtb_at 19 (by decide +kernel) rfl
abbrev b_M_unit : ByteArray := prog_10_method_5_code
def y_M_unit : MethodName := ⟨R_M, "unit", "(I)Z"⟩
abbrev w_M_unit : List Cond := .code y_M_unit b_M_unit 2 (some .boolean) :: wtb
theorem mk_M_unit : Mk y_M_unit b_M_unit 2 (some .boolean) 1 := ⟨wtb_at 616 (by decide +kernel) rfl, ini_M, by decide +kernel⟩
theorem in_M_unit : Cond.instanceMethod y_M_unit ∈ wtb := wtb_at 614 (by decide +kernel) rfl
theorem se_M_unit : Cond.selects R_M y_M_unit y_M_unit ∈ wtb := wtb_at 615 (by decide +kernel) rfl
abbrev b_M_isRow : ByteArray := prog_10_method_6_code
def y_M_isRow : MethodName := ⟨R_M, "isRow", "(I)Z"⟩
abbrev w_M_isRow : List Cond := .code y_M_isRow b_M_isRow 3 (some .boolean) :: wtb
theorem mk_M_isRow : Mk y_M_isRow b_M_isRow 3 (some .boolean) 1 := ⟨wtb_at 631 (by decide +kernel) rfl, ini_M, by decide +kernel⟩
theorem in_M_isRow : Cond.instanceMethod y_M_isRow ∈ wtb := wtb_at 630 (by decide +kernel) rfl
theorem se_M_isRow : Cond.selects R_M y_M_isRow y_M_isRow ∈ wtb := wtb_at 18 (by decide +kernel) rfl
abbrev b_M_enter : ByteArray := prog_10_method_7_code
def y_M_enter : MethodName := ⟨R_M, "enter", "()I"⟩
abbrev w_M_enter : List Cond := .code y_M_enter b_M_enter 2 (some .int) :: wtb
theorem mk_M_enter : Mk y_M_enter b_M_enter 2 (some .int) 0 := ⟨wtb_at 627 (by decide +kernel) rfl, ini_M, by decide +kernel⟩
theorem in_M_enter : Cond.instanceMethod y_M_enter ∈ wtb := wtb_at 626 (by decide +kernel) rfl
theorem se_M_enter : Cond.selects R_M y_M_enter y_M_enter ∈ wtb := wtb_at 17 (by decide +kernel) rfl
abbrev b_M_word : ByteArray := prog_10_method_8_code
def y_M_word : MethodName := ⟨R_M, "word", "()I"⟩
abbrev w_M_word : List Cond := .code y_M_word b_M_word 2 (some .int) :: wtb
theorem mk_M_word : Mk y_M_word b_M_word 2 (some .int) 0 := ⟨wtb_at 623 (by decide +kernel) rfl, ini_M, by decide +kernel⟩
theorem in_M_word : Cond.instanceMethod y_M_word ∈ wtb := wtb_at 621 (by decide +kernel) rfl
theorem se_M_word : Cond.selects R_M y_M_word y_M_word ∈ wtb := wtb_at 622 (by decide +kernel) rfl
abbrev b_M_sign : ByteArray := prog_10_method_9_code
def y_M_sign : MethodName := ⟨R_M, "sign", "(I)Z"⟩
abbrev w_M_sign : List Cond := .code y_M_sign b_M_sign 2 (some .boolean) :: wtb
theorem mk_M_sign : Mk y_M_sign b_M_sign 2 (some .boolean) 1 := ⟨wtb_at 639 (by decide +kernel) rfl, ini_M, by decide +kernel⟩
theorem in_M_sign : Cond.instanceMethod y_M_sign ∈ wtb := wtb_at 637 (by decide +kernel) rfl
theorem se_M_sign : Cond.selects R_M y_M_sign y_M_sign ∈ wtb := wtb_at 638 (by decide +kernel) rfl
abbrev b_M_keep : ByteArray := prog_10_method_10_code
def y_M_keep : MethodName := ⟨R_M, "keep", "(II)Z"⟩
abbrev w_M_keep : List Cond := .code y_M_keep b_M_keep 3 (some .boolean) :: wtb
theorem mk_M_keep : Mk y_M_keep b_M_keep 3 (some .boolean) 2 := ⟨wtb_at 643 (by decide +kernel) rfl, ini_M, by decide +kernel⟩
theorem in_M_keep : Cond.instanceMethod y_M_keep ∈ wtb := wtb_at 641 (by decide +kernel) rfl
theorem se_M_keep : Cond.selects R_M y_M_keep y_M_keep ∈ wtb := wtb_at 642 (by decide +kernel) rfl
abbrev b_M_pair : ByteArray := prog_10_method_11_code
def y_M_pair : MethodName := ⟨R_M, "pair", "(III)Z"⟩
abbrev w_M_pair : List Cond := .code y_M_pair b_M_pair 4 (some .boolean) :: wtb
theorem mk_M_pair : Mk y_M_pair b_M_pair 4 (some .boolean) 3 := ⟨wtb_at 647 (by decide +kernel) rfl, ini_M, by decide +kernel⟩
theorem in_M_pair : Cond.instanceMethod y_M_pair ∈ wtb := wtb_at 645 (by decide +kernel) rfl
theorem se_M_pair : Cond.selects R_M y_M_pair y_M_pair ∈ wtb := wtb_at 646 (by decide +kernel) rfl
abbrev b_M_weight : ByteArray := prog_10_method_12_code
def y_M_weight : MethodName := ⟨R_M, "weight", "(II)I"⟩
abbrev w_M_weight : List Cond := .code y_M_weight b_M_weight 3 (some .int) :: wtb
theorem mk_M_weight : Mk y_M_weight b_M_weight 3 (some .int) 2 := ⟨wtb_at 700 (by decide +kernel) rfl, ini_M, by decide +kernel⟩
theorem in_M_weight : Cond.instanceMethod y_M_weight ∈ wtb := wtb_at 699 (by decide +kernel) rfl
theorem se_M_weight : Cond.selects R_M y_M_weight y_M_weight ∈ wtb := wtb_at 27 (by decide +kernel) rfl
abbrev b_M_isIn : ByteArray := prog_10_method_13_code
def y_M_isIn : MethodName := ⟨R_M, "isIn", "(I)Z"⟩
abbrev w_M_isIn : List Cond := .code y_M_isIn b_M_isIn 3 (some .boolean) :: wtb
theorem mk_M_isIn : Mk y_M_isIn b_M_isIn 3 (some .boolean) 1 := ⟨wtb_at 668 (by decide +kernel) rfl, ini_M, by decide +kernel⟩
theorem in_M_isIn : Cond.instanceMethod y_M_isIn ∈ wtb := wtb_at 667 (by decide +kernel) rfl
theorem se_M_isIn : Cond.selects R_M y_M_isIn y_M_isIn ∈ wtb := wtb_at 22 (by decide +kernel) rfl
abbrev b_M_part : ByteArray := prog_10_method_14_code
def y_M_part : MethodName := ⟨R_M, "part", "()V"⟩
abbrev w_M_part : List Cond := .code y_M_part b_M_part 2 none :: wtb
theorem mk_M_part : Mk y_M_part b_M_part 2 none 0 := ⟨wtb_at 655 (by decide +kernel) rfl, ini_M, by decide +kernel⟩
theorem in_M_part : Cond.instanceMethod y_M_part ∈ wtb := wtb_at 654 (by decide +kernel) rfl
theorem se_M_part : Cond.selects R_M y_M_part y_M_part ∈ wtb := wtb_at 20 (by decide +kernel) rfl
abbrev b_M_codewords : ByteArray := prog_10_method_15_code
def y_M_codewords : MethodName := ⟨R_M, "codewords", "()I"⟩
abbrev w_M_codewords : List Cond := .code y_M_codewords b_M_codewords 1 (some .int) :: wtb
theorem mk_M_codewords : Mk y_M_codewords b_M_codewords 1 (some .int) 0 := ⟨wtb_at 651 (by decide +kernel) rfl, ini_M, by decide +kernel⟩
theorem in_M_codewords : Cond.instanceMethod y_M_codewords ∈ wtb := wtb_at 649 (by decide +kernel) rfl
theorem se_M_codewords : Cond.selects R_M y_M_codewords y_M_codewords ∈ wtb := wtb_at 650 (by decide +kernel) rfl
abbrev b_M_tell : ByteArray := prog_10_method_16_code
def y_M_tell : MethodName := ⟨R_M, "tell", "(II)Z"⟩
abbrev w_M_tell : List Cond := .code y_M_tell b_M_tell 4 (some .boolean) :: wtb
theorem mk_M_tell : Mk y_M_tell b_M_tell 4 (some .boolean) 2 := ⟨wtb_at 672 (by decide +kernel) rfl, ini_M, by decide +kernel⟩
theorem in_M_tell : Cond.instanceMethod y_M_tell ∈ wtb := wtb_at 671 (by decide +kernel) rfl
theorem se_M_tell : Cond.selects R_M y_M_tell y_M_tell ∈ wtb := wtb_at 23 (by decide +kernel) rfl
abbrev b_M_fits : ByteArray := prog_10_method_17_code
def y_M_fits : MethodName := ⟨R_M, "fits", "(I)Z"⟩
abbrev w_M_fits : List Cond := .code y_M_fits b_M_fits 4 (some .boolean) :: wtb
theorem mk_M_fits : Mk y_M_fits b_M_fits 4 (some .boolean) 1 := ⟨wtb_at 664 (by decide +kernel) rfl, ini_M, by decide +kernel⟩
theorem in_M_fits : Cond.instanceMethod y_M_fits ∈ wtb := wtb_at 663 (by decide +kernel) rfl
theorem se_M_fits : Cond.selects R_M y_M_fits y_M_fits ∈ wtb := wtb_at 21 (by decide +kernel) rfl
abbrev b_M_isAhead : ByteArray := prog_10_method_18_code
def y_M_isAhead : MethodName := ⟨R_M, "isAhead", "(I)Z"⟩
abbrev w_M_isAhead : List Cond := .code y_M_isAhead b_M_isAhead 3 (some .boolean) :: wtb
theorem mk_M_isAhead : Mk y_M_isAhead b_M_isAhead 3 (some .boolean) 1 := ⟨wtb_at 680 (by decide +kernel) rfl, ini_M, by decide +kernel⟩
theorem in_M_isAhead : Cond.instanceMethod y_M_isAhead ∈ wtb := wtb_at 679 (by decide +kernel) rfl
theorem se_M_isAhead : Cond.selects R_M y_M_isAhead y_M_isAhead ∈ wtb := wtb_at 25 (by decide +kernel) rfl
abbrev b_M_enterReading : ByteArray := prog_10_method_19_code
def y_M_enterReading : MethodName := ⟨R_M, "enterReading", "()V"⟩
abbrev w_M_enterReading : List Cond := .code y_M_enterReading b_M_enterReading 4 none :: wtb
theorem mk_M_enterReading : Mk y_M_enterReading b_M_enterReading 4 none 0 := ⟨wtb_at 676 (by decide +kernel) rfl, ini_M, by decide +kernel⟩
theorem in_M_enterReading : Cond.instanceMethod y_M_enterReading ∈ wtb := wtb_at 675 (by decide +kernel) rfl
theorem se_M_enterReading : Cond.selects R_M y_M_enterReading y_M_enterReading ∈ wtb := wtb_at 24 (by decide +kernel) rfl
abbrev b_M_run : ByteArray := prog_10_method_20_code
def y_M_run : MethodName := ⟨R_M, "run", "(I)I"⟩
abbrev w_M_run : List Cond := .code y_M_run b_M_run 4 (some .int) :: wtb
theorem mk_M_run : Mk y_M_run b_M_run 4 (some .int) 1 := ⟨wtb_at 659 (by decide +kernel) rfl, ini_M, by decide +kernel⟩
theorem in_M_run : Cond.instanceMethod y_M_run ∈ wtb := wtb_at 657 (by decide +kernel) rfl
theorem se_M_run : Cond.selects R_M y_M_run y_M_run ∈ wtb := wtb_at 658 (by decide +kernel) rfl
abbrev b_M_steps : ByteArray := prog_10_method_21_code
def y_M_steps : MethodName := ⟨R_M, "steps", "()I"⟩
abbrev w_M_steps : List Cond := .code y_M_steps b_M_steps 1 (some .int) :: wtb
theorem mk_M_steps : Mk y_M_steps b_M_steps 1 (some .int) 0 := ⟨wtb_at 684 (by decide +kernel) rfl, ini_M, by decide +kernel⟩
theorem in_M_steps : Cond.instanceMethod y_M_steps ∈ wtb := wtb_at 682 (by decide +kernel) rfl
theorem se_M_steps : Cond.selects R_M y_M_steps y_M_steps ∈ wtb := wtb_at 683 (by decide +kernel) rfl
abbrev b_M_letter : ByteArray := prog_10_method_22_code
def y_M_letter : MethodName := ⟨R_M, "letter", "(II)I"⟩
abbrev w_M_letter : List Cond := .code y_M_letter b_M_letter 3 (some .int) :: wtb
theorem mk_M_letter : Mk y_M_letter b_M_letter 3 (some .int) 2 := ⟨wtb_at 688 (by decide +kernel) rfl, ini_M, by decide +kernel⟩
theorem in_M_letter : Cond.instanceMethod y_M_letter ∈ wtb := wtb_at 686 (by decide +kernel) rfl
theorem se_M_letter : Cond.selects R_M y_M_letter y_M_letter ∈ wtb := wtb_at 687 (by decide +kernel) rfl
abbrev b_M_rankOf : ByteArray := prog_10_method_23_code
def y_M_rankOf : MethodName := ⟨R_M, "rankOf", "(I)J"⟩
abbrev w_M_rankOf : List Cond := .code y_M_rankOf b_M_rankOf 5 (some .long) :: wtb
theorem mk_M_rankOf : Mk y_M_rankOf b_M_rankOf 5 (some .long) 1 := ⟨wtb_at 696 (by decide +kernel) rfl, ini_M, by decide +kernel⟩
theorem in_M_rankOf : Cond.instanceMethod y_M_rankOf ∈ wtb := wtb_at 695 (by decide +kernel) rfl
theorem se_M_rankOf : Cond.selects R_M y_M_rankOf y_M_rankOf ∈ wtb := wtb_at 26 (by decide +kernel) rfl
abbrev b_M_rank : ByteArray := prog_10_method_24_code
def y_M_rank : MethodName := ⟨R_M, "rank", "(I)J"⟩
abbrev w_M_rank : List Cond := .code y_M_rank b_M_rank 2 (some .long) :: wtb
theorem mk_M_rank : Mk y_M_rank b_M_rank 2 (some .long) 1 := ⟨wtb_at 692 (by decide +kernel) rfl, ini_M, by decide +kernel⟩
theorem in_M_rank : Cond.instanceMethod y_M_rank ∈ wtb := wtb_at 690 (by decide +kernel) rfl
theorem se_M_rank : Cond.selects R_M y_M_rank y_M_rank ∈ wtb := wtb_at 691 (by decide +kernel) rfl
abbrev b_M_best : ByteArray := prog_10_method_25_code
def y_M_best : MethodName := ⟨R_M, "best", "()I"⟩
abbrev w_M_best : List Cond := .code y_M_best b_M_best 3 (some .int) :: wtb
theorem mk_M_best : Mk y_M_best b_M_best 3 (some .int) 0 := ⟨wtb_at 704 (by decide +kernel) rfl, ini_M, by decide +kernel⟩
theorem in_M_best : Cond.instanceMethod y_M_best ∈ wtb := wtb_at 702 (by decide +kernel) rfl
theorem se_M_best : Cond.selects R_M y_M_best y_M_best ∈ wtb := wtb_at 703 (by decide +kernel) rfl
abbrev b_M_hint : ByteArray := prog_10_method_26_code
def y_M_hint : MethodName := ⟨R_M, "hint", "()I"⟩
abbrev w_M_hint : List Cond := .code y_M_hint b_M_hint 4 (some .int) :: wtb
theorem mk_M_hint : Mk y_M_hint b_M_hint 4 (some .int) 0 := ⟨wtb_at 708 (by decide +kernel) rfl, ini_M, by decide +kernel⟩
theorem in_M_hint : Cond.instanceMethod y_M_hint ∈ wtb := wtb_at 706 (by decide +kernel) rfl
theorem se_M_hint : Cond.selects R_M y_M_hint y_M_hint ∈ wtb := wtb_at 707 (by decide +kernel) rfl
abbrev b_M_plain : ByteArray := prog_10_method_27_code
def y_M_plain : MethodName := ⟨R_M, "plain", "(I)Z"⟩
abbrev w_M_plain : List Cond := .code y_M_plain b_M_plain 2 (some .boolean) :: wtb
theorem mk_M_plain : Mk y_M_plain b_M_plain 2 (some .boolean) 1 := ⟨wtb_at 712 (by decide +kernel) rfl, ini_M, by decide +kernel⟩
theorem in_M_plain : Cond.instanceMethod y_M_plain ∈ wtb := wtb_at 710 (by decide +kernel) rfl
theorem se_M_plain : Cond.selects R_M y_M_plain y_M_plain ∈ wtb := wtb_at 711 (by decide +kernel) rfl
abbrev b_M_shift : ByteArray := prog_10_method_28_code
def y_M_shift : MethodName := ⟨R_M, "shift", "(II)I"⟩
abbrev w_M_shift : List Cond := .code y_M_shift b_M_shift 2 (some .int) :: wtb
theorem mk_M_shift : Mk y_M_shift b_M_shift 2 (some .int) 2 := ⟨wtb_at 719 (by decide +kernel) rfl, ini_M, by decide +kernel⟩
theorem st_M_shift : Cond.static y_M_shift ∈ wtb := wtb_at 718 (by decide +kernel) rfl
abbrev b_M_shifted : ByteArray := prog_10_method_29_code
def y_M_shifted : MethodName := ⟨R_M, "shifted", "(II)I"⟩
abbrev w_M_shifted : List Cond := .code y_M_shifted b_M_shifted 3 (some .int) :: wtb
theorem mk_M_shifted : Mk y_M_shifted b_M_shifted 3 (some .int) 2 := ⟨wtb_at 716 (by decide +kernel) rfl, ini_M, by decide +kernel⟩
theorem in_M_shifted : Cond.instanceMethod y_M_shifted ∈ wtb := wtb_at 714 (by decide +kernel) rfl
theorem se_M_shifted : Cond.selects R_M y_M_shifted y_M_shifted ∈ wtb := wtb_at 715 (by decide +kernel) rfl
abbrev b_M_bestShift : ByteArray := prog_10_method_30_code
def y_M_bestShift : MethodName := ⟨R_M, "bestShift", "()I"⟩
abbrev w_M_bestShift : List Cond := .code y_M_bestShift b_M_bestShift 8 (some .int) :: wtb
theorem mk_M_bestShift : Mk y_M_bestShift b_M_bestShift 8 (some .int) 0 := ⟨wtb_at 723 (by decide +kernel) rfl, ini_M, by decide +kernel⟩
theorem in_M_bestShift : Cond.instanceMethod y_M_bestShift ∈ wtb := wtb_at 721 (by decide +kernel) rfl
theorem se_M_bestShift : Cond.selects R_M y_M_bestShift y_M_bestShift ∈ wtb := wtb_at 722 (by decide +kernel) rfl
abbrev b_M_keyed : ByteArray := prog_10_method_31_code
def y_M_keyed : MethodName := ⟨R_M, "keyed", "(II)I"⟩
abbrev w_M_keyed : List Cond := .code y_M_keyed b_M_keyed 3 (some .int) :: wtb
theorem mk_M_keyed : Mk y_M_keyed b_M_keyed 3 (some .int) 2 := ⟨wtb_at 727 (by decide +kernel) rfl, ini_M, by decide +kernel⟩
theorem in_M_keyed : Cond.instanceMethod y_M_keyed ∈ wtb := wtb_at 725 (by decide +kernel) rfl
theorem se_M_keyed : Cond.selects R_M y_M_keyed y_M_keyed ∈ wtb := wtb_at 726 (by decide +kernel) rfl
abbrev b_M_stands : ByteArray := prog_10_method_32_code
def y_M_stands : MethodName := ⟨R_M, "stands", "(II)Z"⟩
abbrev w_M_stands : List Cond := .code y_M_stands b_M_stands 4 (some .boolean) :: wtb
theorem mk_M_stands : Mk y_M_stands b_M_stands 4 (some .boolean) 2 := ⟨wtb_at 739 (by decide +kernel) rfl, ini_M, by decide +kernel⟩
theorem in_M_stands : Cond.instanceMethod y_M_stands ∈ wtb := wtb_at 738 (by decide +kernel) rfl
theorem se_M_stands : Cond.selects R_M y_M_stands y_M_stands ∈ wtb := wtb_at 29 (by decide +kernel) rfl
abbrev b_M_reckon : ByteArray := prog_10_method_33_code
def y_M_reckon : MethodName := ⟨R_M, "reckon", "()V"⟩
abbrev w_M_reckon : List Cond := .code y_M_reckon b_M_reckon 4 none :: wtb
theorem mk_M_reckon : Mk y_M_reckon b_M_reckon 4 none 0 := ⟨wtb_at 735 (by decide +kernel) rfl, ini_M, by decide +kernel⟩
theorem in_M_reckon : Cond.instanceMethod y_M_reckon ∈ wtb := wtb_at 734 (by decide +kernel) rfl
theorem se_M_reckon : Cond.selects R_M y_M_reckon y_M_reckon ∈ wtb := wtb_at 28 (by decide +kernel) rfl
abbrev b_M_breaks : ByteArray := prog_10_method_34_code
def y_M_breaks : MethodName := ⟨R_M, "breaks", "()I"⟩
abbrev w_M_breaks : List Cond := .code y_M_breaks b_M_breaks 1 (some .int) :: wtb
theorem mk_M_breaks : Mk y_M_breaks b_M_breaks 1 (some .int) 0 := ⟨wtb_at 731 (by decide +kernel) rfl, ini_M, by decide +kernel⟩
theorem in_M_breaks : Cond.instanceMethod y_M_breaks ∈ wtb := wtb_at 729 (by decide +kernel) rfl
theorem se_M_breaks : Cond.selects R_M y_M_breaks y_M_breaks ∈ wtb := wtb_at 730 (by decide +kernel) rfl
abbrev b_M_breakAt : ByteArray := prog_10_method_35_code
def y_M_breakAt : MethodName := ⟨R_M, "breakAt", "(I)I"⟩
abbrev w_M_breakAt : List Cond := .code y_M_breakAt b_M_breakAt 5 (some .int) :: wtb
theorem mk_M_breakAt : Mk y_M_breakAt b_M_breakAt 5 (some .int) 1 := ⟨wtb_at 743 (by decide +kernel) rfl, ini_M, by decide +kernel⟩
theorem in_M_breakAt : Cond.instanceMethod y_M_breakAt ∈ wtb := wtb_at 741 (by decide +kernel) rfl
theorem se_M_breakAt : Cond.selects R_M y_M_breakAt y_M_breakAt ∈ wtb := wtb_at 742 (by decide +kernel) rfl
abbrev b_M_clear : ByteArray := prog_10_method_36_code
def y_M_clear : MethodName := ⟨R_M, "clear", "()V"⟩
abbrev w_M_clear : List Cond := .code y_M_clear b_M_clear 2 none :: wtb
theorem mk_M_clear : Mk y_M_clear b_M_clear 2 none 0 := ⟨wtb_at 747 (by decide +kernel) rfl, ini_M, by decide +kernel⟩
theorem in_M_clear : Cond.instanceMethod y_M_clear ∈ wtb := wtb_at 745 (by decide +kernel) rfl
theorem se_M_clear : Cond.selects R_M y_M_clear y_M_clear ∈ wtb := wtb_at 746 (by decide +kernel) rfl
abbrev b_K_init : ByteArray := prog_2_method_1_code
def y_K_init : MethodName := ⟨R_K, "<init>", "()V"⟩
abbrev w_K_init : List Cond := .code y_K_init b_K_init 1 none :: wtb
theorem mk_K_init : Mk y_K_init b_K_init 1 none 0 := ⟨wtb_at 78 (by decide +kernel) rfl, ini_K, by decide +kernel⟩
theorem in_K_init : Cond.instanceMethod y_K_init ∈ wtb := wtb_at 77 (by decide +kernel) rfl
abbrev b_K_append : ByteArray := prog_2_method_2_code
def y_K_append : MethodName := ⟨R_K, "append", "(I)Z"⟩
abbrev w_K_append : List Cond := .code y_K_append b_K_append 2 (some .boolean) :: wtb
theorem mk_K_append : Mk y_K_append b_K_append 2 (some .boolean) 1 := ⟨wtb_at 275 (by decide +kernel) rfl, ini_K, by decide +kernel⟩
theorem in_K_append : Cond.instanceMethod y_K_append ∈ wtb := wtb_at 273 (by decide +kernel) rfl
theorem se_K_append : Cond.selects R_K y_K_append y_K_append ∈ wtb := wtb_at 274 (by decide +kernel) rfl
abbrev b_K_empty : ByteArray := prog_2_method_3_code
def y_K_empty : MethodName := ⟨R_K, "empty", "()V"⟩
abbrev w_K_empty : List Cond := .code y_K_empty b_K_empty 2 none :: wtb
theorem mk_K_empty : Mk y_K_empty b_K_empty 2 none 0 := ⟨wtb_at 538 (by decide +kernel) rfl, ini_K, by decide +kernel⟩
theorem in_K_empty : Cond.instanceMethod y_K_empty ∈ wtb := wtb_at 536 (by decide +kernel) rfl
theorem se_K_empty : Cond.selects R_K y_K_empty y_K_empty ∈ wtb := wtb_at 537 (by decide +kernel) rfl
abbrev b_K_size : ByteArray := prog_2_method_4_code
def y_K_size : MethodName := ⟨R_K, "size", "()I"⟩
abbrev w_K_size : List Cond := .code y_K_size b_K_size 1 (some .int) :: wtb
theorem mk_K_size : Mk y_K_size b_K_size 1 (some .int) 0 := ⟨wtb_at 423 (by decide +kernel) rfl, ini_K, by decide +kernel⟩
theorem in_K_size : Cond.instanceMethod y_K_size ∈ wtb := wtb_at 421 (by decide +kernel) rfl
theorem se_K_size : Cond.selects R_K y_K_size y_K_size ∈ wtb := wtb_at 422 (by decide +kernel) rfl
abbrev b_K_signAt : ByteArray := prog_2_method_5_code
def y_K_signAt : MethodName := ⟨R_K, "signAt", "(I)I"⟩
abbrev w_K_signAt : List Cond := .code y_K_signAt b_K_signAt 2 (some .int) :: wtb
theorem mk_K_signAt : Mk y_K_signAt b_K_signAt 2 (some .int) 1 := ⟨wtb_at 286 (by decide +kernel) rfl, ini_K, by decide +kernel⟩
theorem in_K_signAt : Cond.instanceMethod y_K_signAt ∈ wtb := wtb_at 284 (by decide +kernel) rfl
theorem se_K_signAt : Cond.selects R_K y_K_signAt y_K_signAt ∈ wtb := wtb_at 285 (by decide +kernel) rfl
abbrev b_K_contains : ByteArray := prog_2_method_6_code
def y_K_contains : MethodName := ⟨R_K, "contains", "(I)Z"⟩
abbrev w_K_contains : List Cond := .code y_K_contains b_K_contains 2 (some .boolean) :: wtb
theorem mk_K_contains : Mk y_K_contains b_K_contains 2 (some .boolean) 1 := ⟨wtb_at 331 (by decide +kernel) rfl, ini_K, by decide +kernel⟩
theorem in_K_contains : Cond.instanceMethod y_K_contains ∈ wtb := wtb_at 329 (by decide +kernel) rfl
theorem se_K_contains : Cond.selects R_K y_K_contains y_K_contains ∈ wtb := wtb_at 330 (by decide +kernel) rfl
abbrev b_K_codewordCount : ByteArray := prog_2_method_7_code
def y_K_codewordCount : MethodName := ⟨R_K, "codewordCount", "()I"⟩
abbrev w_K_codewordCount : List Cond := .code y_K_codewordCount b_K_codewordCount 1 (some .int) :: wtb
theorem mk_K_codewordCount : Mk y_K_codewordCount b_K_codewordCount 1 (some .int) 0 := ⟨wtb_at 340 (by decide +kernel) rfl, ini_K, by decide +kernel⟩
theorem in_K_codewordCount : Cond.instanceMethod y_K_codewordCount ∈ wtb := wtb_at 338 (by decide +kernel) rfl
theorem se_K_codewordCount : Cond.selects R_K y_K_codewordCount y_K_codewordCount ∈ wtb := wtb_at 339 (by decide +kernel) rfl
abbrev b_K_codewordLength : ByteArray := prog_2_method_8_code
def y_K_codewordLength : MethodName := ⟨R_K, "codewordLength", "(I)I"⟩
abbrev w_K_codewordLength : List Cond := .code y_K_codewordLength b_K_codewordLength 2 (some .int) :: wtb
theorem mk_K_codewordLength : Mk y_K_codewordLength b_K_codewordLength 2 (some .int) 1 := ⟨wtb_at 357 (by decide +kernel) rfl, ini_K, by decide +kernel⟩
theorem in_K_codewordLength : Cond.instanceMethod y_K_codewordLength ∈ wtb := wtb_at 355 (by decide +kernel) rfl
theorem se_K_codewordLength : Cond.selects R_K y_K_codewordLength y_K_codewordLength ∈ wtb := wtb_at 356 (by decide +kernel) rfl
abbrev b_K_numberAt : ByteArray := prog_2_method_9_code
def y_K_numberAt : MethodName := ⟨R_K, "numberAt", "(II)I"⟩
abbrev w_K_numberAt : List Cond := .code y_K_numberAt b_K_numberAt 3 (some .int) :: wtb
theorem mk_K_numberAt : Mk y_K_numberAt b_K_numberAt 3 (some .int) 2 := ⟨wtb_at 374 (by decide +kernel) rfl, ini_K, by decide +kernel⟩
theorem in_K_numberAt : Cond.instanceMethod y_K_numberAt ∈ wtb := wtb_at 372 (by decide +kernel) rfl
theorem se_K_numberAt : Cond.selects R_K y_K_numberAt y_K_numberAt ∈ wtb := wtb_at 373 (by decide +kernel) rfl
abbrev b_K_keepPlace : ByteArray := prog_2_method_10_code
def y_K_keepPlace : MethodName := ⟨R_K, "keepPlace", "(II)V"⟩
abbrev w_K_keepPlace : List Cond := .code y_K_keepPlace b_K_keepPlace 3 none :: wtb
theorem mk_K_keepPlace : Mk y_K_keepPlace b_K_keepPlace 3 none 2 := ⟨wtb_at 299 (by decide +kernel) rfl, ini_K, by decide +kernel⟩
theorem in_K_keepPlace : Cond.instanceMethod y_K_keepPlace ∈ wtb := wtb_at 297 (by decide +kernel) rfl
theorem se_K_keepPlace : Cond.selects R_K y_K_keepPlace y_K_keepPlace ∈ wtb := wtb_at 298 (by decide +kernel) rfl
abbrev b_K_keptPlace : ByteArray := prog_2_method_11_code
def y_K_keptPlace : MethodName := ⟨R_K, "keptPlace", "(I)I"⟩
abbrev w_K_keptPlace : List Cond := .code y_K_keptPlace b_K_keptPlace 2 (some .int) :: wtb
theorem mk_K_keptPlace : Mk y_K_keptPlace b_K_keptPlace 2 (some .int) 1 := ⟨wtb_at 327 (by decide +kernel) rfl, ini_K, by decide +kernel⟩
theorem in_K_keptPlace : Cond.instanceMethod y_K_keptPlace ∈ wtb := wtb_at 325 (by decide +kernel) rfl
theorem se_K_keptPlace : Cond.selects R_K y_K_keptPlace y_K_keptPlace ∈ wtb := wtb_at 326 (by decide +kernel) rfl
abbrev b_K_growCodeword : ByteArray := prog_2_method_12_code
def y_K_growCodeword : MethodName := ⟨R_K, "growCodeword", "()V"⟩
abbrev w_K_growCodeword : List Cond := .code y_K_growCodeword b_K_growCodeword 2 none :: wtb
theorem mk_K_growCodeword : Mk y_K_growCodeword b_K_growCodeword 2 none 0 := ⟨wtb_at 282 (by decide +kernel) rfl, ini_K, by decide +kernel⟩
theorem in_K_growCodeword : Cond.instanceMethod y_K_growCodeword ∈ wtb := wtb_at 281 (by decide +kernel) rfl
theorem se_K_growCodeword : Cond.selects R_K y_K_growCodeword y_K_growCodeword ∈ wtb := wtb_at 3 (by decide +kernel) rfl
abbrev b_P_init : ByteArray := prog_3_method_1_code
def y_P_init : MethodName := ⟨R_P, "<init>", "()V"⟩
abbrev w_P_init : List Cond := .code y_P_init b_P_init 1 none :: wtb
theorem mk_P_init : Mk y_P_init b_P_init 1 none 0 := ⟨wtb_at 110 (by decide +kernel) rfl, ini_P, by decide +kernel⟩
theorem in_P_init : Cond.instanceMethod y_P_init ∈ wtb := wtb_at 109 (by decide +kernel) rfl
abbrev b_P_weigh : ByteArray := prog_3_method_2_code
def y_P_weigh : MethodName := ⟨R_P, "weigh", "(III)Z"⟩
abbrev w_P_weigh : List Cond := .code y_P_weigh b_P_weigh 4 (some .boolean) :: wtb
theorem mk_P_weigh : Mk y_P_weigh b_P_weigh 4 (some .boolean) 3 := ⟨wtb_at 307 (by decide +kernel) rfl, ini_P, by decide +kernel⟩
theorem in_P_weigh : Cond.instanceMethod y_P_weigh ∈ wtb := wtb_at 305 (by decide +kernel) rfl
theorem se_P_weigh : Cond.selects R_P y_P_weigh y_P_weigh ∈ wtb := wtb_at 306 (by decide +kernel) rfl
abbrev b_P_weightOf : ByteArray := prog_3_method_3_code
def y_P_weightOf : MethodName := ⟨R_P, "weightOf", "(II)I"⟩
abbrev w_P_weightOf : List Cond := .code y_P_weightOf b_P_weightOf 3 (some .int) :: wtb
theorem mk_P_weightOf : Mk y_P_weightOf b_P_weightOf 3 (some .int) 2 := ⟨wtb_at 428 (by decide +kernel) rfl, ini_P, by decide +kernel⟩
theorem in_P_weightOf : Cond.instanceMethod y_P_weightOf ∈ wtb := wtb_at 426 (by decide +kernel) rfl
theorem se_P_weightOf : Cond.selects R_P y_P_weightOf y_P_weightOf ∈ wtb := wtb_at 427 (by decide +kernel) rfl
abbrev b_X_init : ByteArray := prog_4_method_1_code
def y_X_init : MethodName := ⟨R_X, "<init>", "()V"⟩
abbrev w_X_init : List Cond := .code y_X_init b_X_init 1 none :: wtb
theorem mk_X_init : Mk y_X_init b_X_init 1 none 0 := ⟨wtb_at 176 (by decide +kernel) rfl, ini_X, by decide +kernel⟩
theorem in_X_init : Cond.instanceMethod y_X_init ∈ wtb := wtb_at 175 (by decide +kernel) rfl
abbrev b_X_append : ByteArray := prog_4_method_2_code
def y_X_append : MethodName := ⟨R_X, "append", "(I)Z"⟩
abbrev w_X_append : List Cond := .code y_X_append b_X_append 2 (some .boolean) :: wtb
theorem mk_X_append : Mk y_X_append b_X_append 2 (some .boolean) 1 := ⟨wtb_at 460 (by decide +kernel) rfl, ini_X, by decide +kernel⟩
theorem in_X_append : Cond.instanceMethod y_X_append ∈ wtb := wtb_at 458 (by decide +kernel) rfl
theorem se_X_append : Cond.selects R_X y_X_append y_X_append ∈ wtb := wtb_at 459 (by decide +kernel) rfl
abbrev b_X_empty : ByteArray := prog_4_method_3_code
def y_X_empty : MethodName := ⟨R_X, "empty", "()V"⟩
abbrev w_X_empty : List Cond := .code y_X_empty b_X_empty 1 none :: wtb
theorem mk_X_empty : Mk y_X_empty b_X_empty 1 none 0 := ⟨wtb_at 542 (by decide +kernel) rfl, ini_X, by decide +kernel⟩
theorem in_X_empty : Cond.instanceMethod y_X_empty ∈ wtb := wtb_at 540 (by decide +kernel) rfl
theorem se_X_empty : Cond.selects R_X y_X_empty y_X_empty ∈ wtb := wtb_at 541 (by decide +kernel) rfl
abbrev b_X_size : ByteArray := prog_4_method_4_code
def y_X_size : MethodName := ⟨R_X, "size", "()I"⟩
abbrev w_X_size : List Cond := .code y_X_size b_X_size 1 (some .int) :: wtb
theorem mk_X_size : Mk y_X_size b_X_size 1 (some .int) 0 := ⟨wtb_at 490 (by decide +kernel) rfl, ini_X, by decide +kernel⟩
theorem in_X_size : Cond.instanceMethod y_X_size ∈ wtb := wtb_at 488 (by decide +kernel) rfl
theorem se_X_size : Cond.selects R_X y_X_size y_X_size ∈ wtb := wtb_at 489 (by decide +kernel) rfl
abbrev b_X_placeAt : ByteArray := prog_4_method_5_code
def y_X_placeAt : MethodName := ⟨R_X, "placeAt", "(I)I"⟩
abbrev w_X_placeAt : List Cond := .code y_X_placeAt b_X_placeAt 2 (some .int) :: wtb
theorem mk_X_placeAt : Mk y_X_placeAt b_X_placeAt 2 (some .int) 1 := ⟨wtb_at 469 (by decide +kernel) rfl, ini_X, by decide +kernel⟩
theorem in_X_placeAt : Cond.instanceMethod y_X_placeAt ∈ wtb := wtb_at 467 (by decide +kernel) rfl
theorem se_X_placeAt : Cond.selects R_X y_X_placeAt y_X_placeAt ∈ wtb := wtb_at 468 (by decide +kernel) rfl
abbrev b_R_init : ByteArray := prog_5_method_1_code
def y_R_init : MethodName := ⟨R_R, "<init>", "()V"⟩
abbrev w_R_init : List Cond := .code y_R_init b_R_init 1 none :: wtb
theorem mk_R_init : Mk y_R_init b_R_init 1 none 0 := ⟨wtb_at 120 (by decide +kernel) rfl, ini_R, by decide +kernel⟩
theorem in_R_init : Cond.instanceMethod y_R_init ∈ wtb := wtb_at 119 (by decide +kernel) rfl
abbrev b_R_forget : ByteArray := prog_5_method_2_code
def y_R_forget : MethodName := ⟨R_R, "forget", "()V"⟩
abbrev w_R_forget : List Cond := .code y_R_forget b_R_forget 1 none :: wtb
theorem mk_R_forget : Mk y_R_forget b_R_forget 1 none 0 := ⟨wtb_at 290 (by decide +kernel) rfl, ini_R, by decide +kernel⟩
theorem in_R_forget : Cond.instanceMethod y_R_forget ∈ wtb := wtb_at 288 (by decide +kernel) rfl
theorem se_R_forget : Cond.selects R_R y_R_forget y_R_forget ∈ wtb := wtb_at 289 (by decide +kernel) rfl
abbrev b_R_size : ByteArray := prog_5_method_3_code
def y_R_size : MethodName := ⟨R_R, "size", "()I"⟩
abbrev w_R_size : List Cond := .code y_R_size b_R_size 1 (some .int) :: wtb
theorem mk_R_size : Mk y_R_size b_R_size 1 (some .int) 0 := ⟨wtb_at 436 (by decide +kernel) rfl, ini_R, by decide +kernel⟩
theorem in_R_size : Cond.instanceMethod y_R_size ∈ wtb := wtb_at 434 (by decide +kernel) rfl
theorem se_R_size : Cond.selects R_R y_R_size y_R_size ∈ wtb := wtb_at 435 (by decide +kernel) rfl
abbrev b_R_has : ByteArray := prog_5_method_4_code
def y_R_has : MethodName := ⟨R_R, "has", "(I)Z"⟩
abbrev w_R_has : List Cond := .code y_R_has b_R_has 2 (some .boolean) :: wtb
theorem mk_R_has : Mk y_R_has b_R_has 2 (some .boolean) 1 := ⟨wtb_at 405 (by decide +kernel) rfl, ini_R, by decide +kernel⟩
theorem in_R_has : Cond.instanceMethod y_R_has ∈ wtb := wtb_at 403 (by decide +kernel) rfl
theorem se_R_has : Cond.selects R_R y_R_has y_R_has ∈ wtb := wtb_at 404 (by decide +kernel) rfl
abbrev b_R_placeIn : ByteArray := prog_5_method_5_code
def y_R_placeIn : MethodName := ⟨R_R, "placeIn", "(II)I"⟩
abbrev w_R_placeIn : List Cond := .code y_R_placeIn b_R_placeIn 3 (some .int) :: wtb
theorem mk_R_placeIn : Mk y_R_placeIn b_R_placeIn 3 (some .int) 2 := ⟨wtb_at 401 (by decide +kernel) rfl, ini_R, by decide +kernel⟩
theorem in_R_placeIn : Cond.instanceMethod y_R_placeIn ∈ wtb := wtb_at 399 (by decide +kernel) rfl
theorem se_R_placeIn : Cond.selects R_R y_R_placeIn y_R_placeIn ∈ wtb := wtb_at 400 (by decide +kernel) rfl
abbrev b_R_commonPlace : ByteArray := prog_5_method_6_code
def y_R_commonPlace : MethodName := ⟨R_R, "commonPlace", "(I)I"⟩
abbrev w_R_commonPlace : List Cond := .code y_R_commonPlace b_R_commonPlace 4 (some .int) :: wtb
theorem mk_R_commonPlace : Mk y_R_commonPlace b_R_commonPlace 4 (some .int) 1 := ⟨wtb_at 446 (by decide +kernel) rfl, ini_R, by decide +kernel⟩
theorem in_R_commonPlace : Cond.instanceMethod y_R_commonPlace ∈ wtb := wtb_at 444 (by decide +kernel) rfl
theorem se_R_commonPlace : Cond.selects R_R y_R_commonPlace y_R_commonPlace ∈ wtb := wtb_at 445 (by decide +kernel) rfl
abbrev b_R_offer : ByteArray := prog_5_method_7_code
def y_R_offer : MethodName := ⟨R_R, "offer", "([I)V"⟩
abbrev w_R_offer : List Cond := .code y_R_offer b_R_offer 6 none :: wtb
theorem mk_R_offer : Mk y_R_offer b_R_offer 6 none 1 := ⟨wtb_at 344 (by decide +kernel) rfl, ini_R, by decide +kernel⟩
theorem in_R_offer : Cond.instanceMethod y_R_offer ∈ wtb := wtb_at 342 (by decide +kernel) rfl
theorem se_R_offer : Cond.selects R_R y_R_offer y_R_offer ∈ wtb := wtb_at 343 (by decide +kernel) rfl
abbrev b_R_positionOf : ByteArray := prog_5_method_8_code
def y_R_positionOf : MethodName := ⟨R_R, "positionOf", "([I)I"⟩
abbrev w_R_positionOf : List Cond := .code y_R_positionOf b_R_positionOf 5 (some .int) :: wtb
theorem mk_R_positionOf : Mk y_R_positionOf b_R_positionOf 5 (some .int) 1 := ⟨wtb_at 348 (by decide +kernel) rfl, ini_R, by decide +kernel⟩
theorem in_R_positionOf : Cond.instanceMethod y_R_positionOf ∈ wtb := wtb_at 347 (by decide +kernel) rfl
theorem se_R_positionOf : Cond.selects R_R y_R_positionOf y_R_positionOf ∈ wtb := wtb_at 6 (by decide +kernel) rfl
abbrev b_R_isAhead : ByteArray := prog_5_method_9_code
def y_R_isAhead : MethodName := ⟨R_R, "isAhead", "(I[I)Z"⟩
abbrev w_R_isAhead : List Cond := .code y_R_isAhead b_R_isAhead 6 (some .boolean) :: wtb
theorem mk_R_isAhead : Mk y_R_isAhead b_R_isAhead 6 (some .boolean) 2 := ⟨wtb_at 352 (by decide +kernel) rfl, ini_R, by decide +kernel⟩
theorem in_R_isAhead : Cond.instanceMethod y_R_isAhead ∈ wtb := wtb_at 351 (by decide +kernel) rfl
theorem se_R_isAhead : Cond.selects R_R y_R_isAhead y_R_isAhead ∈ wtb := wtb_at 7 (by decide +kernel) rfl
abbrev b_S_init : ByteArray := prog_6_method_1_code
def y_S_init : MethodName := ⟨R_S, "<init>", "(LCodedLetters$WordList;LCodedLetters$Code;LCodedLetters$Readings;)V"⟩
abbrev w_S_init : List Cond := .code y_S_init b_S_init 4 none :: wtb
theorem mk_S_init : Mk y_S_init b_S_init 4 none 3 := ⟨wtb_at 136 (by decide +kernel) rfl, ini_S, by decide +kernel⟩
theorem in_S_init : Cond.instanceMethod y_S_init ∈ wtb := wtb_at 135 (by decide +kernel) rfl
abbrev b_S_stepsMade : ByteArray := prog_6_method_2_code
def y_S_stepsMade : MethodName := ⟨R_S, "stepsMade", "()I"⟩
abbrev w_S_stepsMade : List Cond := .code y_S_stepsMade b_S_stepsMade 1 (some .int) :: wtb
theorem mk_S_stepsMade : Mk y_S_stepsMade b_S_stepsMade 1 (some .int) 0 := ⟨wtb_at 393 (by decide +kernel) rfl, ini_S, by decide +kernel⟩
theorem in_S_stepsMade : Cond.instanceMethod y_S_stepsMade ∈ wtb := wtb_at 391 (by decide +kernel) rfl
theorem se_S_stepsMade : Cond.selects R_S y_S_stepsMade y_S_stepsMade ∈ wtb := wtb_at 392 (by decide +kernel) rfl
abbrev b_S_seekAll : ByteArray := prog_6_method_3_code
def y_S_seekAll : MethodName := ⟨R_S, "seekAll", "(I)I"⟩
abbrev w_S_seekAll : List Cond := .code y_S_seekAll b_S_seekAll 2 (some .int) :: wtb
theorem mk_S_seekAll : Mk y_S_seekAll b_S_seekAll 2 (some .int) 1 := ⟨wtb_at 317 (by decide +kernel) rfl, ini_S, by decide +kernel⟩
theorem in_S_seekAll : Cond.instanceMethod y_S_seekAll ∈ wtb := wtb_at 315 (by decide +kernel) rfl
theorem se_S_seekAll : Cond.selects R_S y_S_seekAll y_S_seekAll ∈ wtb := wtb_at 316 (by decide +kernel) rfl
abbrev b_S_beginWithKept : ByteArray := prog_6_method_4_code
def y_S_beginWithKept : MethodName := ⟨R_S, "beginWithKept", "()Z"⟩
abbrev w_S_beginWithKept : List Cond := .code y_S_beginWithKept b_S_beginWithKept 3 (some .boolean) :: wtb
theorem mk_S_beginWithKept : Mk y_S_beginWithKept b_S_beginWithKept 3 (some .boolean) 0 := ⟨wtb_at 322 (by decide +kernel) rfl, ini_S, by decide +kernel⟩
theorem in_S_beginWithKept : Cond.instanceMethod y_S_beginWithKept ∈ wtb := wtb_at 321 (by decide +kernel) rfl
theorem se_S_beginWithKept : Cond.selects R_S y_S_beginWithKept y_S_beginWithKept ∈ wtb := wtb_at 4 (by decide +kernel) rfl
abbrev b_S_seekFrom : ByteArray := prog_6_method_5_code
def y_S_seekFrom : MethodName := ⟨R_S, "seekFrom", "(I)V"⟩
abbrev w_S_seekFrom : List Cond := .code y_S_seekFrom b_S_seekFrom 4 none :: wtb
theorem mk_S_seekFrom : Mk y_S_seekFrom b_S_seekFrom 4 none 1 := ⟨wtb_at 336 (by decide +kernel) rfl, ini_S, by decide +kernel⟩
theorem in_S_seekFrom : Cond.instanceMethod y_S_seekFrom ∈ wtb := wtb_at 335 (by decide +kernel) rfl
theorem se_S_seekFrom : Cond.selects R_S y_S_seekFrom y_S_seekFrom ∈ wtb := wtb_at 5 (by decide +kernel) rfl
abbrev b_S_tryWord : ByteArray := prog_6_method_6_code
def y_S_tryWord : MethodName := ⟨R_S, "tryWord", "(II)V"⟩
abbrev w_S_tryWord : List Cond := .code y_S_tryWord b_S_tryWord 4 none :: wtb
theorem mk_S_tryWord : Mk y_S_tryWord b_S_tryWord 4 none 2 := ⟨wtb_at 366 (by decide +kernel) rfl, ini_S, by decide +kernel⟩
theorem in_S_tryWord : Cond.instanceMethod y_S_tryWord ∈ wtb := wtb_at 365 (by decide +kernel) rfl
theorem se_S_tryWord : Cond.selects R_S y_S_tryWord y_S_tryWord ∈ wtb := wtb_at 8 (by decide +kernel) rfl
abbrev b_S_agrees : ByteArray := prog_6_method_7_code
def y_S_agrees : MethodName := ⟨R_S, "agrees", "(II)Z"⟩
abbrev w_S_agrees : List Cond := .code y_S_agrees b_S_agrees 5 (some .boolean) :: wtb
theorem mk_S_agrees : Mk y_S_agrees b_S_agrees 5 (some .boolean) 2 := ⟨wtb_at 370 (by decide +kernel) rfl, ini_S, by decide +kernel⟩
theorem in_S_agrees : Cond.instanceMethod y_S_agrees ∈ wtb := wtb_at 369 (by decide +kernel) rfl
theorem se_S_agrees : Cond.selects R_S y_S_agrees y_S_agrees ∈ wtb := wtb_at 9 (by decide +kernel) rfl
abbrev b_S_give : ByteArray := prog_6_method_8_code
def y_S_give : MethodName := ⟨R_S, "give", "(II)Z"⟩
abbrev w_S_give : List Cond := .code y_S_give b_S_give 3 (some .boolean) :: wtb
theorem mk_S_give : Mk y_S_give b_S_give 3 (some .boolean) 2 := ⟨wtb_at 380 (by decide +kernel) rfl, ini_S, by decide +kernel⟩
theorem in_S_give : Cond.instanceMethod y_S_give ∈ wtb := wtb_at 379 (by decide +kernel) rfl
theorem se_S_give : Cond.selects R_S y_S_give y_S_give ∈ wtb := wtb_at 10 (by decide +kernel) rfl
abbrev b_S_takeBack : ByteArray := prog_6_method_9_code
def y_S_takeBack : MethodName := ⟨R_S, "takeBack", "(I)V"⟩
abbrev w_S_takeBack : List Cond := .code y_S_takeBack b_S_takeBack 5 none :: wtb
theorem mk_S_takeBack : Mk y_S_takeBack b_S_takeBack 5 none 1 := ⟨wtb_at 385 (by decide +kernel) rfl, ini_S, by decide +kernel⟩
theorem in_S_takeBack : Cond.instanceMethod y_S_takeBack ∈ wtb := wtb_at 384 (by decide +kernel) rfl
theorem se_S_takeBack : Cond.selects R_S y_S_takeBack y_S_takeBack ∈ wtb := wtb_at 11 (by decide +kernel) rfl
abbrev b_B_init : ByteArray := prog_7_method_1_code
def y_B_init : MethodName := ⟨R_B, "<init>", "(LCodedLetters$WordList;LCodedLetters$PlainText;)V"⟩
abbrev w_B_init : List Cond := .code y_B_init b_B_init 3 none :: wtb
theorem mk_B_init : Mk y_B_init b_B_init 3 none 2 := ⟨wtb_at 189 (by decide +kernel) rfl, ini_B, by decide +kernel⟩
theorem in_B_init : Cond.instanceMethod y_B_init ∈ wtb := wtb_at 188 (by decide +kernel) rfl
abbrev b_B_fewestWords : ByteArray := prog_7_method_2_code
def y_B_fewestWords : MethodName := ⟨R_B, "fewestWords", "()I"⟩
abbrev w_B_fewestWords : List Cond := .code y_B_fewestWords b_B_fewestWords 3 (some .int) :: wtb
theorem mk_B_fewestWords : Mk y_B_fewestWords b_B_fewestWords 3 (some .int) 0 := ⟨wtb_at 504 (by decide +kernel) rfl, ini_B, by decide +kernel⟩
theorem in_B_fewestWords : Cond.instanceMethod y_B_fewestWords ∈ wtb := wtb_at 502 (by decide +kernel) rfl
theorem se_B_fewestWords : Cond.selects R_B y_B_fewestWords y_B_fewestWords ∈ wtb := wtb_at 503 (by decide +kernel) rfl
abbrev b_B_wordOf : ByteArray := prog_7_method_3_code
def y_B_wordOf : MethodName := ⟨R_B, "wordOf", "(I)I"⟩
abbrev w_B_wordOf : List Cond := .code y_B_wordOf b_B_wordOf 4 (some .int) :: wtb
theorem mk_B_wordOf : Mk y_B_wordOf b_B_wordOf 4 (some .int) 1 := ⟨wtb_at 525 (by decide +kernel) rfl, ini_B, by decide +kernel⟩
theorem in_B_wordOf : Cond.instanceMethod y_B_wordOf ∈ wtb := wtb_at 523 (by decide +kernel) rfl
theorem se_B_wordOf : Cond.selects R_B y_B_wordOf y_B_wordOf ∈ wtb := wtb_at 524 (by decide +kernel) rfl
abbrev b_B_fewestAt : ByteArray := prog_7_method_4_code
def y_B_fewestAt : MethodName := ⟨R_B, "fewestAt", "(I)I"⟩
abbrev w_B_fewestAt : List Cond := .code y_B_fewestAt b_B_fewestAt 5 (some .int) :: wtb
theorem mk_B_fewestAt : Mk y_B_fewestAt b_B_fewestAt 5 (some .int) 1 := ⟨wtb_at 509 (by decide +kernel) rfl, ini_B, by decide +kernel⟩
theorem in_B_fewestAt : Cond.instanceMethod y_B_fewestAt ∈ wtb := wtb_at 508 (by decide +kernel) rfl
theorem se_B_fewestAt : Cond.selects R_B y_B_fewestAt y_B_fewestAt ∈ wtb := wtb_at 14 (by decide +kernel) rfl
abbrev b_B_leastWordAt : ByteArray := prog_7_method_5_code
def y_B_leastWordAt : MethodName := ⟨R_B, "leastWordAt", "(I)I"⟩
abbrev w_B_leastWordAt : List Cond := .code y_B_leastWordAt b_B_leastWordAt 4 (some .int) :: wtb
theorem mk_B_leastWordAt : Mk y_B_leastWordAt b_B_leastWordAt 4 (some .int) 1 := ⟨wtb_at 530 (by decide +kernel) rfl, ini_B, by decide +kernel⟩
theorem in_B_leastWordAt : Cond.instanceMethod y_B_leastWordAt ∈ wtb := wtb_at 529 (by decide +kernel) rfl
theorem se_B_leastWordAt : Cond.selects R_B y_B_leastWordAt y_B_leastWordAt ∈ wtb := wtb_at 16 (by decide +kernel) rfl
abbrev b_B_fewestBehind : ByteArray := prog_7_method_6_code
def y_B_fewestBehind : MethodName := ⟨R_B, "fewestBehind", "(II)I"⟩
abbrev w_B_fewestBehind : List Cond := .code y_B_fewestBehind b_B_fewestBehind 5 (some .int) :: wtb
theorem mk_B_fewestBehind : Mk y_B_fewestBehind b_B_fewestBehind 5 (some .int) 2 := ⟨wtb_at 514 (by decide +kernel) rfl, ini_B, by decide +kernel⟩
theorem in_B_fewestBehind : Cond.instanceMethod y_B_fewestBehind ∈ wtb := wtb_at 513 (by decide +kernel) rfl
theorem se_B_fewestBehind : Cond.selects R_B y_B_fewestBehind y_B_fewestBehind ∈ wtb := wtb_at 15 (by decide +kernel) rfl
abbrev b_W_init : ByteArray := prog_8_method_1_code
def y_W_init : MethodName := ⟨R_W, "<init>", "()V"⟩
abbrev w_W_init : List Cond := .code y_W_init b_W_init 1 none :: wtb
theorem mk_W_init : Mk y_W_init b_W_init 1 none 0 := ⟨wtb_at 55 (by decide +kernel) rfl, ini_W, by decide +kernel⟩
theorem in_W_init : Cond.instanceMethod y_W_init ∈ wtb := wtb_at 54 (by decide +kernel) rfl
abbrev b_W_collect : ByteArray := prog_8_method_2_code
def y_W_collect : MethodName := ⟨R_W, "collect", "(I)Z"⟩
abbrev w_W_collect : List Cond := .code y_W_collect b_W_collect 2 (some .boolean) :: wtb
theorem mk_W_collect : Mk y_W_collect b_W_collect 2 (some .boolean) 1 := ⟨wtb_at 233 (by decide +kernel) rfl, ini_W, by decide +kernel⟩
theorem in_W_collect : Cond.instanceMethod y_W_collect ∈ wtb := wtb_at 231 (by decide +kernel) rfl
theorem se_W_collect : Cond.selects R_W y_W_collect y_W_collect ∈ wtb := wtb_at 232 (by decide +kernel) rfl
abbrev b_W_takeCollected : ByteArray := prog_8_method_3_code
def y_W_takeCollected : MethodName := ⟨R_W, "takeCollected", "()I"⟩
abbrev w_W_takeCollected : List Cond := .code y_W_takeCollected b_W_takeCollected 2 (some .int) :: wtb
theorem mk_W_takeCollected : Mk y_W_takeCollected b_W_takeCollected 2 (some .int) 0 := ⟨wtb_at 244 (by decide +kernel) rfl, ini_W, by decide +kernel⟩
theorem in_W_takeCollected : Cond.instanceMethod y_W_takeCollected ∈ wtb := wtb_at 242 (by decide +kernel) rfl
theorem se_W_takeCollected : Cond.selects R_W y_W_takeCollected y_W_takeCollected ∈ wtb := wtb_at 243 (by decide +kernel) rfl
abbrev b_W_size : ByteArray := prog_8_method_4_code
def y_W_size : MethodName := ⟨R_W, "size", "()I"⟩
abbrev w_W_size : List Cond := .code y_W_size b_W_size 1 (some .int) :: wtb
theorem mk_W_size : Mk y_W_size b_W_size 1 (some .int) 0 := ⟨wtb_at 361 (by decide +kernel) rfl, ini_W, by decide +kernel⟩
theorem in_W_size : Cond.instanceMethod y_W_size ∈ wtb := wtb_at 359 (by decide +kernel) rfl
theorem se_W_size : Cond.selects R_W y_W_size y_W_size ∈ wtb := wtb_at 360 (by decide +kernel) rfl
abbrev b_W_lengthOf : ByteArray := prog_8_method_5_code
def y_W_lengthOf : MethodName := ⟨R_W, "lengthOf", "(I)I"⟩
abbrev w_W_lengthOf : List Cond := .code y_W_lengthOf b_W_lengthOf 2 (some .int) :: wtb
theorem mk_W_lengthOf : Mk y_W_lengthOf b_W_lengthOf 2 (some .int) 1 := ⟨wtb_at 256 (by decide +kernel) rfl, ini_W, by decide +kernel⟩
theorem in_W_lengthOf : Cond.instanceMethod y_W_lengthOf ∈ wtb := wtb_at 254 (by decide +kernel) rfl
theorem se_W_lengthOf : Cond.selects R_W y_W_lengthOf y_W_lengthOf ∈ wtb := wtb_at 255 (by decide +kernel) rfl
abbrev b_W_placeAt : ByteArray := prog_8_method_6_code
def y_W_placeAt : MethodName := ⟨R_W, "placeAt", "(II)I"⟩
abbrev w_W_placeAt : List Cond := .code y_W_placeAt b_W_placeAt 3 (some .int) :: wtb
theorem mk_W_placeAt : Mk y_W_placeAt b_W_placeAt 3 (some .int) 2 := ⟨wtb_at 260 (by decide +kernel) rfl, ini_W, by decide +kernel⟩
theorem in_W_placeAt : Cond.instanceMethod y_W_placeAt ∈ wtb := wtb_at 258 (by decide +kernel) rfl
theorem se_W_placeAt : Cond.selects R_W y_W_placeAt y_W_placeAt ∈ wtb := wtb_at 259 (by decide +kernel) rfl
abbrev b_W_numberOfCollected : ByteArray := prog_8_method_7_code
def y_W_numberOfCollected : MethodName := ⟨R_W, "numberOfCollected", "()I"⟩
abbrev w_W_numberOfCollected : List Cond := .code y_W_numberOfCollected b_W_numberOfCollected 2 (some .int) :: wtb
theorem mk_W_numberOfCollected : Mk y_W_numberOfCollected b_W_numberOfCollected 2 (some .int) 0 := ⟨wtb_at 248 (by decide +kernel) rfl, ini_W, by decide +kernel⟩
theorem in_W_numberOfCollected : Cond.instanceMethod y_W_numberOfCollected ∈ wtb := wtb_at 247 (by decide +kernel) rfl
theorem se_W_numberOfCollected : Cond.selects R_W y_W_numberOfCollected y_W_numberOfCollected ∈ wtb := wtb_at 0 (by decide +kernel) rfl
abbrev b_W_isCollected : ByteArray := prog_8_method_8_code
def y_W_isCollected : MethodName := ⟨R_W, "isCollected", "(I)Z"⟩
abbrev w_W_isCollected : List Cond := .code y_W_isCollected b_W_isCollected 3 (some .boolean) :: wtb
theorem mk_W_isCollected : Mk y_W_isCollected b_W_isCollected 3 (some .boolean) 1 := ⟨wtb_at 252 (by decide +kernel) rfl, ini_W, by decide +kernel⟩
theorem in_W_isCollected : Cond.instanceMethod y_W_isCollected ∈ wtb := wtb_at 251 (by decide +kernel) rfl
theorem se_W_isCollected : Cond.selects R_W y_W_isCollected y_W_isCollected ∈ wtb := wtb_at 1 (by decide +kernel) rfl
abbrev b_W_addCollected : ByteArray := prog_8_method_9_code
def y_W_addCollected : MethodName := ⟨R_W, "addCollected", "()I"⟩
abbrev w_W_addCollected : List Cond := .code y_W_addCollected b_W_addCollected 2 (some .int) :: wtb
theorem mk_W_addCollected : Mk y_W_addCollected b_W_addCollected 2 (some .int) 0 := ⟨wtb_at 264 (by decide +kernel) rfl, ini_W, by decide +kernel⟩
theorem in_W_addCollected : Cond.instanceMethod y_W_addCollected ∈ wtb := wtb_at 263 (by decide +kernel) rfl
theorem se_W_addCollected : Cond.selects R_W y_W_addCollected y_W_addCollected ∈ wtb := wtb_at 2 (by decide +kernel) rfl
abbrev b_H_floorMod : ByteArray := prog_11_method_50_code
def y_H_floorMod : MethodName := ⟨R_H, "floorMod", "(II)I"⟩
abbrev w_H_floorMod : List Cond := .code y_H_floorMod b_H_floorMod 3 (some .int) :: wtb
theorem mk_H_floorMod : Mk y_H_floorMod b_H_floorMod 3 (some .int) 2 := ⟨wtb_at 472 (by decide +kernel) rfl, ini_H, by decide +kernel⟩
theorem st_H_floorMod : Cond.static y_H_floorMod ∈ wtb := wtb_at 471 (by decide +kernel) rfl
abbrev b_A_fill : ByteArray := prog_13_method_103_code
def y_A_fill : MethodName := ⟨R_A, "fill", "([II)V"⟩
abbrev w_A_fill : List Cond := .code y_A_fill b_A_fill 4 none :: wtb
theorem mk_A_fill : Mk y_A_fill b_A_fill 4 none 2 := ⟨wtb_at 82 (by decide +kernel) rfl, ini_A, by decide +kernel⟩
theorem st_A_fill : Cond.static y_A_fill ∈ wtb := wtb_at 81 (by decide +kernel) rfl
theorem cl_L_7 : Cond.classLink R_law 7 R_C ∈ wtb := wtb_at 43 (by decide +kernel) rfl
theorem ml_L_9 : Cond.methodLink R_law 9 y_C_init ∈ wtb := wtb_at 45 (by decide +kernel) rfl
theorem ml_C_3 : Cond.methodLink R_C 3 objectInit ∈ wtb := wtb_at 48 (by decide +kernel) rfl
theorem cl_C_9 : Cond.classLink R_C 9 R_W ∈ wtb := wtb_at 51 (by decide +kernel) rfl
theorem ml_W_3 : Cond.methodLink R_W 3 objectInit ∈ wtb := wtb_at 56 (by decide +kernel) rfl
theorem fl_W_9 : Cond.fieldLink R_W 9 R_W "places" "[I" ∈ wtb := wtb_at 57 (by decide +kernel) rfl
theorem fl_W_15 : Cond.fieldLink R_W 15 R_W "lengths" "[I" ∈ wtb := wtb_at 58 (by decide +kernel) rfl
theorem fl_W_18 : Cond.fieldLink R_W 18 R_W "collected" "[I" ∈ wtb := wtb_at 59 (by decide +kernel) rfl
theorem fl_W_21 : Cond.fieldLink R_W 21 R_W "count" "I" ∈ wtb := wtb_at 60 (by decide +kernel) rfl
theorem fl_W_25 : Cond.fieldLink R_W 25 R_W "collectedCount" "I" ∈ wtb := wtb_at 61 (by decide +kernel) rfl
theorem cl_C_16 : Cond.classLink R_C 16 R_K ∈ wtb := wtb_at 74 (by decide +kernel) rfl
theorem ml_C_18 : Cond.methodLink R_C 18 y_K_init ∈ wtb := wtb_at 76 (by decide +kernel) rfl
theorem ml_K_3 : Cond.methodLink R_K 3 objectInit ∈ wtb := wtb_at 79 (by decide +kernel) rfl
theorem ml_K_35 : Cond.methodLink R_K 35 y_A_fill ∈ wtb := wtb_at 80 (by decide +kernel) rfl
theorem fl_K_9 : Cond.fieldLink R_K 9 R_K "signs" "[I" ∈ wtb := wtb_at 83 (by decide +kernel) rfl
theorem fl_K_15 : Cond.fieldLink R_K 15 R_K "starts" "[I" ∈ wtb := wtb_at 84 (by decide +kernel) rfl
theorem fl_K_18 : Cond.fieldLink R_K 18 R_K "lengths" "[I" ∈ wtb := wtb_at 85 (by decide +kernel) rfl
theorem fl_K_21 : Cond.fieldLink R_K 21 R_K "present" "[Z" ∈ wtb := wtb_at 86 (by decide +kernel) rfl
theorem fl_K_25 : Cond.fieldLink R_K 25 R_K "kept" "[I" ∈ wtb := wtb_at 87 (by decide +kernel) rfl
theorem fl_K_28 : Cond.fieldLink R_K 28 R_K "count" "I" ∈ wtb := wtb_at 88 (by decide +kernel) rfl
theorem fl_K_32 : Cond.fieldLink R_K 32 R_K "codewordCount" "I" ∈ wtb := wtb_at 89 (by decide +kernel) rfl
theorem cl_C_23 : Cond.classLink R_C 23 R_P ∈ wtb := wtb_at 106 (by decide +kernel) rfl
theorem ml_P_3 : Cond.methodLink R_P 3 objectInit ∈ wtb := wtb_at 111 (by decide +kernel) rfl
theorem fl_P_9 : Cond.fieldLink R_P 9 R_P "weights" "[I" ∈ wtb := wtb_at 112 (by decide +kernel) rfl
theorem cl_C_30 : Cond.classLink R_C 30 R_R ∈ wtb := wtb_at 116 (by decide +kernel) rfl
theorem ml_R_3 : Cond.methodLink R_R 3 objectInit ∈ wtb := wtb_at 121 (by decide +kernel) rfl
theorem fl_R_9 : Cond.fieldLink R_R 9 R_R "places" "[I" ∈ wtb := wtb_at 122 (by decide +kernel) rfl
theorem fl_R_15 : Cond.fieldLink R_R 15 R_R "slots" "[I" ∈ wtb := wtb_at 123 (by decide +kernel) rfl
theorem fl_R_18 : Cond.fieldLink R_R 18 R_R "count" "I" ∈ wtb := wtb_at 124 (by decide +kernel) rfl
theorem cl_C_37 : Cond.classLink R_C 37 R_S ∈ wtb := wtb_at 132 (by decide +kernel) rfl
theorem ml_C_39 : Cond.methodLink R_C 39 y_S_init ∈ wtb := wtb_at 134 (by decide +kernel) rfl
theorem ml_S_3 : Cond.methodLink R_S 3 objectInit ∈ wtb := wtb_at 137 (by decide +kernel) rfl
theorem fl_S_39 : Cond.fieldLink R_S 39 R_S "words" "LCodedLetters$WordList;" ∈ wtb := wtb_at 138 (by decide +kernel) rfl
theorem fl_S_43 : Cond.fieldLink R_S 43 R_S "code" "LCodedLetters$Code;" ∈ wtb := wtb_at 139 (by decide +kernel) rfl
theorem fl_S_47 : Cond.fieldLink R_S 47 R_S "readings" "LCodedLetters$Readings;" ∈ wtb := wtb_at 140 (by decide +kernel) rfl
theorem fl_S_9 : Cond.fieldLink R_S 9 R_S "places" "[I" ∈ wtb := wtb_at 141 (by decide +kernel) rfl
theorem fl_S_15 : Cond.fieldLink R_S 15 R_S "taken" "[Z" ∈ wtb := wtb_at 142 (by decide +kernel) rfl
theorem fl_S_19 : Cond.fieldLink R_S 19 R_S "given" "[I" ∈ wtb := wtb_at 143 (by decide +kernel) rfl
theorem fl_S_22 : Cond.fieldLink R_S 22 R_S "givenCount" "I" ∈ wtb := wtb_at 144 (by decide +kernel) rfl
theorem fl_S_26 : Cond.fieldLink R_S 26 R_S "allowed" "I" ∈ wtb := wtb_at 145 (by decide +kernel) rfl
theorem fl_S_29 : Cond.fieldLink R_S 29 R_S "made" "I" ∈ wtb := wtb_at 146 (by decide +kernel) rfl
theorem fl_S_32 : Cond.fieldLink R_S 32 R_S "found" "I" ∈ wtb := wtb_at 147 (by decide +kernel) rfl
theorem fl_S_35 : Cond.fieldLink R_S 35 R_S "stopped" "Z" ∈ wtb := wtb_at 148 (by decide +kernel) rfl
theorem cl_C_46 : Cond.classLink R_C 46 R_X ∈ wtb := wtb_at 172 (by decide +kernel) rfl
theorem ml_X_3 : Cond.methodLink R_X 3 objectInit ∈ wtb := wtb_at 177 (by decide +kernel) rfl
theorem fl_X_9 : Cond.fieldLink R_X 9 R_X "places" "[I" ∈ wtb := wtb_at 178 (by decide +kernel) rfl
theorem fl_X_15 : Cond.fieldLink R_X 15 R_X "count" "I" ∈ wtb := wtb_at 179 (by decide +kernel) rfl
theorem cl_C_53 : Cond.classLink R_C 53 R_B ∈ wtb := wtb_at 185 (by decide +kernel) rfl
theorem ml_C_55 : Cond.methodLink R_C 55 y_B_init ∈ wtb := wtb_at 187 (by decide +kernel) rfl
theorem ml_B_3 : Cond.methodLink R_B 3 objectInit ∈ wtb := wtb_at 190 (by decide +kernel) rfl
theorem fl_B_15 : Cond.fieldLink R_B 15 R_B "words" "LCodedLetters$WordList;" ∈ wtb := wtb_at 191 (by decide +kernel) rfl
theorem fl_B_19 : Cond.fieldLink R_B 19 R_B "text" "LCodedLetters$PlainText;" ∈ wtb := wtb_at 192 (by decide +kernel) rfl
theorem fl_B_9 : Cond.fieldLink R_B 9 R_B "fewest" "[I" ∈ wtb := wtb_at 193 (by decide +kernel) rfl
theorem fl_C_12 : Cond.fieldLink R_C 12 R_C "words" "LCodedLetters$WordList;" ∈ wtb := wtb_at 201 (by decide +kernel) rfl
theorem fl_C_19 : Cond.fieldLink R_C 19 R_C "code" "LCodedLetters$Code;" ∈ wtb := wtb_at 202 (by decide +kernel) rfl
theorem fl_C_26 : Cond.fieldLink R_C 26 R_C "pairs" "LCodedLetters$Pairs;" ∈ wtb := wtb_at 203 (by decide +kernel) rfl
theorem fl_C_33 : Cond.fieldLink R_C 33 R_C "readings" "LCodedLetters$Readings;" ∈ wtb := wtb_at 204 (by decide +kernel) rfl
theorem fl_C_42 : Cond.fieldLink R_C 42 R_C "search" "LCodedLetters$Search;" ∈ wtb := wtb_at 205 (by decide +kernel) rfl
theorem fl_C_49 : Cond.fieldLink R_C 49 R_C "plainText" "LCodedLetters$PlainText;" ∈ wtb := wtb_at 206 (by decide +kernel) rfl
theorem fl_C_58 : Cond.fieldLink R_C 58 R_C "wordBreaks" "LCodedLetters$WordBreaks;" ∈ wtb := wtb_at 207 (by decide +kernel) rfl
theorem ml_L_13 : Cond.methodLink R_law 13 y_C_unit ∈ wtb := wtb_at 223 (by decide +kernel) rfl
theorem ml_C_62 : Cond.methodLink R_C 62 y_C_placeOf ∈ wtb := wtb_at 227 (by decide +kernel) rfl
theorem ml_C_66 : Cond.methodLink R_C 66 y_W_collect ∈ wtb := wtb_at 230 (by decide +kernel) rfl
theorem ml_L_18 : Cond.methodLink R_law 18 y_C_word ∈ wtb := wtb_at 237 (by decide +kernel) rfl
theorem ml_C_70 : Cond.methodLink R_C 70 y_W_takeCollected ∈ wtb := wtb_at 241 (by decide +kernel) rfl
theorem ml_W_32 : Cond.methodLink R_W 32 y_W_numberOfCollected ∈ wtb := wtb_at 245 (by decide +kernel) rfl
theorem ml_W_40 : Cond.methodLink R_W 40 y_W_isCollected ∈ wtb := wtb_at 249 (by decide +kernel) rfl
theorem ml_W_36 : Cond.methodLink R_W 36 y_W_lengthOf ∈ wtb := wtb_at 253 (by decide +kernel) rfl
theorem ml_W_46 : Cond.methodLink R_W 46 y_W_placeAt ∈ wtb := wtb_at 257 (by decide +kernel) rfl
theorem ml_W_43 : Cond.methodLink R_W 43 y_W_addCollected ∈ wtb := wtb_at 261 (by decide +kernel) rfl
theorem ml_W_50 : Cond.methodLink R_W 50 arraycopyName ∈ wtb := wtb_at 265 (by decide +kernel) rfl
theorem ml_L_23 : Cond.methodLink R_law 23 y_C_sign ∈ wtb := wtb_at 268 (by decide +kernel) rfl
theorem ml_C_74 : Cond.methodLink R_C 74 y_K_append ∈ wtb := wtb_at 272 (by decide +kernel) rfl
theorem ml_K_45 : Cond.methodLink R_K 45 y_K_growCodeword ∈ wtb := wtb_at 279 (by decide +kernel) rfl
theorem ml_K_52 : Cond.methodLink R_K 52 y_K_signAt ∈ wtb := wtb_at 283 (by decide +kernel) rfl
theorem ml_C_77 : Cond.methodLink R_C 77 y_R_forget ∈ wtb := wtb_at 287 (by decide +kernel) rfl
theorem ml_L_27 : Cond.methodLink R_law 27 y_C_keep ∈ wtb := wtb_at 291 (by decide +kernel) rfl
theorem ml_C_80 : Cond.methodLink R_C 80 y_C_isNumber ∈ wtb := wtb_at 295 (by decide +kernel) rfl
theorem ml_C_83 : Cond.methodLink R_C 83 y_K_keepPlace ∈ wtb := wtb_at 296 (by decide +kernel) rfl
theorem ml_L_32 : Cond.methodLink R_law 32 y_C_pair ∈ wtb := wtb_at 300 (by decide +kernel) rfl
theorem ml_C_87 : Cond.methodLink R_C 87 y_P_weigh ∈ wtb := wtb_at 304 (by decide +kernel) rfl
theorem ml_L_37 : Cond.methodLink R_law 37 y_C_run ∈ wtb := wtb_at 309 (by decide +kernel) rfl
theorem co_C_91 : Jvm.Cond.constant R_C 91 (iI (100000)) ∈ wtb := wtb_at 313 (by decide +kernel) rfl
theorem ml_C_92 : Cond.methodLink R_C 92 y_S_seekAll ∈ wtb := wtb_at 314 (by decide +kernel) rfl
theorem ml_S_51 : Cond.methodLink R_S 51 y_R_forget ∈ wtb := wtb_at 318 (by decide +kernel) rfl
theorem ml_S_56 : Cond.methodLink R_S 56 y_S_beginWithKept ∈ wtb := wtb_at 319 (by decide +kernel) rfl
theorem ml_S_64 : Cond.methodLink R_S 64 y_A_fill ∈ wtb := wtb_at 323 (by decide +kernel) rfl
theorem ml_S_70 : Cond.methodLink R_S 70 y_K_keptPlace ∈ wtb := wtb_at 324 (by decide +kernel) rfl
theorem ml_S_76 : Cond.methodLink R_S 76 y_K_contains ∈ wtb := wtb_at 328 (by decide +kernel) rfl
theorem ml_S_60 : Cond.methodLink R_S 60 y_S_seekFrom ∈ wtb := wtb_at 333 (by decide +kernel) rfl
theorem ml_S_83 : Cond.methodLink R_S 83 y_K_codewordCount ∈ wtb := wtb_at 337 (by decide +kernel) rfl
theorem ml_S_87 : Cond.methodLink R_S 87 y_R_offer ∈ wtb := wtb_at 341 (by decide +kernel) rfl
theorem ml_R_33 : Cond.methodLink R_R 33 y_R_positionOf ∈ wtb := wtb_at 345 (by decide +kernel) rfl
theorem ml_R_43 : Cond.methodLink R_R 43 y_R_isAhead ∈ wtb := wtb_at 349 (by decide +kernel) rfl
theorem ml_R_37 : Cond.methodLink R_R 37 arraycopyName ∈ wtb := wtb_at 353 (by decide +kernel) rfl
theorem ml_S_91 : Cond.methodLink R_S 91 y_K_codewordLength ∈ wtb := wtb_at 354 (by decide +kernel) rfl
theorem ml_S_94 : Cond.methodLink R_S 94 y_W_size ∈ wtb := wtb_at 358 (by decide +kernel) rfl
theorem ml_S_99 : Cond.methodLink R_S 99 y_W_lengthOf ∈ wtb := wtb_at 362 (by decide +kernel) rfl
theorem ml_S_102 : Cond.methodLink R_S 102 y_S_tryWord ∈ wtb := wtb_at 363 (by decide +kernel) rfl
theorem ml_S_106 : Cond.methodLink R_S 106 y_S_agrees ∈ wtb := wtb_at 367 (by decide +kernel) rfl
theorem ml_S_113 : Cond.methodLink R_S 113 y_K_numberAt ∈ wtb := wtb_at 371 (by decide +kernel) rfl
theorem ml_K_48 : Cond.methodLink R_K 48 y_K_codewordLength ∈ wtb := wtb_at 375 (by decide +kernel) rfl
theorem ml_S_117 : Cond.methodLink R_S 117 y_W_placeAt ∈ wtb := wtb_at 376 (by decide +kernel) rfl
theorem ml_S_120 : Cond.methodLink R_S 120 y_S_give ∈ wtb := wtb_at 377 (by decide +kernel) rfl
theorem ml_S_110 : Cond.methodLink R_S 110 y_S_takeBack ∈ wtb := wtb_at 382 (by decide +kernel) rfl
theorem ml_L_42 : Cond.methodLink R_law 42 y_C_steps ∈ wtb := wtb_at 386 (by decide +kernel) rfl
theorem ml_C_95 : Cond.methodLink R_C 95 y_S_stepsMade ∈ wtb := wtb_at 390 (by decide +kernel) rfl
theorem ml_L_46 : Cond.methodLink R_law 46 y_C_letter ∈ wtb := wtb_at 394 (by decide +kernel) rfl
theorem ml_C_98 : Cond.methodLink R_C 98 y_R_placeIn ∈ wtb := wtb_at 398 (by decide +kernel) rfl
theorem ml_R_22 : Cond.methodLink R_R 22 y_R_has ∈ wtb := wtb_at 402 (by decide +kernel) rfl
theorem ml_C_102 : Cond.methodLink R_C 102 y_C_letterOf ∈ wtb := wtb_at 407 (by decide +kernel) rfl
theorem ml_C_168 : Cond.methodLink R_C 168 y_C_isPlace ∈ wtb := wtb_at 410 (by decide +kernel) rfl
theorem ml_L_51 : Cond.methodLink R_law 51 y_C_rank ∈ wtb := wtb_at 411 (by decide +kernel) rfl
theorem ml_C_105 : Cond.methodLink R_C 105 y_R_has ∈ wtb := wtb_at 415 (by decide +kernel) rfl
theorem ml_C_108 : Cond.methodLink R_C 108 y_C_rankOfKept ∈ wtb := wtb_at 416 (by decide +kernel) rfl
theorem ml_C_157 : Cond.methodLink R_C 157 y_K_size ∈ wtb := wtb_at 420 (by decide +kernel) rfl
theorem ml_C_158 : Cond.methodLink R_C 158 y_K_signAt ∈ wtb := wtb_at 424 (by decide +kernel) rfl
theorem ml_C_161 : Cond.methodLink R_C 161 y_P_weightOf ∈ wtb := wtb_at 425 (by decide +kernel) rfl
theorem ml_L_56 : Cond.methodLink R_law 56 y_C_best ∈ wtb := wtb_at 429 (by decide +kernel) rfl
theorem ml_C_112 : Cond.methodLink R_C 112 y_R_size ∈ wtb := wtb_at 433 (by decide +kernel) rfl
theorem ml_L_60 : Cond.methodLink R_law 60 y_C_hint ∈ wtb := wtb_at 437 (by decide +kernel) rfl
theorem ml_C_115 : Cond.methodLink R_C 115 y_K_contains ∈ wtb := wtb_at 441 (by decide +kernel) rfl
theorem ml_C_118 : Cond.methodLink R_C 118 y_K_keptPlace ∈ wtb := wtb_at 442 (by decide +kernel) rfl
theorem ml_C_121 : Cond.methodLink R_C 121 y_R_commonPlace ∈ wtb := wtb_at 443 (by decide +kernel) rfl
theorem ml_R_29 : Cond.methodLink R_R 29 y_R_placeIn ∈ wtb := wtb_at 447 (by decide +kernel) rfl
theorem ml_L_64 : Cond.methodLink R_law 64 y_C_codewords ∈ wtb := wtb_at 448 (by decide +kernel) rfl
theorem ml_C_124 : Cond.methodLink R_C 124 y_K_codewordCount ∈ wtb := wtb_at 452 (by decide +kernel) rfl
theorem ml_L_68 : Cond.methodLink R_law 68 y_C_plain ∈ wtb := wtb_at 453 (by decide +kernel) rfl
theorem ml_C_127 : Cond.methodLink R_C 127 y_X_append ∈ wtb := wtb_at 457 (by decide +kernel) rfl
theorem ml_L_72 : Cond.methodLink R_law 72 y_C_shifted ∈ wtb := wtb_at 462 (by decide +kernel) rfl
theorem ml_C_128 : Cond.methodLink R_C 128 y_X_placeAt ∈ wtb := wtb_at 466 (by decide +kernel) rfl
theorem ml_C_131 : Cond.methodLink R_C 131 y_H_floorMod ∈ wtb := wtb_at 470 (by decide +kernel) rfl
theorem ml_C_136 : Cond.methodLink R_C 136 y_C_shiftedLetter ∈ wtb := wtb_at 473 (by decide +kernel) rfl
theorem ml_C_165 : Cond.methodLink R_C 165 y_C_shiftedPlace ∈ wtb := wtb_at 476 (by decide +kernel) rfl
theorem ml_L_76 : Cond.methodLink R_law 76 y_C_bestShift ∈ wtb := wtb_at 479 (by decide +kernel) rfl
theorem ml_C_139 : Cond.methodLink R_C 139 y_C_shiftedSum ∈ wtb := wtb_at 483 (by decide +kernel) rfl
theorem ml_C_164 : Cond.methodLink R_C 164 y_X_size ∈ wtb := wtb_at 487 (by decide +kernel) rfl
theorem ml_L_80 : Cond.methodLink R_law 80 y_C_keyed ∈ wtb := wtb_at 491 (by decide +kernel) rfl
theorem ml_C_142 : Cond.methodLink R_C 142 y_W_lengthOf ∈ wtb := wtb_at 495 (by decide +kernel) rfl
theorem ml_C_145 : Cond.methodLink R_C 145 y_W_placeAt ∈ wtb := wtb_at 496 (by decide +kernel) rfl
theorem ml_L_84 : Cond.methodLink R_law 84 y_C_breaks ∈ wtb := wtb_at 497 (by decide +kernel) rfl
theorem ml_C_147 : Cond.methodLink R_C 147 y_B_fewestWords ∈ wtb := wtb_at 501 (by decide +kernel) rfl
theorem ml_B_23 : Cond.methodLink R_B 23 y_X_size ∈ wtb := wtb_at 505 (by decide +kernel) rfl
theorem ml_B_29 : Cond.methodLink R_B 29 y_B_fewestAt ∈ wtb := wtb_at 506 (by decide +kernel) rfl
theorem ml_B_44 : Cond.methodLink R_B 44 y_W_size ∈ wtb := wtb_at 510 (by decide +kernel) rfl
theorem ml_B_45 : Cond.methodLink R_B 45 y_B_fewestBehind ∈ wtb := wtb_at 511 (by decide +kernel) rfl
theorem ml_B_39 : Cond.methodLink R_B 39 y_W_lengthOf ∈ wtb := wtb_at 515 (by decide +kernel) rfl
theorem ml_B_49 : Cond.methodLink R_B 49 y_X_placeAt ∈ wtb := wtb_at 516 (by decide +kernel) rfl
theorem ml_B_52 : Cond.methodLink R_B 52 y_W_placeAt ∈ wtb := wtb_at 517 (by decide +kernel) rfl
theorem ml_L_88 : Cond.methodLink R_law 88 y_C_breakAt ∈ wtb := wtb_at 518 (by decide +kernel) rfl
theorem ml_C_150 : Cond.methodLink R_C 150 y_B_wordOf ∈ wtb := wtb_at 522 (by decide +kernel) rfl
theorem ml_B_33 : Cond.methodLink R_B 33 y_B_fewestWords ∈ wtb := wtb_at 526 (by decide +kernel) rfl
theorem ml_B_36 : Cond.methodLink R_B 36 y_B_leastWordAt ∈ wtb := wtb_at 527 (by decide +kernel) rfl
theorem ml_L_92 : Cond.methodLink R_law 92 y_C_clear ∈ wtb := wtb_at 531 (by decide +kernel) rfl
theorem ml_C_153 : Cond.methodLink R_C 153 y_K_empty ∈ wtb := wtb_at 535 (by decide +kernel) rfl
theorem ml_C_156 : Cond.methodLink R_C 156 y_X_empty ∈ wtb := wtb_at 539 (by decide +kernel) rfl
theorem cl_L_10 : Cond.classLink R_law 10 R_M ∈ wtb := wtb_at 543 (by decide +kernel) rfl
theorem ml_L_12 : Cond.methodLink R_law 12 y_M_init ∈ wtb := wtb_at 545 (by decide +kernel) rfl
theorem ml_M_1 : Cond.methodLink R_M 1 objectInit ∈ wtb := wtb_at 548 (by decide +kernel) rfl
theorem fl_M_49 : Cond.fieldLink R_M 49 R_M "thrown" "I" ∈ wtb := wtb_at 549 (by decide +kernel) rfl
theorem fl_M_57 : Cond.fieldLink R_M 57 R_M "collected" "I" ∈ wtb := wtb_at 550 (by decide +kernel) rfl
theorem fl_M_7 : Cond.fieldLink R_M 7 R_M "row" "[I" ∈ wtb := wtb_at 551 (by decide +kernel) rfl
theorem fl_M_64 : Cond.fieldLink R_M 64 R_M "words" "I" ∈ wtb := wtb_at 552 (by decide +kernel) rfl
theorem fl_M_13 : Cond.fieldLink R_M 13 R_M "lengths" "[I" ∈ wtb := wtb_at 553 (by decide +kernel) rfl
theorem fl_M_16 : Cond.fieldLink R_M 16 R_M "letters" "[I" ∈ wtb := wtb_at 554 (by decide +kernel) rfl
theorem fl_M_74 : Cond.fieldLink R_M 74 R_M "signs" "I" ∈ wtb := wtb_at 555 (by decide +kernel) rfl
theorem fl_M_19 : Cond.fieldLink R_M 19 R_M "code" "[I" ∈ wtb := wtb_at 556 (by decide +kernel) rfl
theorem fl_M_22 : Cond.fieldLink R_M 22 R_M "kept" "[I" ∈ wtb := wtb_at 557 (by decide +kernel) rfl
theorem fl_M_25 : Cond.fieldLink R_M 25 R_M "weights" "[I" ∈ wtb := wtb_at 558 (by decide +kernel) rfl
theorem fl_M_80 : Cond.fieldLink R_M 80 R_M "many" "I" ∈ wtb := wtb_at 559 (by decide +kernel) rfl
theorem fl_M_28 : Cond.fieldLink R_M 28 R_M "begins" "[I" ∈ wtb := wtb_at 560 (by decide +kernel) rfl
theorem fl_M_31 : Cond.fieldLink R_M 31 R_M "sizes" "[I" ∈ wtb := wtb_at 561 (by decide +kernel) rfl
theorem fl_M_34 : Cond.fieldLink R_M 34 R_M "tried" "[I" ∈ wtb := wtb_at 562 (by decide +kernel) rfl
theorem fl_M_37 : Cond.fieldLink R_M 37 R_M "map" "[I" ∈ wtb := wtb_at 563 (by decide +kernel) rfl
theorem fl_M_97 : Cond.fieldLink R_M 97 R_M "steps" "I" ∈ wtb := wtb_at 564 (by decide +kernel) rfl
theorem fl_M_77 : Cond.fieldLink R_M 77 R_M "readings" "I" ∈ wtb := wtb_at 565 (by decide +kernel) rfl
theorem fl_M_40 : Cond.fieldLink R_M 40 R_M "found" "[I" ∈ wtb := wtb_at 566 (by decide +kernel) rfl
theorem fl_M_113 : Cond.fieldLink R_M 113 R_M "plains" "I" ∈ wtb := wtb_at 567 (by decide +kernel) rfl
theorem fl_M_43 : Cond.fieldLink R_M 43 R_M "plain" "[I" ∈ wtb := wtb_at 568 (by decide +kernel) rfl
theorem fl_M_46 : Cond.fieldLink R_M 46 R_M "fewest" "[I" ∈ wtb := wtb_at 569 (by decide +kernel) rfl
theorem ml_L_17 : Cond.methodLink R_law 17 y_M_unit ∈ wtb := wtb_at 613 (by decide +kernel) rfl
theorem ml_M_53 : Cond.methodLink R_M 53 y_M_isLetter ∈ wtb := wtb_at 617 (by decide +kernel) rfl
theorem ml_L_22 : Cond.methodLink R_law 22 y_M_word ∈ wtb := wtb_at 620 (by decide +kernel) rfl
theorem ml_M_70 : Cond.methodLink R_M 70 y_M_enter ∈ wtb := wtb_at 624 (by decide +kernel) rfl
theorem ml_M_67 : Cond.methodLink R_M 67 y_M_isRow ∈ wtb := wtb_at 628 (by decide +kernel) rfl
theorem ml_M_60 : Cond.methodLink R_M 60 y_M_at ∈ wtb := wtb_at 632 (by decide +kernel) rfl
theorem ml_L_26 : Cond.methodLink R_law 26 y_M_sign ∈ wtb := wtb_at 636 (by decide +kernel) rfl
theorem ml_L_31 : Cond.methodLink R_law 31 y_M_keep ∈ wtb := wtb_at 640 (by decide +kernel) rfl
theorem ml_L_36 : Cond.methodLink R_law 36 y_M_pair ∈ wtb := wtb_at 644 (by decide +kernel) rfl
theorem ml_L_67 : Cond.methodLink R_law 67 y_M_codewords ∈ wtb := wtb_at 648 (by decide +kernel) rfl
theorem ml_M_83 : Cond.methodLink R_M 83 y_M_part ∈ wtb := wtb_at 652 (by decide +kernel) rfl
theorem ml_L_41 : Cond.methodLink R_law 41 y_M_run ∈ wtb := wtb_at 656 (by decide +kernel) rfl
theorem co_M_96 : Jvm.Cond.constant R_M 96 (iI (100000)) ∈ wtb := wtb_at 660 (by decide +kernel) rfl
theorem ml_M_100 : Cond.methodLink R_M 100 y_M_fits ∈ wtb := wtb_at 661 (by decide +kernel) rfl
theorem ml_M_86 : Cond.methodLink R_M 86 y_M_isIn ∈ wtb := wtb_at 665 (by decide +kernel) rfl
theorem ml_M_89 : Cond.methodLink R_M 89 y_M_tell ∈ wtb := wtb_at 669 (by decide +kernel) rfl
theorem ml_M_103 : Cond.methodLink R_M 103 y_M_enterReading ∈ wtb := wtb_at 673 (by decide +kernel) rfl
theorem ml_M_93 : Cond.methodLink R_M 93 y_M_isAhead ∈ wtb := wtb_at 677 (by decide +kernel) rfl
theorem ml_L_45 : Cond.methodLink R_law 45 y_M_steps ∈ wtb := wtb_at 681 (by decide +kernel) rfl
theorem ml_L_50 : Cond.methodLink R_law 50 y_M_letter ∈ wtb := wtb_at 685 (by decide +kernel) rfl
theorem ml_L_55 : Cond.methodLink R_law 55 y_M_rank ∈ wtb := wtb_at 689 (by decide +kernel) rfl
theorem ml_M_109 : Cond.methodLink R_M 109 y_M_rankOf ∈ wtb := wtb_at 693 (by decide +kernel) rfl
theorem ml_M_106 : Cond.methodLink R_M 106 y_M_weight ∈ wtb := wtb_at 697 (by decide +kernel) rfl
theorem ml_L_59 : Cond.methodLink R_law 59 y_M_best ∈ wtb := wtb_at 701 (by decide +kernel) rfl
theorem ml_L_63 : Cond.methodLink R_law 63 y_M_hint ∈ wtb := wtb_at 705 (by decide +kernel) rfl
theorem ml_L_71 : Cond.methodLink R_law 71 y_M_plain ∈ wtb := wtb_at 709 (by decide +kernel) rfl
theorem ml_L_75 : Cond.methodLink R_law 75 y_M_shifted ∈ wtb := wtb_at 713 (by decide +kernel) rfl
theorem ml_M_116 : Cond.methodLink R_M 116 y_M_shift ∈ wtb := wtb_at 717 (by decide +kernel) rfl
theorem ml_L_79 : Cond.methodLink R_law 79 y_M_bestShift ∈ wtb := wtb_at 720 (by decide +kernel) rfl
theorem ml_L_83 : Cond.methodLink R_law 83 y_M_keyed ∈ wtb := wtb_at 724 (by decide +kernel) rfl
theorem ml_L_87 : Cond.methodLink R_law 87 y_M_breaks ∈ wtb := wtb_at 728 (by decide +kernel) rfl
theorem ml_M_122 : Cond.methodLink R_M 122 y_M_reckon ∈ wtb := wtb_at 732 (by decide +kernel) rfl
theorem ml_M_119 : Cond.methodLink R_M 119 y_M_stands ∈ wtb := wtb_at 736 (by decide +kernel) rfl
theorem ml_L_91 : Cond.methodLink R_law 91 y_M_breakAt ∈ wtb := wtb_at 740 (by decide +kernel) rfl
theorem ml_L_95 : Cond.methodLink R_law 95 y_M_clear ∈ wtb := wtb_at 744 (by decide +kernel) rfl
def nst : List (String × Nat × MethodName × String) := [(R_C, 11, y_W_init, R_C), (R_C, 25, y_P_init, R_C), (R_C, 32, y_R_init, R_C), (R_C, 48, y_X_init, R_C), (R_W, 28, y_C_isPlace, R_C), (R_K, 41, y_C_isNumber, R_C), (R_P, 15, y_C_isPlace, R_C), (R_S, 80, y_C_isPlace, R_C), (R_S, 123, y_C_isNumber, R_C), (R_R, 26, y_C_isNumber, R_C), (R_X, 19, y_C_isPlace, R_C)]
def nsw (q : String × Nat × MethodName × String) : Cond := .methodLinkNest q.1 q.2.1 q.2.2.1 q.2.2.2
theorem nst_in : ∀ w ∈ nst.map nsw, w ∈ lw_tbl := by
  intro w hw
  have hp : nst.map nsw = ([53, 108, 118, 174, 234, 276, 308, 332, 381, 406, 461] : List Nat).filterMap (fun i => lw_tbl[i]?) := by decide +kernel
  rw [hp] at hw
  obtain ⟨i, -, hi⟩ := List.mem_filterMap.mp hw
  exact List.mem_of_getElem? hi
theorem nl_C_11 : nst[0]? = some (R_C, 11, y_W_init, R_C) := rfl
theorem nl_C_25 : nst[1]? = some (R_C, 25, y_P_init, R_C) := rfl
theorem nl_C_32 : nst[2]? = some (R_C, 32, y_R_init, R_C) := rfl
theorem nl_C_48 : nst[3]? = some (R_C, 48, y_X_init, R_C) := rfl
theorem nl_W_28 : nst[4]? = some (R_W, 28, y_C_isPlace, R_C) := rfl
theorem nl_K_41 : nst[5]? = some (R_K, 41, y_C_isNumber, R_C) := rfl
theorem nl_P_15 : nst[6]? = some (R_P, 15, y_C_isPlace, R_C) := rfl
theorem nl_S_80 : nst[7]? = some (R_S, 80, y_C_isPlace, R_C) := rfl
theorem nl_S_123 : nst[8]? = some (R_S, 123, y_C_isNumber, R_C) := rfl
theorem nl_R_26 : nst[9]? = some (R_R, 26, y_C_isNumber, R_C) := rfl
theorem nl_X_19 : nst[10]? = some (R_X, 19, y_C_isPlace, R_C) := rfl
end
section
/-! THE JUDGEMENT: at pc, with locals lv, stack st and world ws, the machine comes to Q -/
def JJ (p : Program) (l : Launch) (e : Env) (R : Room) (s : State) (m : MethodId) (args : Array Value) (below : List Frame) (meth : Method) (c : Code) (D : va_G) (A : Nat → Prop) (nL : Nat) (Q : State → Prop) (cells slots pc : Nat) (lv : List (Nat × Value)) (st : List Value) (ws : va_W) : Prop :=
  ∀ (H : Heap) (locs : List Loc) (ls : Array Slot), va_P D cls ws H → va_D A ws → va_S A s.heap H locs → lv_has ls nL lv → W p l e R s m args below meth c H locs cells slots Q (F0 m pc ls st)
/-- the links to private methods of nest mates -/
def NN (U : State) : Prop := ∀ q ∈ nst, va_Nw (nsw q) U
theorem NN.warm {s U : State} (hW : s.WarmedH U.vm) (h : NN s) : NN U := fun q hq => va_Nw.warmM hW (h q hq)
theorem NN.same {s U : State} (e : s.vm = U.vm) (h : NN s) : NN U := fun q hq => va_Nw.same rfl e (h q hq)
/-- what stays the same all through a method -/
def Cx (p : Program) (s : State) (m : MethodId) (args : Array Value) (c : Code) (D : va_G) (tys : List (ClassId × FieldType)) (A : Nat → Prop) (nL : Nat) (cc : ByteArray) (own : String) : Prop :=
  p.tables.exec = Jvm.exec ∧ c.code = cc ∧ c.maxLocals = nL ∧ s.vm.findClass own = some m.cls ∧ (∀ w ∈ wtb, w.before args s = true) ∧ va_K D cls tys s ∧ (∀ q : Nat, s.heap.size ≤ q → A q) ∧ NN s
/-- locals in order of their places -/
def lvp (i : Nat) (v : Value) (lv : List (Nat × Value)) : List (Nat × Value) :=
  lv.filter (fun q => Nat.blt q.1 i && !(q.1 + 1 == i && q.2.category == 2)) ++ (i, v) :: lv.filter (fun q => Nat.blt i q.1)
def lvp2 (i : Nat) (v : Value) (lv : List (Nat × Value)) : List (Nat × Value) :=
  lv.filter (fun q => Nat.blt q.1 i && !(q.1 + 1 == i && q.2.category == 2)) ++ (i, v) :: lv.filter (fun q => Nat.blt (i + 1) q.1)
theorem lvp_has {ls : Array Slot} {nL i : Nat} {v : Value} {lv : List (Nat × Value)} (h : lv_has ls nL ((i, v) :: lv.filter (fun q => !(q.1 == i) && !(q.1 + 1 == i && q.2.category == 2)))) : lv_has ls nL (lvp i v lv) := by
  refine ⟨h.1, h.2.1, fun q hq => h.2.2 q ?_⟩
  rcases List.mem_append.mp hq with h1 | h1
  · have h2 := List.mem_filter.mp h1
    refine List.mem_cons_of_mem _ (List.mem_filter.mpr ⟨h2.1, ?_⟩)
    have h3 := h2.2
    simp only [Bool.and_eq_true] at h3 ⊢
    refine ⟨?_, h3.2⟩
    have h4 : q.1 < i := by simpa [Nat.blt_eq] using h3.1
    simp
    omega
  · rcases List.mem_cons.mp h1 with h2 | h2
    · rw [h2]
      exact List.mem_cons_self
    · have h3 := List.mem_filter.mp h2
      refine List.mem_cons_of_mem _ (List.mem_filter.mpr ⟨h3.1, ?_⟩)
      have h4 : i < q.1 := by simpa [Nat.blt_eq] using h3.2
      have e1 : (q.1 == i) = false := by simp; omega
      have e2 : (q.1 + 1 == i) = false := by simp; omega
      simp [e1, e2]
theorem lvp2_has {ls : Array Slot} {nL i : Nat} {v : Value} {lv : List (Nat × Value)} (h : lv_has ls nL ((i, v) :: lv.filter (fun q => !(q.1 == i) && (!(q.1 == i + 1) && !(q.1 + 1 == i && q.2.category == 2))))) : lv_has ls nL (lvp2 i v lv) := by
  refine ⟨h.1, h.2.1, fun q hq => h.2.2 q ?_⟩
  rcases List.mem_append.mp hq with h1 | h1
  · have h2 := List.mem_filter.mp h1
    refine List.mem_cons_of_mem _ (List.mem_filter.mpr ⟨h2.1, ?_⟩)
    have h3 := h2.2
    simp only [Bool.and_eq_true] at h3 ⊢
    have h4 : q.1 < i := by simpa [Nat.blt_eq] using h3.1
    refine ⟨by simp; omega, by simp; omega, h3.2⟩
  · rcases List.mem_cons.mp h1 with h2 | h2
    · rw [h2]
      exact List.mem_cons_self
    · have h3 := List.mem_filter.mp h2
      refine List.mem_cons_of_mem _ (List.mem_filter.mpr ⟨h3.1, ?_⟩)
      have h4 : i + 1 < q.1 := by simpa [Nat.blt_eq] using h3.2
      have e1 : (q.1 == i) = false := by simp; omega
      have e2 : (q.1 + 1 == i) = false := by simp; omega
      have e3 : (q.1 == i + 1) = false := by simp; omega
      simp [e1, e2, e3]
/-- an int array that holds f, a boolean one that holds f -/
def aI (k : ClassId) (n : Nat) (f : Nat → Int) : va_E := .inl (k, n, .inl (fun j => iI (f j)))
def uI (f : Nat → Int) (k : Nat) (x : Int) : Nat → Int := fun j => if j = k then x else f j
theorem uI_upd (f : Nat → Int) (k : Nat) (x : Int) : upd (fun j => iI (f j)) k (iI x) = fun j => iI (uI f k x j) := by
  funext j
  simp only [upd, uI]
  split <;> rfl
section JR
variable {p : Program} {l : Launch} {e : Env} {R : Room} {s : State} {m : MethodId} {args : Array Value} {below : List Frame} {meth : Method} {c : Code} {D : va_G} {tys : List (ClassId × FieldType)} {A : Nat → Prop} {nL : Nat} {Q : State → Prop} {cells slots pc : Nat} {lv : List (Nat × Value)} {st : List Value} {ws : va_W} {cc : ByteArray} {own : String}

theorem j_iconst (C : Cx p s m args c D tys A nL cc own) {q : Nat} {n : Int} (hdg : decode cc pc = .ok (.iconst n, 1)) (hq : pc + 1 = q) (k : JJ p l e R s m args below meth c D A nL Q cells slots q lv (.int (iI n) :: st) ws) : JJ p l e R s m args below meth c D A nL Q cells slots pc lv st ws := by
  subst hq
  intro H locs ls hP hD hS hl
  exact lv_iconst C.1 C.2.1 hdg rfl (k H locs ls hP hD hS hl)
theorem j_bipush (C : Cx p s m args c D tys A nL cc own) {q : Nat} {n : Int} (hdg : decode cc pc = .ok (.bipush n, 2)) (hq : pc + 2 = q) (hv : (Int8.ofInt n).toInt32 = iI n) (k : JJ p l e R s m args below meth c D A nL Q cells slots q lv (.int (iI n) :: st) ws) : JJ p l e R s m args below meth c D A nL Q cells slots pc lv st ws := by
  subst hq
  intro H locs ls hP hD hS hl
  exact lv_bipush C.1 C.2.1 hdg hv (k H locs ls hP hD hS hl)
theorem j_sipush (C : Cx p s m args c D tys A nL cc own) {q : Nat} {n : Int} (hdg : decode cc pc = .ok (.sipush n, 3)) (hq : pc + 3 = q) (hv : (Int16.ofInt n).toInt32 = iI n) (k : JJ p l e R s m args below meth c D A nL Q cells slots q lv (.int (iI n) :: st) ws) : JJ p l e R s m args below meth c D A nL Q cells slots pc lv st ws := by
  subst hq
  intro H locs ls hP hD hS hl
  exact lv_sipush C.1 C.2.1 hdg hv (k H locs ls hP hD hS hl)
theorem j_lconst (C : Cx p s m args c D tys A nL cc own) {q : Nat} {n : Fin 2} (hdg : decode cc pc = .ok (.lconst n, 1)) (hq : pc + 1 = q) (k : JJ p l e R s m args below meth c D A nL Q cells slots q lv (.long (lI (n : Nat)) :: st) ws) : JJ p l e R s m args below meth c D A nL Q cells slots pc lv st ws := by
  subst hq
  intro H locs ls hP hD hS hl
  exact lv_lconst C.1 C.2.1 hdg (Int64.ofInt_eq_ofNat (n := (n : Nat))).symm (k H locs ls hP hD hS hl)
theorem j_ldc (C : Cx p s m args c D tys A nL cc own) {q index : Nat} {n : Int} (hdg : decode cc pc = .ok (.ldc index, 2)) (hq : pc + 2 = q) (hc : Jvm.Cond.constant own index (iI n) ∈ wtb) (k : JJ p l e R s m args below meth c D A nL Q cells slots q lv (.int (iI n) :: st) ws) : JJ p l e R s m args below meth c D A nL Q cells slots pc lv st ws := by
  subst hq
  intro H locs ls hP hD hS hl
  exact lv_ldc C.1 C.2.1 C.2.2.2.1 (C.2.2.2.2.1 _ hc) hdg (k H locs ls hP hD hS hl)
theorem j_iload_n (C : Cx p s m args c D tys A nL cc own) {q : Nat} {x : Int32} {i : Fin 4} (n : Nat) (hl0 : lv[n]? = some ((i : Nat), .int x)) (hdg : decode cc pc = .ok (.iload_n i, 1)) (hq : pc + 1 = q) (k : JJ p l e R s m args below meth c D A nL Q cells slots q lv (.int x :: st) ws) : JJ p l e R s m args below meth c D A nL Q cells slots pc lv st ws := by
  subst hq
  intro H locs ls hP hD hS hl
  exact lv_iload_n C.1 C.2.1 hdg rfl (lv_at hl n hl0) (k H locs ls hP hD hS hl)
theorem j_iload (C : Cx p s m args c D tys A nL cc own) {q i : Nat} {x : Int32} (n : Nat) (hl0 : lv[n]? = some (i, .int x)) (hdg : decode cc pc = .ok (.iload i, 2)) (hq : pc + 2 = q) (k : JJ p l e R s m args below meth c D A nL Q cells slots q lv (.int x :: st) ws) : JJ p l e R s m args below meth c D A nL Q cells slots pc lv st ws := by
  subst hq
  intro H locs ls hP hD hS hl
  exact lv_iload C.1 C.2.1 hdg (lv_at hl n hl0) (k H locs ls hP hD hS hl)
theorem j_istore_n (C : Cx p s m args c D tys A nL cc own) {q : Nat} {x : Int32} {i : Fin 4} (lv' : List (Nat × Value)) (hl0 : lvp (i : Nat) (.int x) lv = lv') (hi : (i : Nat) < nL) (hdg : decode cc pc = .ok (.istore_n i, 1)) (hq : pc + 1 = q) (k : JJ p l e R s m args below meth c D A nL Q cells slots q lv' st ws) : JJ p l e R s m args below meth c D A nL Q cells slots pc lv (.int x :: st) ws := by
  subst hq
  subst hl0
  intro H locs ls hP hD hS hl
  exact lv_istore_n C.1 C.2.1 hdg rfl hl hi rfl (fun ls' hl' => k H locs ls' hP hD hS (lvp_has hl'))
theorem j_istore (C : Cx p s m args c D tys A nL cc own) {q i : Nat} {x : Int32} (lv' : List (Nat × Value)) (hl0 : lvp i (.int x) lv = lv') (hi : i < nL) (hdg : decode cc pc = .ok (.istore i, 2)) (hq : pc + 2 = q) (k : JJ p l e R s m args below meth c D A nL Q cells slots q lv' st ws) : JJ p l e R s m args below meth c D A nL Q cells slots pc lv (.int x :: st) ws := by
  subst hq
  subst hl0
  intro H locs ls hP hD hS hl
  exact lv_istore C.1 C.2.1 hdg hl hi rfl (fun ls' hl' => k H locs ls' hP hD hS (lvp_has hl'))
theorem j_lload_n (C : Cx p s m args c D tys A nL cc own) {q : Nat} {x : Int64} {i : Fin 4} (n : Nat) (hl0 : lv[n]? = some ((i : Nat), .long x)) (hdg : decode cc pc = .ok (.lload_n i, 1)) (hq : pc + 1 = q) (k : JJ p l e R s m args below meth c D A nL Q cells slots q lv (.long x :: st) ws) : JJ p l e R s m args below meth c D A nL Q cells slots pc lv st ws := by
  subst hq
  intro H locs ls hP hD hS hl
  exact lv_lload_n C.1 C.2.1 hdg rfl (lv_at hl n hl0) (k H locs ls hP hD hS hl)
theorem j_lload (C : Cx p s m args c D tys A nL cc own) {q i : Nat} {x : Int64} (n : Nat) (hl0 : lv[n]? = some (i, .long x)) (hdg : decode cc pc = .ok (.lload i, 2)) (hq : pc + 2 = q) (k : JJ p l e R s m args below meth c D A nL Q cells slots q lv (.long x :: st) ws) : JJ p l e R s m args below meth c D A nL Q cells slots pc lv st ws := by
  subst hq
  intro H locs ls hP hD hS hl
  exact lv_lload C.1 C.2.1 hdg (lv_at hl n hl0) (k H locs ls hP hD hS hl)
theorem j_lstore_n (C : Cx p s m args c D tys A nL cc own) {q : Nat} {x : Int64} {i : Fin 4} (lv' : List (Nat × Value)) (hl0 : lvp2 (i : Nat) (.long x) lv = lv') (hi : (i : Nat) + 1 < nL) (hdg : decode cc pc = .ok (.lstore_n i, 1)) (hq : pc + 1 = q) (k : JJ p l e R s m args below meth c D A nL Q cells slots q lv' st ws) : JJ p l e R s m args below meth c D A nL Q cells slots pc lv (.long x :: st) ws := by
  subst hq
  subst hl0
  intro H locs ls hP hD hS hl
  exact lv_lstore_n C.1 C.2.1 hdg rfl hl hi rfl (fun ls' hl' => k H locs ls' hP hD hS (lvp2_has hl'))
theorem j_lstore (C : Cx p s m args c D tys A nL cc own) {q i : Nat} {x : Int64} (lv' : List (Nat × Value)) (hl0 : lvp2 i (.long x) lv = lv') (hi : i + 1 < nL) (hdg : decode cc pc = .ok (.lstore i, 2)) (hq : pc + 2 = q) (k : JJ p l e R s m args below meth c D A nL Q cells slots q lv' st ws) : JJ p l e R s m args below meth c D A nL Q cells slots pc lv (.long x :: st) ws := by
  subst hq
  subst hl0
  intro H locs ls hP hD hS hl
  exact lv_lstore C.1 C.2.1 hdg hl hi rfl (fun ls' hl' => k H locs ls' hP hD hS (lvp2_has hl'))
theorem j_aload_n (C : Cx p s m args c D tys A nL cc own) {q : Nat} {x : Nat} {i : Fin 4} (n : Nat) (hl0 : lv[n]? = some ((i : Nat), .ref x)) (hdg : decode cc pc = .ok (.aload_n i, 1)) (hq : pc + 1 = q) (k : JJ p l e R s m args below meth c D A nL Q cells slots q lv (.ref x :: st) ws) : JJ p l e R s m args below meth c D A nL Q cells slots pc lv st ws := by
  subst hq
  intro H locs ls hP hD hS hl
  exact lv_aload_n C.1 C.2.1 hdg rfl (lv_at hl n hl0) (k H locs ls hP hD hS hl)
theorem j_aload (C : Cx p s m args c D tys A nL cc own) {q i : Nat} {x : Nat} (n : Nat) (hl0 : lv[n]? = some (i, .ref x)) (hdg : decode cc pc = .ok (.aload i, 2)) (hq : pc + 2 = q) (k : JJ p l e R s m args below meth c D A nL Q cells slots q lv (.ref x :: st) ws) : JJ p l e R s m args below meth c D A nL Q cells slots pc lv st ws := by
  subst hq
  intro H locs ls hP hD hS hl
  exact lv_aload C.1 C.2.1 hdg (lv_at hl n hl0) (k H locs ls hP hD hS hl)
theorem j_astore_n (C : Cx p s m args c D tys A nL cc own) {q : Nat} {x : Nat} {i : Fin 4} (lv' : List (Nat × Value)) (hl0 : lvp (i : Nat) (.ref x) lv = lv') (hi : (i : Nat) < nL) (hdg : decode cc pc = .ok (.astore_n i, 1)) (hq : pc + 1 = q) (k : JJ p l e R s m args below meth c D A nL Q cells slots q lv' st ws) : JJ p l e R s m args below meth c D A nL Q cells slots pc lv (.ref x :: st) ws := by
  subst hq
  subst hl0
  intro H locs ls hP hD hS hl
  exact lv_astore_n C.1 C.2.1 hdg rfl hl hi rfl (fun ls' hl' => k H locs ls' hP hD hS (lvp_has hl'))
theorem j_astore (C : Cx p s m args c D tys A nL cc own) {q i : Nat} {x : Nat} (lv' : List (Nat × Value)) (hl0 : lvp i (.ref x) lv = lv') (hi : i < nL) (hdg : decode cc pc = .ok (.astore i, 2)) (hq : pc + 2 = q) (k : JJ p l e R s m args below meth c D A nL Q cells slots q lv' st ws) : JJ p l e R s m args below meth c D A nL Q cells slots pc lv (.ref x :: st) ws := by
  subst hq
  subst hl0
  intro H locs ls hP hD hS hl
  exact lv_astore C.1 C.2.1 hdg hl hi rfl (fun ls' hl' => k H locs ls' hP hD hS (lvp_has hl'))
theorem j_iinc (C : Cx p s m args c D tys A nL cc own) {q i : Nat} {a b : Int} (n : Nat) (lv' : List (Nat × Value)) (hk : lv[n]? = some (i, .int (iI a))) (hl0 : lvp i (.int (iI (a + b))) lv = lv') (hi : i < nL) (hdg : decode cc pc = .ok (.iinc i b, 3)) (hq : pc + 3 = q) (k : JJ p l e R s m args below meth c D A nL Q cells slots q lv' st ws) : JJ p l e R s m args below meth c D A nL Q cells slots pc lv st ws := by
  subst hq
  subst hl0
  intro H locs ls hP hD hS hl
  exact lv_iinc C.1 C.2.1 hdg hl hk (iI_add a b) hi rfl (fun ls' hl' => k H locs ls' hP hD hS (lvp_has hl'))
theorem j_iadd (C : Cx p s m args c D tys A nL cc own) {q : Nat} {a b : Int} (hdg : decode cc pc = .ok (.iadd, 1)) (hq : pc + 1 = q) (k : JJ p l e R s m args below meth c D A nL Q cells slots q lv (.int (iI (a + b)) :: st) ws) : JJ p l e R s m args below meth c D A nL Q cells slots pc lv (.int (iI b) :: .int (iI a) :: st) ws := by
  subst hq
  intro H locs ls hP hD hS hl
  exact lv_iadd C.1 C.2.1 hdg (by rw [iI_add]; exact (k H locs ls hP hD hS hl))
theorem j_isub (C : Cx p s m args c D tys A nL cc own) {q : Nat} {a b : Int} (hdg : decode cc pc = .ok (.isub, 1)) (hq : pc + 1 = q) (k : JJ p l e R s m args below meth c D A nL Q cells slots q lv (.int (iI (a - b)) :: st) ws) : JJ p l e R s m args below meth c D A nL Q cells slots pc lv (.int (iI b) :: .int (iI a) :: st) ws := by
  subst hq
  intro H locs ls hP hD hS hl
  exact lv_isub C.1 C.2.1 hdg (by rw [iI_sub]; exact (k H locs ls hP hD hS hl))
theorem j_imul (C : Cx p s m args c D tys A nL cc own) {q : Nat} {a b : Int} (hdg : decode cc pc = .ok (.imul, 1)) (hq : pc + 1 = q) (k : JJ p l e R s m args below meth c D A nL Q cells slots q lv (.int (iI (a * b)) :: st) ws) : JJ p l e R s m args below meth c D A nL Q cells slots pc lv (.int (iI b) :: .int (iI a) :: st) ws := by
  subst hq
  intro H locs ls hP hD hS hl
  exact lv_imul C.1 C.2.1 hdg (by rw [iI_mul]; exact (k H locs ls hP hD hS hl))
theorem j_ladd (C : Cx p s m args c D tys A nL cc own) {q : Nat} {a b : Int} (hdg : decode cc pc = .ok (.ladd, 1)) (hq : pc + 1 = q) (k : JJ p l e R s m args below meth c D A nL Q cells slots q lv (.long (lI (a + b)) :: st) ws) : JJ p l e R s m args below meth c D A nL Q cells slots pc lv (.long (lI b) :: .long (lI a) :: st) ws := by
  subst hq
  intro H locs ls hP hD hS hl
  exact lv_ladd C.1 C.2.1 hdg (by rw [lI_add]; exact (k H locs ls hP hD hS hl))
theorem j_i2l (C : Cx p s m args c D tys A nL cc own) {q : Nat} {a : Int} (ha : (-2147483648 ≤ a ∧ a < 2147483648)) (hdg : decode cc pc = .ok (.i2l, 1)) (hq : pc + 1 = q) (k : JJ p l e R s m args below meth c D A nL Q cells slots q lv (.long (lI a) :: st) ws) : JJ p l e R s m args below meth c D A nL Q cells slots pc lv (.int (iI a) :: st) ws := by
  subst hq
  intro H locs ls hP hD hS hl
  exact lv_i2l C.1 C.2.1 hdg (iI_long ha) (k H locs ls hP hD hS hl)
theorem j_idiv (C : Cx p s m args c D tys A nL cc own) {q : Nat} {a b : Int} (ha : 0 ≤ a ∧ a < 2147483648) (hb : 0 < b ∧ b < 2147483648) (hdg : decode cc pc = .ok (.idiv, 1)) (hq : pc + 1 = q) (k : JJ p l e R s m args below meth c D A nL Q cells slots q lv (.int (iI (a / b)) :: st) ws) : JJ p l e R s m args below meth c D A nL Q cells slots pc lv (.int (iI b) :: .int (iI a) :: st) ws := by
  subst hq
  intro H locs ls hP hD hS hl
  exact lv_idiv C.1 C.2.1 hdg (fun h => by have := (iI_eq (a := b) (b := 0) (by omega) (by omega)).mp h; omega) (by rw [iI_div ha hb]; exact (k H locs ls hP hD hS hl))
theorem j_irem (C : Cx p s m args c D tys A nL cc own) {q : Nat} {a b : Int} (ha : 0 ≤ a ∧ a < 2147483648) (hb : 0 < b ∧ b < 2147483648) (hdg : decode cc pc = .ok (.irem, 1)) (hq : pc + 1 = q) (k : JJ p l e R s m args below meth c D A nL Q cells slots q lv (.int (iI (a % b)) :: st) ws) : JJ p l e R s m args below meth c D A nL Q cells slots pc lv (.int (iI b) :: .int (iI a) :: st) ws := by
  subst hq
  intro H locs ls hP hD hS hl
  exact lv_irem C.1 C.2.1 hdg (fun h => by have := (iI_eq (a := b) (b := 0) (by omega) (by omega)).mp h; omega) (by rw [iI_rem ha hb]; exact (k H locs ls hP hD hS hl))
theorem j_dup (C : Cx p s m args c D tys A nL cc own) {q : Nat} {v : Value} (hv : v.category = 1) (hdg : decode cc pc = .ok (.dup, 1)) (hq : pc + 1 = q) (k : JJ p l e R s m args below meth c D A nL Q cells slots q lv (v :: v :: st) ws) : JJ p l e R s m args below meth c D A nL Q cells slots pc lv (v :: st) ws := by
  subst hq
  intro H locs ls hP hD hS hl
  exact lv_dup C.1 C.2.1 hdg hv (k H locs ls hP hD hS hl)
theorem j_dup_x1 (C : Cx p s m args c D tys A nL cc own) {q : Nat} {v w : Value} (hv : v.category = 1) (hw : w.category = 1) (hdg : decode cc pc = .ok (.dup_x1, 1)) (hq : pc + 1 = q) (k : JJ p l e R s m args below meth c D A nL Q cells slots q lv (v :: w :: v :: st) ws) : JJ p l e R s m args below meth c D A nL Q cells slots pc lv (v :: w :: st) ws := by
  subst hq
  intro H locs ls hP hD hS hl
  exact lv_dup_x1 C.1 C.2.1 hdg hv hw (k H locs ls hP hD hS hl)
theorem j_dup2 (C : Cx p s m args c D tys A nL cc own) {q : Nat} {v w : Value} (hv : v.category = 1) (hw : w.category = 1) (hdg : decode cc pc = .ok (.dup2, 1)) (hq : pc + 1 = q) (k : JJ p l e R s m args below meth c D A nL Q cells slots q lv (v :: w :: v :: w :: st) ws) : JJ p l e R s m args below meth c D A nL Q cells slots pc lv (v :: w :: st) ws := by
  subst hq
  intro H locs ls hP hD hS hl
  exact lv_dup2_11 C.1 C.2.1 hdg hv hw (k H locs ls hP hD hS hl)
theorem j_pop (C : Cx p s m args c D tys A nL cc own) {q : Nat} {v : Value} (hv : v.category = 1) (hdg : decode cc pc = .ok (.pop, 1)) (hq : pc + 1 = q) (k : JJ p l e R s m args below meth c D A nL Q cells slots q lv st ws) : JJ p l e R s m args below meth c D A nL Q cells slots pc lv (v :: st) ws := by
  subst hq
  intro H locs ls hP hD hS hl
  exact lv_pop C.1 C.2.1 hdg hv (k H locs ls hP hD hS hl)
theorem j_goto (C : Cx p s m args c D tys A nL cc own) {off : Int} (q : Nat) (hdg : decode cc pc = .ok (.goto off, 3)) (ht : (pc : Int) + off = (q : Int)) (k : JJ p l e R s m args below meth c D A nL Q cells slots q lv st ws) : JJ p l e R s m args below meth c D A nL Q cells slots pc lv st ws := by
  intro H locs ls hP hD hS hl
  exact lv_goto C.1 C.2.1 hdg ht (k H locs ls hP hD hS hl)
theorem j_icmp_eq (C : Cx p s m args c D tys A nL cc own) {off a b : Int} (t q : Nat) (hdg : decode cc pc = .ok (.if_icmp .eq off, 3)) (ht : (pc : Int) + off = (t : Int)) (hq : pc + 3 = q) (ha0 : (-2147483648 ≤ a ∧ a < 2147483648)) (hb0 : (-2147483648 ≤ b ∧ b < 2147483648)) (kt : a = b → JJ p l e R s m args below meth c D A nL Q cells slots t lv st ws) (kf : ¬ (a = b) → JJ p l e R s m args below meth c D A nL Q cells slots q lv st ws) : JJ p l e R s m args below meth c D A nL Q cells slots pc lv (.int (iI b) :: .int (iI a) :: st) ws := by
  subst hq
  intro H locs ls hP hD hS hl
  exact lv_icmp_eq C.1 C.2.1 hdg ht (fun h => kt ((iI_eq ha0 hb0).mp h) H locs ls hP hD hS hl) (fun h => kf (fun h2 => h ((iI_eq ha0 hb0).mpr h2)) H locs ls hP hD hS hl)
theorem j_if_eq (C : Cx p s m args c D tys A nL cc own) {off a : Int} (t q : Nat) (hdg : decode cc pc = .ok (.ifCond .eq off, 3)) (ht : (pc : Int) + off = (t : Int)) (hq : pc + 3 = q) (ha0 : (-2147483648 ≤ a ∧ a < 2147483648)) (kt : a = 0 → JJ p l e R s m args below meth c D A nL Q cells slots t lv st ws) (kf : ¬ (a = 0) → JJ p l e R s m args below meth c D A nL Q cells slots q lv st ws) : JJ p l e R s m args below meth c D A nL Q cells slots pc lv (.int (iI a) :: st) ws := by
  subst hq
  have hb0 : (-2147483648 : Int) ≤ 0 ∧ (0 : Int) < 2147483648 := by decide
  intro H locs ls hP hD hS hl
  exact lv_if_eq C.1 C.2.1 hdg ht (fun h => kt ((iI_eq (a := a) (b := 0) ha0 hb0).mp h) H locs ls hP hD hS hl) (fun h => kf (fun h2 => h ((iI_eq (a := a) (b := 0) ha0 hb0).mpr h2)) H locs ls hP hD hS hl)
theorem j_icmp_ne (C : Cx p s m args c D tys A nL cc own) {off a b : Int} (t q : Nat) (hdg : decode cc pc = .ok (.if_icmp .ne off, 3)) (ht : (pc : Int) + off = (t : Int)) (hq : pc + 3 = q) (ha0 : (-2147483648 ≤ a ∧ a < 2147483648)) (hb0 : (-2147483648 ≤ b ∧ b < 2147483648)) (kt : ¬ a = b → JJ p l e R s m args below meth c D A nL Q cells slots t lv st ws) (kf : a = b → JJ p l e R s m args below meth c D A nL Q cells slots q lv st ws) : JJ p l e R s m args below meth c D A nL Q cells slots pc lv (.int (iI b) :: .int (iI a) :: st) ws := by
  subst hq
  intro H locs ls hP hD hS hl
  exact lv_icmp_ne C.1 C.2.1 hdg ht (fun h => kt (fun h2 => h ((iI_eq ha0 hb0).mpr h2)) H locs ls hP hD hS hl) (fun h => kf ((iI_eq ha0 hb0).mp h) H locs ls hP hD hS hl)
theorem j_if_ne (C : Cx p s m args c D tys A nL cc own) {off a : Int} (t q : Nat) (hdg : decode cc pc = .ok (.ifCond .ne off, 3)) (ht : (pc : Int) + off = (t : Int)) (hq : pc + 3 = q) (ha0 : (-2147483648 ≤ a ∧ a < 2147483648)) (kt : ¬ a = 0 → JJ p l e R s m args below meth c D A nL Q cells slots t lv st ws) (kf : a = 0 → JJ p l e R s m args below meth c D A nL Q cells slots q lv st ws) : JJ p l e R s m args below meth c D A nL Q cells slots pc lv (.int (iI a) :: st) ws := by
  subst hq
  have hb0 : (-2147483648 : Int) ≤ 0 ∧ (0 : Int) < 2147483648 := by decide
  intro H locs ls hP hD hS hl
  exact lv_if_ne C.1 C.2.1 hdg ht (fun h => kt (fun h2 => h ((iI_eq (a := a) (b := 0) ha0 hb0).mpr h2)) H locs ls hP hD hS hl) (fun h => kf ((iI_eq (a := a) (b := 0) ha0 hb0).mp h) H locs ls hP hD hS hl)
theorem j_icmp_lt (C : Cx p s m args c D tys A nL cc own) {off a b : Int} (t q : Nat) (hdg : decode cc pc = .ok (.if_icmp .lt off, 3)) (ht : (pc : Int) + off = (t : Int)) (hq : pc + 3 = q) (ha0 : (-2147483648 ≤ a ∧ a < 2147483648)) (hb0 : (-2147483648 ≤ b ∧ b < 2147483648)) (kt : a < b → JJ p l e R s m args below meth c D A nL Q cells slots t lv st ws) (kf : ¬ (a < b) → JJ p l e R s m args below meth c D A nL Q cells slots q lv st ws) : JJ p l e R s m args below meth c D A nL Q cells slots pc lv (.int (iI b) :: .int (iI a) :: st) ws := by
  subst hq
  intro H locs ls hP hD hS hl
  exact lv_icmp_lt C.1 C.2.1 hdg ht (fun h => kt ((iI_lt ha0 hb0).mp h) H locs ls hP hD hS hl) (fun h => kf (fun h2 => h ((iI_lt ha0 hb0).mpr h2)) H locs ls hP hD hS hl)
theorem j_if_lt (C : Cx p s m args c D tys A nL cc own) {off a : Int} (t q : Nat) (hdg : decode cc pc = .ok (.ifCond .lt off, 3)) (ht : (pc : Int) + off = (t : Int)) (hq : pc + 3 = q) (ha0 : (-2147483648 ≤ a ∧ a < 2147483648)) (kt : a < 0 → JJ p l e R s m args below meth c D A nL Q cells slots t lv st ws) (kf : ¬ (a < 0) → JJ p l e R s m args below meth c D A nL Q cells slots q lv st ws) : JJ p l e R s m args below meth c D A nL Q cells slots pc lv (.int (iI a) :: st) ws := by
  subst hq
  have hb0 : (-2147483648 : Int) ≤ 0 ∧ (0 : Int) < 2147483648 := by decide
  intro H locs ls hP hD hS hl
  exact lv_if_lt C.1 C.2.1 hdg ht (fun h => kt ((iI_lt (a := a) (b := 0) ha0 hb0).mp h) H locs ls hP hD hS hl) (fun h => kf (fun h2 => h ((iI_lt (a := a) (b := 0) ha0 hb0).mpr h2)) H locs ls hP hD hS hl)
theorem j_icmp_ge (C : Cx p s m args c D tys A nL cc own) {off a b : Int} (t q : Nat) (hdg : decode cc pc = .ok (.if_icmp .ge off, 3)) (ht : (pc : Int) + off = (t : Int)) (hq : pc + 3 = q) (ha0 : (-2147483648 ≤ a ∧ a < 2147483648)) (hb0 : (-2147483648 ≤ b ∧ b < 2147483648)) (kt : b ≤ a → JJ p l e R s m args below meth c D A nL Q cells slots t lv st ws) (kf : ¬ (b ≤ a) → JJ p l e R s m args below meth c D A nL Q cells slots q lv st ws) : JJ p l e R s m args below meth c D A nL Q cells slots pc lv (.int (iI b) :: .int (iI a) :: st) ws := by
  subst hq
  intro H locs ls hP hD hS hl
  exact lv_icmp_ge C.1 C.2.1 hdg ht (fun h => kt ((iI_le hb0 ha0).mp h) H locs ls hP hD hS hl) (fun h => kf (fun h2 => h ((iI_le hb0 ha0).mpr h2)) H locs ls hP hD hS hl)
theorem j_if_ge (C : Cx p s m args c D tys A nL cc own) {off a : Int} (t q : Nat) (hdg : decode cc pc = .ok (.ifCond .ge off, 3)) (ht : (pc : Int) + off = (t : Int)) (hq : pc + 3 = q) (ha0 : (-2147483648 ≤ a ∧ a < 2147483648)) (kt : 0 ≤ a → JJ p l e R s m args below meth c D A nL Q cells slots t lv st ws) (kf : ¬ (0 ≤ a) → JJ p l e R s m args below meth c D A nL Q cells slots q lv st ws) : JJ p l e R s m args below meth c D A nL Q cells slots pc lv (.int (iI a) :: st) ws := by
  subst hq
  have hb0 : (-2147483648 : Int) ≤ 0 ∧ (0 : Int) < 2147483648 := by decide
  intro H locs ls hP hD hS hl
  exact lv_if_ge C.1 C.2.1 hdg ht (fun h => kt ((iI_le (a := 0) (b := a) hb0 ha0).mp h) H locs ls hP hD hS hl) (fun h => kf (fun h2 => h ((iI_le (a := 0) (b := a) hb0 ha0).mpr h2)) H locs ls hP hD hS hl)
theorem j_icmp_gt (C : Cx p s m args c D tys A nL cc own) {off a b : Int} (t q : Nat) (hdg : decode cc pc = .ok (.if_icmp .gt off, 3)) (ht : (pc : Int) + off = (t : Int)) (hq : pc + 3 = q) (ha0 : (-2147483648 ≤ a ∧ a < 2147483648)) (hb0 : (-2147483648 ≤ b ∧ b < 2147483648)) (kt : b < a → JJ p l e R s m args below meth c D A nL Q cells slots t lv st ws) (kf : ¬ (b < a) → JJ p l e R s m args below meth c D A nL Q cells slots q lv st ws) : JJ p l e R s m args below meth c D A nL Q cells slots pc lv (.int (iI b) :: .int (iI a) :: st) ws := by
  subst hq
  intro H locs ls hP hD hS hl
  exact lv_icmp_gt C.1 C.2.1 hdg ht (fun h => kt ((iI_lt hb0 ha0).mp h) H locs ls hP hD hS hl) (fun h => kf (fun h2 => h ((iI_lt hb0 ha0).mpr h2)) H locs ls hP hD hS hl)
theorem j_if_gt (C : Cx p s m args c D tys A nL cc own) {off a : Int} (t q : Nat) (hdg : decode cc pc = .ok (.ifCond .gt off, 3)) (ht : (pc : Int) + off = (t : Int)) (hq : pc + 3 = q) (ha0 : (-2147483648 ≤ a ∧ a < 2147483648)) (kt : 0 < a → JJ p l e R s m args below meth c D A nL Q cells slots t lv st ws) (kf : ¬ (0 < a) → JJ p l e R s m args below meth c D A nL Q cells slots q lv st ws) : JJ p l e R s m args below meth c D A nL Q cells slots pc lv (.int (iI a) :: st) ws := by
  subst hq
  have hb0 : (-2147483648 : Int) ≤ 0 ∧ (0 : Int) < 2147483648 := by decide
  intro H locs ls hP hD hS hl
  exact lv_if_gt C.1 C.2.1 hdg ht (fun h => kt ((iI_lt (a := 0) (b := a) hb0 ha0).mp h) H locs ls hP hD hS hl) (fun h => kf (fun h2 => h ((iI_lt (a := 0) (b := a) hb0 ha0).mpr h2)) H locs ls hP hD hS hl)
theorem j_icmp_le (C : Cx p s m args c D tys A nL cc own) {off a b : Int} (t q : Nat) (hdg : decode cc pc = .ok (.if_icmp .le off, 3)) (ht : (pc : Int) + off = (t : Int)) (hq : pc + 3 = q) (ha0 : (-2147483648 ≤ a ∧ a < 2147483648)) (hb0 : (-2147483648 ≤ b ∧ b < 2147483648)) (kt : a ≤ b → JJ p l e R s m args below meth c D A nL Q cells slots t lv st ws) (kf : ¬ (a ≤ b) → JJ p l e R s m args below meth c D A nL Q cells slots q lv st ws) : JJ p l e R s m args below meth c D A nL Q cells slots pc lv (.int (iI b) :: .int (iI a) :: st) ws := by
  subst hq
  intro H locs ls hP hD hS hl
  exact lv_icmp_le C.1 C.2.1 hdg ht (fun h => kt ((iI_le ha0 hb0).mp h) H locs ls hP hD hS hl) (fun h => kf (fun h2 => h ((iI_le ha0 hb0).mpr h2)) H locs ls hP hD hS hl)
theorem j_if_le (C : Cx p s m args c D tys A nL cc own) {off a : Int} (t q : Nat) (hdg : decode cc pc = .ok (.ifCond .le off, 3)) (ht : (pc : Int) + off = (t : Int)) (hq : pc + 3 = q) (ha0 : (-2147483648 ≤ a ∧ a < 2147483648)) (kt : a ≤ 0 → JJ p l e R s m args below meth c D A nL Q cells slots t lv st ws) (kf : ¬ (a ≤ 0) → JJ p l e R s m args below meth c D A nL Q cells slots q lv st ws) : JJ p l e R s m args below meth c D A nL Q cells slots pc lv (.int (iI a) :: st) ws := by
  subst hq
  have hb0 : (-2147483648 : Int) ≤ 0 ∧ (0 : Int) < 2147483648 := by decide
  intro H locs ls hP hD hS hl
  exact lv_if_le C.1 C.2.1 hdg ht (fun h => kt ((iI_le (a := a) (b := 0) ha0 hb0).mp h) H locs ls hP hD hS hl) (fun h => kf (fun h2 => h ((iI_le (a := a) (b := 0) ha0 hb0).mpr h2)) H locs ls hP hD hS hl)
theorem j_lcmp (C : Cx p s m args c D tys A nL cc own) {q : Nat} {a b : Int} (ha0 : -9223372036854775808 ≤ a ∧ a < 9223372036854775808) (hb0 : -9223372036854775808 ≤ b ∧ b < 9223372036854775808) (hdg : decode cc pc = .ok (.lcmp, 1)) (hq : pc + 1 = q) (k : JJ p l e R s m args below meth c D A nL Q cells slots q lv (.int (iI (if b < a then 1 else if a = b then 0 else -1)) :: st) ws) : JJ p l e R s m args below meth c D A nL Q cells slots pc lv (.long (lI b) :: .long (lI a) :: st) ws := by
  subst hq
  intro H locs ls hP hD hS hl
  refine W.lcmp C.1 C.2.1 hdg ?_
  have e : lg_cmp (lI a) (lI b) = iI (if b < a then 1 else if a = b then 0 else -1) := by
    unfold lg_cmp
    have h1 : lI a > lI b ↔ b < a := lI_lt hb0 ha0
    have h2 : lI a = lI b ↔ a = b := ⟨fun h => by have := congrArg Int64.toInt h; rwa [lI_toInt ha0, lI_toInt hb0] at this, fun h => by rw [h]⟩
    by_cases c1 : b < a
    · rw [if_pos (h1.mpr c1), if_pos c1]; rfl
    · rw [if_neg (fun h => c1 (h1.mp h)), if_neg c1]
      by_cases c2 : a = b
      · rw [if_pos (h2.mpr c2), if_pos c2]; rfl
      · rw [if_neg (fun h => c2 (h2.mp h)), if_neg c2]; rfl
  rw [e]
  exact (k H locs ls hP hD hS hl)
theorem j_get (C : Cx p s m args c D tys A nL cc own) {CC : String} {T : u_T} {N ci index a q : Nat} {fs : List Value} {v : Value} (hin : ∀ w ∈ u_ws CC T N, w ∈ wtb) (hc : cls[ci]? = some (CC, T, N)) (q0 : Nat) (he : ws[q0]? = some (a, .inr (ci, fs))) (k0 : Nat) (hk : k0 < N) (hv : fs[k0]? = some v) (ht : (T k0).1 = CC) (hlink : Cond.fieldLink own index CC (T k0).2.1 (T k0).2.2.1 ∈ wtb) (hdg : decode cc pc = .ok (.getfield index, 3)) (hq : pc + 3 = q) (k : JJ p l e R s m args below meth c D A nL Q cells slots q lv (v :: st) ws) : JJ p l e R s m args below meth c D A nL Q cells slots pc lv (.ref a :: st) ws := by
  subst hq
  intro H locs ls hP hD hS hl
  exact va_get C.1 C.2.1 C.2.2.2.2.1 hin C.2.2.2.1 C.2.2.2.2.2.1 hP q0 he hc k0 hk (C.2.2.2.2.1 _ hlink) (fun _ h => by rw [ht] at h; exact h) hv hdg (k H locs ls hP hD hS hl)
theorem j_put (C : Cx p s m args c D tys A nL cc own) {CC : String} {T : u_T} {N ci index a q : Nat} {fs : List Value} {v : Value} {ty : FieldType} (hin : ∀ w ∈ u_ws CC T N, w ∈ wtb) (hc : cls[ci]? = some (CC, T, N)) (ty0 : Nat → FieldType) (hty : ∀ k, k < N → parseFieldDescriptor (T k).2.2.1 = some (ty0 k)) (hnm : ∀ a, a < N → ∀ b, b < N → a ≠ b → (T a).2.1 ≠ (T b).2.1) (q0 : Nat) (he : ws[q0]? = some (a, .inr (ci, fs))) (k0 : Nat) (hk : k0 < N) (ht : (T k0).1 = CC) (hlink : Cond.fieldLink own index CC (T k0).2.1 (T k0).2.2.1 ∈ wtb) (hfin : (T k0).2.2.2 = false) (hd : parseFieldDescriptor (T k0).2.2.1 = some ty) (hn : narrow ty v = v) (hfit : fits ty v = true) (hl0 : k0 < fs.length) (ws' : va_W) (hws : ws.set q0 (a, .inr (ci, fs.set k0 v)) = ws') (hdg : decode cc pc = .ok (.putfield index, 3)) (hq : pc + 3 = q) (k : JJ p l e R s m args below meth c D A nL Q cells slots q lv st ws') : JJ p l e R s m args below meth c D A nL Q cells slots pc lv (v :: .ref a :: st) ws := by
  subst hq
  subst hws
  intro H locs ls hP hD hS hl
  exact va_put C.1 C.2.1 C.2.2.2.2.1 hin ty0 hty hnm C.2.2.2.1 C.2.2.2.2.2.1 hP hD hS q0 he hc k0 hk (C.2.2.2.2.1 _ hlink) (fun _ h => by rw [ht] at h; exact h) hfin hd hn hfit hl0 hdg (fun H1 locs1 hP1 hD1 hS1 => k H1 locs1 ls hP1 hD1 hS1 hl)
theorem j_putF (C : Cx p s m args c D tys A nL cc own) {CC : String} {T : u_T} {N ci index a q : Nat} {fs : List Value} {v : Value} {ty : FieldType} (hin : ∀ w ∈ u_ws CC T N, w ∈ wtb) (hc : cls[ci]? = some (CC, T, N)) (ty0 : Nat → FieldType) (hty : ∀ k, k < N → parseFieldDescriptor (T k).2.2.1 = some (ty0 k)) (hnm : ∀ a, a < N → ∀ b, b < N → a ≠ b → (T a).2.1 ≠ (T b).2.1) (hi2 : meth.name = "<init>") (q0 : Nat) (he : ws[q0]? = some (a, .inr (ci, fs))) (k0 : Nat) (hk : k0 < N) (ht : (T k0).1 = CC) (hco : CC = own) (hlink : Cond.fieldLink own index CC (T k0).2.1 (T k0).2.2.1 ∈ wtb) (hfin : (T k0).2.2.2 = true) (hd : parseFieldDescriptor (T k0).2.2.1 = some ty) (hn : narrow ty v = v) (hfit : fits ty v = true) (hl0 : k0 < fs.length) (ws' : va_W) (hws : ws.set q0 (a, .inr (ci, fs.set k0 v)) = ws') (hdg : decode cc pc = .ok (.putfield index, 3)) (hq : pc + 3 = q) (k : JJ p l e R s m args below meth c D A nL Q cells slots q lv st ws') : JJ p l e R s m args below meth c D A nL Q cells slots pc lv (v :: .ref a :: st) ws := by
  subst hq
  subst hws
  intro H locs ls hP hD hS hl
  exact va_putF C.1 C.2.1 C.2.2.2.2.1 hin ty0 hty hnm C.2.2.2.1 C.2.2.2.2.2.1 hP hD hS q0 he hc k0 hk (C.2.2.2.2.1 _ hlink) (fun _ h => by rw [ht] at h; exact h) hfin hi2 (ht.trans hco) hd hn hfit hl0 hdg (fun H1 locs1 hP1 hD1 hS1 => k H1 locs1 ls hP1 hD1 hS1 hl)
theorem j_iald (C : Cx p s m args c D tys A nL cc own) {q a n : Nat} {cA : ClassId} {f : Nat → Int} {z : Int} (q0 t0 : Nat) (ha : ws[q0]? = some (a, aI cA n f)) (ht : tys[t0]? = some (cA, .int)) (hn : n < 2147483648) (hz : 0 ≤ z ∧ z < (n : Int)) (hdg : decode cc pc = .ok (.iaload, 1)) (hq : pc + 1 = q) (k : JJ p l e R s m args below meth c D A nL Q cells slots q lv (.int (iI (f z.toNat)) :: st) ws) : JJ p l e R s m args below meth c D A nL Q cells slots pc lv (.int (iI z) :: .ref a :: st) ws := by
  subst hq
  intro H locs ls hP hD hS hl
  refine va_iald C.1 C.2.1 C.2.2.2.2.2.1 hP q0 t0 ha ht (iI_in hz hn) hdg ?_
  rw [iI_clamp (by omega)]
  exact (k H locs ls hP hD hS hl)
theorem j_zald (C : Cx p s m args c D tys A nL cc own) {q a n : Nat} {cA : ClassId} {f : Nat → Int} {z : Int} (q0 t0 : Nat) (ha : ws[q0]? = some (a, aI cA n f)) (ht : tys[t0]? = some (cA, .boolean)) (hn : n < 2147483648) (hz : 0 ≤ z ∧ z < (n : Int)) (hdg : decode cc pc = .ok (.baload, 1)) (hq : pc + 1 = q) (k : JJ p l e R s m args below meth c D A nL Q cells slots q lv (.int (iI (f z.toNat)) :: st) ws) : JJ p l e R s m args below meth c D A nL Q cells slots pc lv (.int (iI z) :: .ref a :: st) ws := by
  subst hq
  intro H locs ls hP hD hS hl
  refine va_zald C.1 C.2.1 C.2.2.2.2.2.1 hP q0 t0 ha ht (iI_in hz hn) hdg ?_
  rw [iI_clamp (by omega)]
  exact (k H locs ls hP hD hS hl)
theorem j_iast (C : Cx p s m args c D tys A nL cc own) {q a n : Nat} {cA : ClassId} {f : Nat → Int} {z x : Int} (q0 t0 : Nat) (ha : ws[q0]? = some (a, aI cA n f)) (ht : tys[t0]? = some (cA, .int)) (hn : n < 2147483648) (hz : 0 ≤ z ∧ z < (n : Int)) (ws' : va_W) (hws : ws.set q0 (a, aI cA n (uI f z.toNat x)) = ws') (hdg : decode cc pc = .ok (.iastore, 1)) (hq : pc + 1 = q) (k : JJ p l e R s m args below meth c D A nL Q cells slots q lv st ws') : JJ p l e R s m args below meth c D A nL Q cells slots pc lv (.int (iI x) :: .int (iI z) :: .ref a :: st) ws := by
  subst hq
  subst hws
  intro H locs ls hP hD hS hl
  refine va_iast C.1 C.2.1 C.2.2.2.2.2.1 hP hD hS q0 t0 ha ht (iI_in hz hn) hdg ?_
  rw [iI_clamp (by omega), uI_upd]
  exact fun H1 locs1 hP1 hD1 hS1 => k H1 locs1 ls hP1 hD1 hS1 hl
theorem nar_b (x : Int) (hx : x = 0 ∨ x = 1) : vp_nar .boolean (iI x) = iI x := by
  rcases hx with rfl | rfl <;> rfl
theorem j_zast (C : Cx p s m args c D tys A nL cc own) {q a n : Nat} {cA : ClassId} {f : Nat → Int} {z x : Int} (q0 t0 : Nat) (ha : ws[q0]? = some (a, aI cA n f)) (ht : tys[t0]? = some (cA, .boolean)) (hn : n < 2147483648) (hz : 0 ≤ z ∧ z < (n : Int)) (hx : x = 0 ∨ x = 1) (ws' : va_W) (hws : ws.set q0 (a, aI cA n (uI f z.toNat x)) = ws') (hdg : decode cc pc = .ok (.bastore, 1)) (hq : pc + 1 = q) (k : JJ p l e R s m args below meth c D A nL Q cells slots q lv st ws') : JJ p l e R s m args below meth c D A nL Q cells slots pc lv (.int (iI x) :: .int (iI z) :: .ref a :: st) ws := by
  subst hq
  subst hws
  intro H locs ls hP hD hS hl
  refine va_zast C.1 C.2.1 C.2.2.2.2.2.1 hP hD hS q0 t0 ha ht (iI_in hz hn) hdg ?_
  rw [iI_clamp (by omega), nar_b x hx, uI_upd]
  exact fun H1 locs1 hP1 hD1 hS1 => k H1 locs1 ls hP1 hD1 hS1 hl
theorem j_alen (C : Cx p s m args c D tys A nL cc own) {q a n : Nat} {cA : ClassId} {f : Nat → Int} {ty : FieldType} (q0 t0 : Nat) (ha : ws[q0]? = some (a, aI cA n f)) (ht : tys[t0]? = some (cA, ty)) (hdg : decode cc pc = .ok (.arraylength, 1)) (hq : pc + 1 = q) (k : JJ p l e R s m args below meth c D A nL Q cells slots q lv (.int (iI (n : Int)) :: st) ws) : JJ p l e R s m args below meth c D A nL Q cells slots pc lv (.ref a :: st) ws := by
  subst hq
  intro H locs ls hP hD hS hl
  exact va_alen C.1 C.2.1 C.2.2.2.2.2.1 hP q0 t0 ha ht (iI_nat n) hdg (k H locs ls hP hD hS hl)
end JR
end
section
/-! CONTRACTS: on these values and in this world the method answers v and leaves the world w1 -/
def QD (D : va_G) (v : Option Value) (w1 : va_W) (A : Nat → Prop) : Array Value → State → Outcome → State → Prop := fun _ st oc t => (oc = .returned v ∧ va_P D cls w1 t.heap ∧ va_D A w1) ∧ va_F A st t
def PD (D : va_G) (tys : List (ClassId × FieldType)) (sz : Nat) (av : List Value) (w0 : va_W) : Array Value → State → Prop := va_Pc av (fun U => U.heap.size = sz ∧ va_P D cls w0 U.heap ∧ va_K D cls tys U ∧ va_D (fun _ => True) w0 ∧ NN U)
def Dt (l : Launch) (D : va_G) (tys : List (ClassId × FieldType)) (y : MethodName) (wds : List Cond) (rm : Room) (av : List Value) (w0 : va_W) (v : Option Value) (w1 : va_W) : Prop :=
  ∀ sz : Nat, Met l y wds rm (PD D tys sz av w0) (QD D v w1 (va_A w0 sz)) rm.cells rm.slots (va_A w0 sz)
/-- where the method makes cells: the world behind it has addresses that nobody knows -/
def QE (D : va_G) {ι : Type} (w1 : ι → va_W) (A : Nat → Prop) : Array Value → State → Outcome → State → Prop := fun _ st oc t => (∃ i : ι, oc = .returned none ∧ va_P D cls (w1 i) t.heap ∧ va_D A (w1 i)) ∧ va_F A st t
def De (l : Launch) (D : va_G) (tys : List (ClassId × FieldType)) (y : MethodName) (wds : List Cond) (rm : Room) (av : List Value) (w0 : va_W) {ι : Type} (w1 : ι → va_W) : Prop :=
  ∀ sz : Nat, Met l y wds rm (PD D tys sz av w0) (QE D w1 (va_A w0 sz)) rm.cells rm.slots (va_A w0 sz)
theorem PD.blind {D : va_G} {tys : List (ClassId × FieldType)} {sz : Nat} {av : List Value} {w0 : va_W} : FrameBlind (PD D tys sz av w0) := by
  intro a U g mk q
  obtain ⟨q0, q1, qP, qK, qD, qN⟩ := q
  exact ⟨q0, q1, qP, va_K.moved (u := U) (U := U.calling g mk a) (Vm.Alike.refl U.vm) qK, qD, NN.same (U := U.calling g mk a) rfl qN⟩
theorem Met.toJ {l : Launch} {D : va_G} {tys : List (ClassId × FieldType)} {y : MethodName} {rm : Room} {av : List Value} {w0 : va_W} {cc : ByteArray} {maxL n : Nat} {ret : Option FieldType} {own : String} (Qc : (Nat → Prop) → Array Value → State → Outcome → State → Prop)
    (hk : Mk y cc maxL ret n) (ho : y.cls = own) (hlen : (lg_sl av).length ≤ maxL)
    (body : ∀ (p : Program) (e : Env) (s : State) (m : MethodId) (args : Array Value) (below : List Frame) (meth : Method) (c : Code) (A : Nat → Prop), Cx p s m args c D tys A maxL cc own → meth.sig.returnType = ret → meth.locks = false → meth.name = y.name →
      JJ p l e rm s m args below meth c D A maxL (MQ below (Qc A) args s rm.cells rm.slots A) 0 0 0 (lv_args 0 av) [] w0) :
    ∀ sz : Nat, Met l y (Cond.code y cc maxL ret :: wtb) rm (PD D tys sz av w0) (Qc (va_A w0 sz)) rm.cells rm.slots (va_A w0 sz) := by
  intro sz
  refine va_MetF (cc := cc) (maxL := maxL) (ret := ret) hk.2.2.2.2.2 rfl ?_
  intro p e s m args below meth c s₁ B hml hv
  obtain ⟨rfl, hsz, hP, hK, hD0, hN⟩ := hv
  have hts := atoms_spec (ws := Cond.code y cc maxL ret :: wtb) B.pre
  have hown : s.vm.findClass own = some m.cls := by rw [← ho]; exact findClass_of_methodNamed B.named
  have hlocks := B.notSynchronized
  have hin : meth.name = y.name := (name_of_methodNamed B.named B.method).1
  subst hsz
  have hD := hD0.self (sz := s.heap.size)
  have hl := lv_entry av (n := maxL) hlen
  rw [lg_entry_eq]
  exact body p e s m _ below meth c (va_A w0 s.heap.size) ⟨B.exec, B.bytes, hml, hown, fun w h => hts w (List.mem_cons_of_mem _ h), hK, fun q h => Or.inr h, hN⟩ B.returns hlocks hin s.heap [] _ hP hD va_S.rf hl
section JC
variable {p : Program} {l : Launch} {e : Env} {R : Room} {s : State} {m : MethodId} {args : Array Value} {below : List Frame} {meth : Method} {c : Code} {D : va_G} {tys : List (ClassId × FieldType)} {A : Nat → Prop} {nL : Nat} {Q : State → Prop} {cells slots pc : Nat} {lv : List (Nat × Value)} {st : List Value} {ws : va_W} {cc : ByteArray} {own : String}
theorem j_widen {k n : Nat} (h1 : cells ≤ k) (h2 : slots ≤ n) (h : JJ p l e R s m args below meth c D A nL Q k n pc lv st ws) : JJ p l e R s m args below meth c D A nL Q cells slots pc lv st ws :=
  fun H locs ls hP hD hS hl => W.widen h1 h2 (h H locs ls hP hD hS hl)
/-- fewer locals -/
theorem j_lv {lv' : List (Nat × Value)} (is : List Nat) (h0 : lv_pick lv is = lv') (h : JJ p l e R s m args below meth c D A nL Q cells slots pc lv' st ws) : JJ p l e R s m args below meth c D A nL Q cells slots pc lv st ws :=
  fun H locs ls hP hD hS hl => h H locs ls hP hD hS (lv_sub hl is h0)
theorem j_iret (C : Cx p s m args c D tys A nL cc own) (hr : meth.sig.returnType = some .int) (hlk : meth.locks = false) {v : Option Value} {w1 : va_W} {x : Int32} (hdg : decode cc pc = .ok (.ireturn, 1)) (hv : v = some (.int x)) (hw : ws = w1) : JJ p l e R s m args below meth c D A nL (MQ below (QD D v w1 A) args s cells slots A) cells slots pc lv [.int x] ws := by
  subst hv
  subst hw
  intro H locs ls hP hD hS hl
  exact W.iret C.1 C.2.1 hr (fun t ht hW => ⟨⟨rfl, by rw [ht]; exact hP, hD⟩, hS.F ht⟩) hS.2.2 hdg hlk
theorem j_zret (C : Cx p s m args c D tys A nL cc own) (hr : meth.sig.returnType = some .boolean) (hlk : meth.locks = false) {v : Option Value} {w1 : va_W} {x : Int} (hx : x = 0 ∨ x = 1) (hdg : decode cc pc = .ok (.ireturn, 1)) (hv : v = some (.int (iI x))) (hw : ws = w1) : JJ p l e R s m args below meth c D A nL (MQ below (QD D v w1 A) args s cells slots A) cells slots pc lv [.int (iI x)] ws := by
  subst hv
  subst hw
  intro H locs ls hP hD hS hl
  exact W.zret (ty := .boolean) C.1 C.2.1 hr (by rcases hx with rfl | rfl <;> rfl) (fun t ht hW => ⟨⟨rfl, by rw [ht]; exact hP, hD⟩, hS.F ht⟩) hS.2.2 hdg hlk
theorem j_lret (C : Cx p s m args c D tys A nL cc own) (hr : meth.sig.returnType = some .long) (hlk : meth.locks = false) {v : Option Value} {w1 : va_W} {x : Int64} (hdg : decode cc pc = .ok (.lreturn, 1)) (hv : v = some (.long x)) (hw : ws = w1) : JJ p l e R s m args below meth c D A nL (MQ below (QD D v w1 A) args s cells slots A) cells slots pc lv [.long x] ws := by
  subst hv
  subst hw
  intro H locs ls hP hD hS hl
  exact W.lret C.1 C.2.1 hr (fun t ht hW => ⟨⟨rfl, by rw [ht]; exact hP, hD⟩, hS.F ht⟩) hS.2.2 hdg hlk
theorem j_vret (C : Cx p s m args c D tys A nL cc own) (hr : meth.sig.returnType = none) (hlk : meth.locks = false) {w1 : va_W} (hdg : decode cc pc = .ok (.return_, 1)) (hw : ws = w1) : JJ p l e R s m args below meth c D A nL (MQ below (QD D none w1 A) args s cells slots A) cells slots pc lv [] ws := by
  subst hw
  intro H locs ls hP hD hS hl
  exact W.vret C.1 C.2.1 hr (fun t ht hW => ⟨⟨rfl, by rw [ht]; exact hP, hD⟩, hS.F ht⟩) hS.2.2 hdg hlk
theorem j_eret (C : Cx p s m args c D tys A nL cc own) (hr : meth.sig.returnType = none) (hlk : meth.locks = false) {ι : Type} {w1 : ι → va_W} (i : ι) (hdg : decode cc pc = .ok (.return_, 1)) (hw : ws = w1 i) : JJ p l e R s m args below meth c D A nL (MQ below (QE D w1 A) args s cells slots A) cells slots pc lv [] ws := by
  subst hw
  intro H locs ls hP hD hS hl
  exact W.vret C.1 C.2.1 hr (fun t ht hW => ⟨⟨i, rfl, by rw [ht]; exact hP, hD⟩, hS.F ht⟩) hS.2.2 hdg hlk
/-- behind a call: what came back beside what stayed -/
theorem j_back (C : Cx p s m args c D tys A nL cc own) {H : Heap} {locs : List Loc} {ls : Array Slot} {mc ms q : Nat} {st0 rest st' : List Value} {wc wr w1 : va_W} {v : Option Value} {a : Array Value}
    (hP : va_P D cls ws H) (hD : va_D A ws) (hS : va_S A s.heap H locs) (hl : lv_has ls nL lv)
    (hr : va_Run p l e R s m args below meth c H locs cells slots mc ms (F0 m pc ls st0) rest (QD D v w1 (va_A wc H.size) a) (va_A wc H.size))
    (isC isR is : List Nat) (hC : isC.map (fun i => ws[i]?) = wc.map some) (hR : isR.map (fun i => ws[i]?) = wr.map some) (hn : va_nd isR = true) (hdis : ∀ i ∈ isR, i ∉ isC)
    (ws' : va_W) (h1 : is.map (fun i => (wr ++ w1)[i]?) = ws'.map some) (h2 : va_nd is = true) (hq : pc + 3 = q) (hst : v.toList ++ rest = st')
    (k : JJ p l e R s m args below meth c D A nL Q (cells + mc) (slots + ms) q lv st' ws') : W p l e R s m args below meth c H locs cells slots Q (F0 m pc ls st0) := by
  subst hq
  subst hst
  have hF := va_free (wc := wc) hD hS C.2.2.2.2.2.2.1 isC hC
  intro T hT X
  obtain ⟨v', st₀, t, T', L, h0, X', hL, e1, e2, ⟨⟨hv, hP1, hD1⟩, hz, hk⟩, stp⟩ := hr T hT X
  cases hv
  rw [h0] at hz hk
  rw [← e1] at hP1 hz hk
  obtain ⟨hPj, hDj⟩ := va_join hP hD isC isR hC hR hn hdis hk hF hP1 hD1
  have hPs : va_P D cls ws' T'.heap := by
    intro j qq hj
    have hh : (is.map (fun i => (wr ++ w1)[i]?))[j]? = some (some qq) := by rw [h1]; simp [hj]
    rw [List.getElem?_map] at hh
    cases hi : is[j]? with
    | none => rw [hi] at hh; cases hh
    | some i =>
      rw [hi] at hh
      exact hPj i qq (Option.some.inj hh)
  have hDs : va_D A ws' := hDj.sub is h2 h1
  obtain ⟨t2, a1, b1⟩ := k T'.heap (locs ++ L) ls hPs hDs ⟨Nat.le_trans hS.1 hz, fun q h1 h2 => by rw [hk q (Nat.lt_of_lt_of_le h1 hS.1) (fun z => h2 (hF q z))]; exact hS.2.1 q h1 h2, fun q hq => by
      rcases List.mem_append.mp hq with h | h
      · exact hS.2.2 q h
      · exact hF _ (hL q h)⟩ hl T' rfl X'
  exact ⟨t2, stp t2 a1, b1⟩
theorem j_pre (C : Cx p s m args c D tys A nL cc own) {H : Heap} {wc : va_W} (hP : va_P D cls ws H) (hD : va_D A ws) (isC : List Nat) (hC : isC.map (fun i => ws[i]?) = wc.map some) (hnC : va_nd isC = true) (av : List Value) : va_P D cls wc H ∧ ∀ U : State, U.heap = H → s.WarmedH U.vm → PD D tys H.size av wc av.toArray U := by
  have hPc : va_P D cls wc H := by
    intro j qq hj
    have hh : (isC.map (fun i => ws[i]?))[j]? = some (some qq) := by rw [hC]; simp [hj]
    rw [List.getElem?_map] at hh
    cases hi : isC[j]? with
    | none => rw [hi] at hh; cases hh
    | some i =>
      rw [hi] at hh
      exact hP i qq (Option.some.inj hh)
  have hDc : va_D A wc := hD.sub isC hnC hC
  exact ⟨hPc, fun U hU hW => ⟨rfl, by rw [hU], by rw [hU]; exact hPc, va_K.moved hW.alike C.2.2.2.2.2.1, hDc.weaken (fun _ _ _ _ => trivial), NN.warm hW C.2.2.2.2.2.2.2⟩⟩
theorem gV {own CC : String} {index mL n : Nat} {y : MethodName} {b : ByteArray} {ret : Option FieldType} (hm : Cond.methodLink own index y ∈ wtb) (hk : Mk y b mL ret n) (hi : Cond.instanceMethod y ∈ wtb) (hs : Cond.selects CC y y ∈ wtb) (hc : y.cls = CC) : GoodIn wtb (wsV own index CC y (Cond.code y b mL ret :: wtb)) := by
  subst hc
  intro w hw
  unfold wsV at hw
  rcases List.mem_append.mp hw with h | h
  · rcases List.mem_cons.mp h with h | h
    · rw [h]; exact ⟨hm, wtb_good hm⟩
    rcases List.mem_cons.mp h with h | h
    · rw [h]; exact ⟨hi, wtb_good hi⟩
    rcases List.mem_cons.mp h with h | h
    · rw [h]; exact ⟨hs, wtb_good hs⟩
    rcases List.mem_cons.mp h with h | h
    · rw [h]; exact ⟨hk.2.1, wtb_good hk.2.1⟩
    · exact absurd h List.not_mem_nil
  · exact wtb_cons hk.1 w h
theorem gS {own : String} {index mL n : Nat} {y : MethodName} {b : ByteArray} {ret : Option FieldType} (hm : Cond.methodLink own index y ∈ wtb) (hk : Mk y b mL ret n) (hs : Cond.static y ∈ wtb) : GoodIn wtb (va_wsS own index y (Cond.code y b mL ret :: wtb)) := by
  intro w hw
  unfold va_wsS at hw
  rcases List.mem_append.mp hw with h | h
  · rcases List.mem_cons.mp h with h | h
    · rw [h]; exact ⟨hm, wtb_good hm⟩
    rcases List.mem_cons.mp h with h | h
    · rw [h]; exact ⟨hs, wtb_good hs⟩
    rcases List.mem_cons.mp h with h | h
    · rw [h]; exact ⟨hk.2.1, wtb_good hk.2.1⟩
    · exact absurd h List.not_mem_nil
  · exact wtb_cons hk.1 w h
/-- invokevirtual -/
theorem j_callV (C : Cx p s m args c D tys A nL cc own) {index maxL n q : Nat} {y : MethodName} {bytes : ByteArray} {ret : Option FieldType} {rm : Room} {wc wr w1 : va_W} {v : Option Value} {CC : String} {T : u_T} {N ci b : Nat} {fs : List Value} (As rest : List Value) {st' : List Value}
    (hM : Dt l D tys y (Cond.code y bytes maxL ret :: wtb) rm (.ref b :: As) wc v w1) (hm : Cond.methodLink own index y ∈ wtb) (hk : Mk y bytes maxL ret n) (hi : Cond.instanceMethod y ∈ wtb) (hse : Cond.selects CC y y ∈ wtb) (hcc : y.cls = CC)
    (hc : cls[ci]? = some (CC, T, N)) (hwc : wc[0]? = some (b, .inr (ci, fs)))
    (isC isR is : List Nat) (hC : isC.map (fun i => ws[i]?) = wc.map some) (hnC : va_nd isC = true) (hR : isR.map (fun i => ws[i]?) = wr.map some) (hn : va_nd isR = true) (hdis : ∀ i ∈ isR, i ∉ isC)
    (ws' : va_W) (h1 : is.map (fun i => (wr ++ w1)[i]?) = ws'.map some) (h2 : va_nd is = true) (hst0 : As.reverse ++ .ref b :: rest = st) (hst : v.toList ++ rest = st') (hnn : As.length = n) (hcat : (rest.map fun v => v.category).sum ≤ 8)
    (hR0 : rm.frames + 1 ≤ R.frames ∧ 8 + (maxL + 11) + rm.locals ≤ R.locals) (hf : cells + rm.cells ≤ R.cells ∧ slots + rm.slots ≤ R.slots) (hdg : decode cc pc = .ok (.invokevirtual index, 3)) (hq : pc + 3 = q)
    (k : JJ p l e R s m args below meth c D A nL Q (cells + rm.cells) (slots + rm.slots) q lv st' ws') : JJ p l e R s m args below meth c D A nL Q cells slots pc lv st ws := by
  subst hst0
  intro H locs ls hP hD hS hl
  obtain ⟨hPc, hU⟩ := j_pre C hP hD isC hC hnC (.ref b :: As)
  exact j_back C hP hD hS hl (va_runV (As := As) (rest := rest) ⟨C.1, C.2.1, C.2.2.1, C.2.2.2.1, C.2.2.2.2.1⟩ (hM H.size) (cwV n C.2.2.2.2.1 (gV hm hk hi hse hcc) rfl rfl rfl ⟨hcc, hk.2.2.1, hk.2.2.2.1, hk.2.2.2.2.1⟩ hR0) ⟨PD.blind, va_recv C.2.2.2.2.2.1 hPc hc hwc, hU⟩ rfl hnn hl.1 rfl (lv_room hcat) hdg hf) isC isR is hC hR hn hdis ws' h1 h2 hq hst k
/-- invokestatic -/
theorem j_callS (C : Cx p s m args c D tys A nL cc own) {index maxL n q : Nat} {y : MethodName} {bytes : ByteArray} {ret : Option FieldType} {rm : Room} {wc wr w1 : va_W} {v : Option Value} (As rest : List Value) {st' : List Value}
    (hM : Dt l D tys y (Cond.code y bytes maxL ret :: wtb) rm As wc v w1) (hm : Cond.methodLink own index y ∈ wtb) (hk : Mk y bytes maxL ret n) (hs : Cond.static y ∈ wtb)
    (isC isR is : List Nat) (hC : isC.map (fun i => ws[i]?) = wc.map some) (hnC : va_nd isC = true) (hR : isR.map (fun i => ws[i]?) = wr.map some) (hn : va_nd isR = true) (hdis : ∀ i ∈ isR, i ∉ isC)
    (ws' : va_W) (h1 : is.map (fun i => (wr ++ w1)[i]?) = ws'.map some) (h2 : va_nd is = true) (hst0 : As.reverse ++ rest = st) (hst : v.toList ++ rest = st') (hnn : As.length = n) (hcat : (rest.map fun v => v.category).sum ≤ 8)
    (hR0 : rm.frames + 1 ≤ R.frames ∧ 8 + (maxL + 11) + rm.locals ≤ R.locals) (hf : cells + rm.cells ≤ R.cells ∧ slots + rm.slots ≤ R.slots) (hdg : decode cc pc = .ok (.invokestatic index, 3)) (hq : pc + 3 = q)
    (k : JJ p l e R s m args below meth c D A nL Q (cells + rm.cells) (slots + rm.slots) q lv st' ws') : JJ p l e R s m args below meth c D A nL Q cells slots pc lv st ws := by
  subst hst0
  intro H locs ls hP hD hS hl
  obtain ⟨hPc, hU⟩ := j_pre C hP hD isC hC hnC As
  exact j_back C hP hD hS hl (va_runS (As := As) (rest := rest) ⟨C.1, C.2.1, C.2.2.1, C.2.2.2.1, C.2.2.2.2.1⟩ (hM H.size) (va_cwS n C.2.2.2.2.1 (gS hm hk hs) rfl rfl rfl ⟨hk.2.2.1, hk.2.2.2.1, hk.2.2.2.2.1⟩ hR0) ⟨PD.blind, hU⟩ rfl hnn hl.1 rfl (lv_room hcat) hdg hf) isC isR is hC hR hn hdis ws' h1 h2 hq hst k
/-- invokestatic of a nest mate's private method -/
theorem j_callN (C : Cx p s m args c D tys A nL cc own) {index maxL n q : Nat} {y : MethodName} {bytes : ByteArray} {ret : Option FieldType} {rm : Room} {wc wr w1 : va_W} {v : Option Value} {host : String} (As rest : List Value) {st' : List Value} {nk : Nat}
    (hM : Dt l D tys y (Cond.code y bytes maxL ret :: wtb) rm As wc v w1) (hm : nst[nk]? = some (own, index, y, host)) (hk : Mk y bytes maxL ret n) (hs : Cond.static y ∈ wtb)
    (isC isR is : List Nat) (hC : isC.map (fun i => ws[i]?) = wc.map some) (hnC : va_nd isC = true) (hR : isR.map (fun i => ws[i]?) = wr.map some) (hn : va_nd isR = true) (hdis : ∀ i ∈ isR, i ∉ isC)
    (ws' : va_W) (h1 : is.map (fun i => (wr ++ w1)[i]?) = ws'.map some) (h2 : va_nd is = true) (hst0 : As.reverse ++ rest = st) (hst : v.toList ++ rest = st') (hnn : As.length = n) (hcat : (rest.map fun v => v.category).sum ≤ 8)
    (hR0 : rm.frames + 1 ≤ R.frames ∧ 8 + (maxL + 11) + rm.locals ≤ R.locals) (hf : cells + rm.cells ≤ R.cells ∧ slots + rm.slots ≤ R.slots) (hdg : decode cc pc = .ok (.invokestatic index, 3)) (hq : pc + 3 = q)
    (k : JJ p l e R s m args below meth c D A nL Q (cells + rm.cells) (slots + rm.slots) q lv st' ws') : JJ p l e R s m args below meth c D A nL Q cells slots pc lv st ws := by
  subst hst0
  intro H locs ls hP hD hS hl
  obtain ⟨hPc, hU⟩ := j_pre C hP hD isC hC hnC As
  exact j_back C hP hD hS hl (va_runSN (host := host) (As := As) (rest := rest) ⟨C.1, C.2.1, C.2.2.1, C.2.2.2.1, C.2.2.2.2.1⟩ (hM H.size) ⟨va_cnB n C.2.2.2.2.1 (wtb_cons hk.1) rfl rfl rfl (C.2.2.2.2.2.2.2 _ (List.mem_of_getElem? hm)) (C.2.2.2.2.1 _ hk.2.1) ⟨hk.2.2.1, hk.2.2.2.1, hk.2.2.2.2.1⟩ hR0, C.2.2.2.2.1 _ hs, trivial⟩ ⟨PD.blind, hU⟩ rfl hnn hl.1 rfl (lv_room hcat) hdg hf) isC isR is hC hR hn hdis ws' h1 h2 hq hst k
end JC
end
