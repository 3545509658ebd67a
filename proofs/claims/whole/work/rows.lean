section
-- ===== PART A: goes FIRST, ahead of the names: the tables' words, and 'selects' of the private methods out of them =====
/-- a private method of a class that the tables say can be made, by its rows of tables_1 -/
def lw_okq (q : MethodName × Nat) : Prop := (q.1.cls ≠ "java/lang/invoke/MethodHandle" ∧ q.1.cls ≠ "java/lang/invoke/VarHandle") ∧ Cond.instantiable q.1.cls q.2 ∈ tables_1 ∧ Cond.privateMethod q.1 ∈ tables_1 ∧ Cond.instanceMethod q.1 ∈ tables_1
theorem lw_p0 : lw_okq (⟨"CodedLetters$WordList", "numberOfCollected", "()I"⟩, 5) := ⟨⟨by decide +kernel, by decide +kernel⟩, List.mem_of_getElem? (i := 22) (by decide +kernel), List.mem_of_getElem? (i := 216) (by decide +kernel), List.mem_of_getElem? (i := 217) (by decide +kernel)⟩
theorem lw_p1 : lw_okq (⟨"CodedLetters$WordList", "isCollected", "(I)Z"⟩, 5) := ⟨⟨by decide +kernel, by decide +kernel⟩, List.mem_of_getElem? (i := 22) (by decide +kernel), List.mem_of_getElem? (i := 220) (by decide +kernel), List.mem_of_getElem? (i := 221) (by decide +kernel)⟩
theorem lw_p2 : lw_okq (⟨"CodedLetters$WordList", "addCollected", "()I"⟩, 5) := ⟨⟨by decide +kernel, by decide +kernel⟩, List.mem_of_getElem? (i := 22) (by decide +kernel), List.mem_of_getElem? (i := 232) (by decide +kernel), List.mem_of_getElem? (i := 233) (by decide +kernel)⟩
theorem lw_p3 : lw_okq (⟨"CodedLetters$Code", "growCodeword", "()V"⟩, 7) := ⟨⟨by decide +kernel, by decide +kernel⟩, List.mem_of_getElem? (i := 45) (by decide +kernel), List.mem_of_getElem? (i := 250) (by decide +kernel), List.mem_of_getElem? (i := 251) (by decide +kernel)⟩
theorem lw_p4 : lw_okq (⟨"CodedLetters$Search", "beginWithKept", "()Z"⟩, 11) := ⟨⟨by decide +kernel, by decide +kernel⟩, List.mem_of_getElem? (i := 103) (by decide +kernel), List.mem_of_getElem? (i := 290) (by decide +kernel), List.mem_of_getElem? (i := 291) (by decide +kernel)⟩
theorem lw_p5 : lw_okq (⟨"CodedLetters$Search", "seekFrom", "(I)V"⟩, 11) := ⟨⟨by decide +kernel, by decide +kernel⟩, List.mem_of_getElem? (i := 103) (by decide +kernel), List.mem_of_getElem? (i := 304) (by decide +kernel), List.mem_of_getElem? (i := 305) (by decide +kernel)⟩
theorem lw_p6 : lw_okq (⟨"CodedLetters$Readings", "positionOf", "([I)I"⟩, 3) := ⟨⟨by decide +kernel, by decide +kernel⟩, List.mem_of_getElem? (i := 87) (by decide +kernel), List.mem_of_getElem? (i := 316) (by decide +kernel), List.mem_of_getElem? (i := 317) (by decide +kernel)⟩
theorem lw_p7 : lw_okq (⟨"CodedLetters$Readings", "isAhead", "(I[I)Z"⟩, 3) := ⟨⟨by decide +kernel, by decide +kernel⟩, List.mem_of_getElem? (i := 87) (by decide +kernel), List.mem_of_getElem? (i := 320) (by decide +kernel), List.mem_of_getElem? (i := 321) (by decide +kernel)⟩
theorem lw_p8 : lw_okq (⟨"CodedLetters$Search", "tryWord", "(II)V"⟩, 11) := ⟨⟨by decide +kernel, by decide +kernel⟩, List.mem_of_getElem? (i := 103) (by decide +kernel), List.mem_of_getElem? (i := 334) (by decide +kernel), List.mem_of_getElem? (i := 335) (by decide +kernel)⟩
theorem lw_p9 : lw_okq (⟨"CodedLetters$Search", "agrees", "(II)Z"⟩, 11) := ⟨⟨by decide +kernel, by decide +kernel⟩, List.mem_of_getElem? (i := 103) (by decide +kernel), List.mem_of_getElem? (i := 338) (by decide +kernel), List.mem_of_getElem? (i := 339) (by decide +kernel)⟩
theorem lw_p10 : lw_okq (⟨"CodedLetters$Search", "give", "(II)Z"⟩, 11) := ⟨⟨by decide +kernel, by decide +kernel⟩, List.mem_of_getElem? (i := 103) (by decide +kernel), List.mem_of_getElem? (i := 348) (by decide +kernel), List.mem_of_getElem? (i := 349) (by decide +kernel)⟩
theorem lw_p11 : lw_okq (⟨"CodedLetters$Search", "takeBack", "(I)V"⟩, 11) := ⟨⟨by decide +kernel, by decide +kernel⟩, List.mem_of_getElem? (i := 103) (by decide +kernel), List.mem_of_getElem? (i := 353) (by decide +kernel), List.mem_of_getElem? (i := 354) (by decide +kernel)⟩
theorem lw_p12 : lw_okq (⟨"CodedLetters", "rankOfKept", "(I)J"⟩, 7) := ⟨⟨by decide +kernel, by decide +kernel⟩, List.mem_of_getElem? (i := 14) (by decide +kernel), List.mem_of_getElem? (i := 387) (by decide +kernel), List.mem_of_getElem? (i := 388) (by decide +kernel)⟩
theorem lw_p13 : lw_okq (⟨"CodedLetters", "shiftedSum", "(I)J"⟩, 7) := ⟨⟨by decide +kernel, by decide +kernel⟩, List.mem_of_getElem? (i := 14) (by decide +kernel), List.mem_of_getElem? (i := 454) (by decide +kernel), List.mem_of_getElem? (i := 455) (by decide +kernel)⟩
theorem lw_p14 : lw_okq (⟨"CodedLetters$WordBreaks", "fewestAt", "(I)I"⟩, 3) := ⟨⟨by decide +kernel, by decide +kernel⟩, List.mem_of_getElem? (i := 156) (by decide +kernel), List.mem_of_getElem? (i := 477) (by decide +kernel), List.mem_of_getElem? (i := 478) (by decide +kernel)⟩
theorem lw_p15 : lw_okq (⟨"CodedLetters$WordBreaks", "fewestBehind", "(II)I"⟩, 3) := ⟨⟨by decide +kernel, by decide +kernel⟩, List.mem_of_getElem? (i := 156) (by decide +kernel), List.mem_of_getElem? (i := 482) (by decide +kernel), List.mem_of_getElem? (i := 483) (by decide +kernel)⟩
def lw_privs_1 : List (MethodName × Nat) := [(⟨"CodedLetters$WordList", "numberOfCollected", "()I"⟩, 5), (⟨"CodedLetters$WordList", "isCollected", "(I)Z"⟩, 5), (⟨"CodedLetters$WordList", "addCollected", "()I"⟩, 5), (⟨"CodedLetters$Code", "growCodeword", "()V"⟩, 7), (⟨"CodedLetters$Search", "beginWithKept", "()Z"⟩, 11), (⟨"CodedLetters$Search", "seekFrom", "(I)V"⟩, 11), (⟨"CodedLetters$Readings", "positionOf", "([I)I"⟩, 3), (⟨"CodedLetters$Readings", "isAhead", "(I[I)Z"⟩, 3), (⟨"CodedLetters$Search", "tryWord", "(II)V"⟩, 11), (⟨"CodedLetters$Search", "agrees", "(II)Z"⟩, 11), (⟨"CodedLetters$Search", "give", "(II)Z"⟩, 11), (⟨"CodedLetters$Search", "takeBack", "(I)V"⟩, 11), (⟨"CodedLetters", "rankOfKept", "(I)J"⟩, 7), (⟨"CodedLetters", "shiftedSum", "(I)J"⟩, 7), (⟨"CodedLetters$WordBreaks", "fewestAt", "(I)I"⟩, 3), (⟨"CodedLetters$WordBreaks", "fewestBehind", "(II)I"⟩, 3)]
theorem lw_r1 : ∀ q ∈ lw_privs_1, lw_okq q := List.forall_mem_cons.mpr ⟨lw_p0, List.forall_mem_cons.mpr ⟨lw_p1, List.forall_mem_cons.mpr ⟨lw_p2, List.forall_mem_cons.mpr ⟨lw_p3, List.forall_mem_cons.mpr ⟨lw_p4, List.forall_mem_cons.mpr ⟨lw_p5, List.forall_mem_cons.mpr ⟨lw_p6, List.forall_mem_cons.mpr ⟨lw_p7, List.forall_mem_cons.mpr ⟨lw_p8, List.forall_mem_cons.mpr ⟨lw_p9, List.forall_mem_cons.mpr ⟨lw_p10, List.forall_mem_cons.mpr ⟨lw_p11, List.forall_mem_cons.mpr ⟨lw_p12, List.forall_mem_cons.mpr ⟨lw_p13, List.forall_mem_cons.mpr ⟨lw_p14, List.forall_mem_cons.mpr ⟨lw_p15, fun _ h => absurd h List.not_mem_nil⟩⟩⟩⟩⟩⟩⟩⟩⟩⟩⟩⟩⟩⟩⟩⟩
theorem lw_p16 : lw_okq (⟨"CodedLetters$WordBreaks", "leastWordAt", "(I)I"⟩, 3) := ⟨⟨by decide +kernel, by decide +kernel⟩, List.mem_of_getElem? (i := 156) (by decide +kernel), List.mem_of_getElem? (i := 498) (by decide +kernel), List.mem_of_getElem? (i := 499) (by decide +kernel)⟩
theorem lw_p17 : lw_okq (⟨"CodedLettersModel", "enter", "()I"⟩, 21) := ⟨⟨by decide +kernel, by decide +kernel⟩, List.mem_of_getElem? (i := 514) (by decide +kernel), List.mem_of_getElem? (i := 595) (by decide +kernel), List.mem_of_getElem? (i := 596) (by decide +kernel)⟩
theorem lw_p18 : lw_okq (⟨"CodedLettersModel", "isRow", "(I)Z"⟩, 21) := ⟨⟨by decide +kernel, by decide +kernel⟩, List.mem_of_getElem? (i := 514) (by decide +kernel), List.mem_of_getElem? (i := 599) (by decide +kernel), List.mem_of_getElem? (i := 600) (by decide +kernel)⟩
theorem lw_p19 : lw_okq (⟨"CodedLettersModel", "at", "(II)I"⟩, 21) := ⟨⟨by decide +kernel, by decide +kernel⟩, List.mem_of_getElem? (i := 514) (by decide +kernel), List.mem_of_getElem? (i := 603) (by decide +kernel), List.mem_of_getElem? (i := 604) (by decide +kernel)⟩
theorem lw_p20 : lw_okq (⟨"CodedLettersModel", "part", "()V"⟩, 21) := ⟨⟨by decide +kernel, by decide +kernel⟩, List.mem_of_getElem? (i := 514) (by decide +kernel), List.mem_of_getElem? (i := 623) (by decide +kernel), List.mem_of_getElem? (i := 624) (by decide +kernel)⟩
theorem lw_p21 : lw_okq (⟨"CodedLettersModel", "fits", "(I)Z"⟩, 21) := ⟨⟨by decide +kernel, by decide +kernel⟩, List.mem_of_getElem? (i := 514) (by decide +kernel), List.mem_of_getElem? (i := 632) (by decide +kernel), List.mem_of_getElem? (i := 633) (by decide +kernel)⟩
theorem lw_p22 : lw_okq (⟨"CodedLettersModel", "isIn", "(I)Z"⟩, 21) := ⟨⟨by decide +kernel, by decide +kernel⟩, List.mem_of_getElem? (i := 514) (by decide +kernel), List.mem_of_getElem? (i := 636) (by decide +kernel), List.mem_of_getElem? (i := 637) (by decide +kernel)⟩
theorem lw_p23 : lw_okq (⟨"CodedLettersModel", "tell", "(II)Z"⟩, 21) := ⟨⟨by decide +kernel, by decide +kernel⟩, List.mem_of_getElem? (i := 514) (by decide +kernel), List.mem_of_getElem? (i := 640) (by decide +kernel), List.mem_of_getElem? (i := 641) (by decide +kernel)⟩
theorem lw_p24 : lw_okq (⟨"CodedLettersModel", "enterReading", "()V"⟩, 21) := ⟨⟨by decide +kernel, by decide +kernel⟩, List.mem_of_getElem? (i := 514) (by decide +kernel), List.mem_of_getElem? (i := 644) (by decide +kernel), List.mem_of_getElem? (i := 645) (by decide +kernel)⟩
theorem lw_p25 : lw_okq (⟨"CodedLettersModel", "isAhead", "(I)Z"⟩, 21) := ⟨⟨by decide +kernel, by decide +kernel⟩, List.mem_of_getElem? (i := 514) (by decide +kernel), List.mem_of_getElem? (i := 648) (by decide +kernel), List.mem_of_getElem? (i := 649) (by decide +kernel)⟩
theorem lw_p26 : lw_okq (⟨"CodedLettersModel", "rankOf", "(I)J"⟩, 21) := ⟨⟨by decide +kernel, by decide +kernel⟩, List.mem_of_getElem? (i := 514) (by decide +kernel), List.mem_of_getElem? (i := 664) (by decide +kernel), List.mem_of_getElem? (i := 665) (by decide +kernel)⟩
theorem lw_p27 : lw_okq (⟨"CodedLettersModel", "weight", "(II)I"⟩, 21) := ⟨⟨by decide +kernel, by decide +kernel⟩, List.mem_of_getElem? (i := 514) (by decide +kernel), List.mem_of_getElem? (i := 668) (by decide +kernel), List.mem_of_getElem? (i := 669) (by decide +kernel)⟩
theorem lw_p28 : lw_okq (⟨"CodedLettersModel", "reckon", "()V"⟩, 21) := ⟨⟨by decide +kernel, by decide +kernel⟩, List.mem_of_getElem? (i := 514) (by decide +kernel), List.mem_of_getElem? (i := 703) (by decide +kernel), List.mem_of_getElem? (i := 704) (by decide +kernel)⟩
theorem lw_p29 : lw_okq (⟨"CodedLettersModel", "stands", "(II)Z"⟩, 21) := ⟨⟨by decide +kernel, by decide +kernel⟩, List.mem_of_getElem? (i := 514) (by decide +kernel), List.mem_of_getElem? (i := 707) (by decide +kernel), List.mem_of_getElem? (i := 708) (by decide +kernel)⟩
def lw_privs_2 : List (MethodName × Nat) := [(⟨"CodedLetters$WordBreaks", "leastWordAt", "(I)I"⟩, 3), (⟨"CodedLettersModel", "enter", "()I"⟩, 21), (⟨"CodedLettersModel", "isRow", "(I)Z"⟩, 21), (⟨"CodedLettersModel", "at", "(II)I"⟩, 21), (⟨"CodedLettersModel", "part", "()V"⟩, 21), (⟨"CodedLettersModel", "fits", "(I)Z"⟩, 21), (⟨"CodedLettersModel", "isIn", "(I)Z"⟩, 21), (⟨"CodedLettersModel", "tell", "(II)Z"⟩, 21), (⟨"CodedLettersModel", "enterReading", "()V"⟩, 21), (⟨"CodedLettersModel", "isAhead", "(I)Z"⟩, 21), (⟨"CodedLettersModel", "rankOf", "(I)J"⟩, 21), (⟨"CodedLettersModel", "weight", "(II)I"⟩, 21), (⟨"CodedLettersModel", "reckon", "()V"⟩, 21), (⟨"CodedLettersModel", "stands", "(II)Z"⟩, 21)]
theorem lw_r2 : ∀ q ∈ lw_privs_2, lw_okq q := List.forall_mem_cons.mpr ⟨lw_p16, List.forall_mem_cons.mpr ⟨lw_p17, List.forall_mem_cons.mpr ⟨lw_p18, List.forall_mem_cons.mpr ⟨lw_p19, List.forall_mem_cons.mpr ⟨lw_p20, List.forall_mem_cons.mpr ⟨lw_p21, List.forall_mem_cons.mpr ⟨lw_p22, List.forall_mem_cons.mpr ⟨lw_p23, List.forall_mem_cons.mpr ⟨lw_p24, List.forall_mem_cons.mpr ⟨lw_p25, List.forall_mem_cons.mpr ⟨lw_p26, List.forall_mem_cons.mpr ⟨lw_p27, List.forall_mem_cons.mpr ⟨lw_p28, List.forall_mem_cons.mpr ⟨lw_p29, fun _ h => absurd h List.not_mem_nil⟩⟩⟩⟩⟩⟩⟩⟩⟩⟩⟩⟩⟩⟩
def lw_privs : List (MethodName × Nat) := lw_privs_1 ++ (lw_privs_2)
def lw_tbl : List Cond := k2_sels lw_privs ++ tables_1
theorem lw_privs_ok : ∀ q ∈ lw_privs, lw_okq q := by
  show ∀ q ∈ lw_privs_1 ++ (lw_privs_2), lw_okq q
  exact List.forall_mem_append.mpr ⟨lw_r1, lw_r2⟩
end
section
/-! THE NUMBERS: every int is iI of an integer, every long lI of one -/
def iI (z : Int) : Int32 := Int32.ofInt z
def lI (z : Int) : Int64 := Int64.ofInt z
theorem iI_toInt {z : Int} (h : -2147483648 ≤ z ∧ z < 2147483648) : (iI z).toInt = z := by
  unfold iI
  rw [Int32.toInt_ofInt]
  unfold Int.bmod
  simp only [Int32.size]
  omega
theorem iI_self (x : Int32) : iI x.toInt = x := by
  unfold iI
  exact Int32.ofInt_toInt x
theorem iI_rg (x : Int32) : -2147483648 ≤ x.toInt ∧ x.toInt < 2147483648 := by
  have h1 := Int32.le_toInt x
  have h2 := Int32.toInt_lt x
  omega
theorem iI_add (a b : Int) : iI a + iI b = iI (a + b) := by
  unfold iI
  exact (Int32.ofInt_add a b).symm
theorem iI_sub (a b : Int) : iI a - iI b = iI (a - b) := by
  unfold iI
  exact (Int32.ofInt_sub a b).symm
theorem iI_mul (a b : Int) : iI a * iI b = iI (a * b) := by
  unfold iI
  exact (Int32.ofInt_mul a b).symm
theorem iI_lt {a b : Int} (ha : -2147483648 ≤ a ∧ a < 2147483648) (hb : -2147483648 ≤ b ∧ b < 2147483648) : iI a < iI b ↔ a < b := by
  rw [Int32.lt_iff_toInt_lt, iI_toInt ha, iI_toInt hb]
theorem iI_le {a b : Int} (ha : -2147483648 ≤ a ∧ a < 2147483648) (hb : -2147483648 ≤ b ∧ b < 2147483648) : iI a ≤ iI b ↔ a ≤ b := by
  rw [Int32.le_iff_toInt_le, iI_toInt ha, iI_toInt hb]
theorem iI_eq {a b : Int} (ha : -2147483648 ≤ a ∧ a < 2147483648) (hb : -2147483648 ≤ b ∧ b < 2147483648) : iI a = iI b ↔ a = b := by
  constructor
  · intro h
    have := congrArg Int32.toInt h
    rwa [iI_toInt ha, iI_toInt hb] at this
  · intro h
    rw [h]
theorem iI_clamp {z : Int} (h : -2147483648 ≤ z ∧ z < 2147483648) : (iI z).toNatClampNeg = z.toNat := by
  show (iI z).toInt.toNat = z.toNat
  rw [iI_toInt h]
theorem iI_in {z : Int} {n : Nat} (h : 0 ≤ z ∧ z < n) (hn : n < 2147483648) : vp_in (iI z) n := by
  rw [vp_in_iff, iI_toInt (by omega)]
  omega
theorem iI_0 : iI 0 = 0 := rfl
theorem iI_nat (n : Nat) : Int32.ofNat n = iI n := by
  unfold iI
  exact (Int32.ofInt_eq_ofNat (n := n)).symm
theorem lI_toInt {z : Int} (h : -9223372036854775808 ≤ z ∧ z < 9223372036854775808) : (lI z).toInt = z := by
  unfold lI
  rw [Int64.toInt_ofInt]
  unfold Int.bmod
  simp only [Int64.size]
  omega
theorem lI_add (a b : Int) : lI a + lI b = lI (a + b) := by
  unfold lI
  exact (Int64.ofInt_add a b).symm
theorem lI_lt {a b : Int} (ha : -9223372036854775808 ≤ a ∧ a < 9223372036854775808) (hb : -9223372036854775808 ≤ b ∧ b < 9223372036854775808) : lI a < lI b ↔ a < b := by
  rw [Int64.lt_iff_toInt_lt, lI_toInt ha, lI_toInt hb]
theorem iI_long {a : Int} (h : -2147483648 ≤ a ∧ a < 2147483648) : (iI a).toInt64 = lI a := by
  apply Int64.toInt_inj.mp
  rw [Int32.toInt_toInt64, iI_toInt h, lI_toInt (by omega)]
theorem iI_div {a b : Int} (ha : 0 ≤ a ∧ a < 2147483648) (hb : 0 < b ∧ b < 2147483648) : iI a / iI b = iI (a / b) := by
  obtain ⟨n, rfl⟩ := Int.eq_ofNat_of_zero_le ha.1
  obtain ⟨k, rfl⟩ := Int.eq_ofNat_of_zero_le (Int.le_of_lt hb.1)
  have h1 : iI (n : Int) = nI n := (iI_nat n).symm
  have h2 : iI (k : Int) = nI k := (iI_nat k).symm
  rw [h1, h2, pk_div (by omega) (by omega) (by omega)]
  show Int32.ofNat (n / k) = _
  rw [iI_nat]
  rfl
theorem iI_rem {a b : Int} (ha : 0 ≤ a ∧ a < 2147483648) (hb : 0 < b ∧ b < 2147483648) : iI a - iI a / iI b * iI b = iI (a % b) := by
  rw [iI_div ha hb, iI_mul, iI_sub]
  congr 1
  have := Int.mul_ediv_add_emod a b
  rw [Int.mul_comm] at this
  omega
end
section
def R_law : String := "CodedLettersLaw"
/-! NAMES, by wip/tools/gen_names.py out of JAVAP.txt and the tables of the Statement -/
def wtb : List Cond := lw_tbl.filter goodWord
theorem wtb_of {w : Cond} (h : w ∈ lw_tbl) (g : goodWord w = true) : w ∈ wtb := List.mem_filter.mpr ⟨h, g⟩
theorem wtb_in {w : Cond} (h : w ∈ wtb) : w ∈ lw_tbl := (List.mem_filter.mp h).1
theorem wtb_good {w : Cond} (h : w ∈ wtb) : (w.onTables && w.keeps) = true ∨ ∃ ty, w = .arrayClass ty := good_of_word (List.mem_filter.mp h).2
theorem wtb_at {w : Cond} (i : Nat) (h : lw_tbl[i]? = some w) (g : goodWord w = true) : w ∈ wtb := wtb_of (List.mem_of_getElem? h) g
theorem wtb_all (ws : List Cond) (ps : List Nat) (hp : ws = ps.filterMap (fun i => lw_tbl[i]?)) (h : ws.all goodWord = true) : ∀ w ∈ ws, w ∈ wtb := by
  intro w hw
  have h1 := List.all_eq_true.mp h w hw
  rw [hp] at hw
  obtain ⟨i, -, hi⟩ := List.mem_filterMap.mp hw
  exact wtb_of (List.mem_of_getElem? hi) h1
theorem wtb_self : GoodIn wtb wtb := fun _ h => ⟨h, wtb_good h⟩
theorem wtb_cons {w : Cond} (h : w ∈ wtb) : GoodIn wtb (w :: wtb) := fun v hv => by
  rcases List.mem_cons.mp hv with e | e
  · rw [e]; exact ⟨h, wtb_good h⟩
  · exact ⟨e, wtb_good e⟩
def R_K : String := "CodedLetters$Code"
def F_K : u_T := fun k => match k with
  | 0 => ("CodedLetters$Code", "signs", "[I", true)
  | 1 => ("CodedLetters$Code", "starts", "[I", true)
  | 2 => ("CodedLetters$Code", "lengths", "[I", true)
  | 3 => ("CodedLetters$Code", "present", "[Z", true)
  | 4 => ("CodedLetters$Code", "kept", "[I", true)
  | 5 => ("CodedLetters$Code", "count", "I", false)
  | _ => ("CodedLetters$Code", "codewordCount", "I", false)
def t_K : Nat → FieldType := fun k => match k with
  | 0 => .array .int
  | 1 => .array .int
  | 2 => .array .int
  | 3 => .array .boolean
  | 4 => .array .int
  | 5 => .int
  | _ => .int
theorem n_K : ∀ a, a < 7 → ∀ b, b < 7 → a ≠ b → (F_K a).2.1 ≠ (F_K b).2.1 := by decide +kernel
theorem t_K_ok : ∀ k, k < 7 → parseFieldDescriptor (F_K k).2.2.1 = some (t_K k) := by decide +kernel
theorem i_K : ∀ w ∈ u_ws R_K F_K 7, w ∈ wtb := wtb_all _ [90, 92, 94, 96, 98, 100, 102] (by decide +kernel) (by decide +kernel)
theorem is_K : Cond.instantiable R_K 7 ∈ wtb := wtb_at 75 (by decide +kernel) rfl
def R_P : String := "CodedLetters$Pairs"
def F_P : u_T := fun k => match k with
  | _ => ("CodedLetters$Pairs", "weights", "[I", true)
def t_P : Nat → FieldType := fun k => match k with
  | _ => .array .int
theorem n_P : ∀ a, a < 1 → ∀ b, b < 1 → a ≠ b → (F_P a).2.1 ≠ (F_P b).2.1 := by decide +kernel
theorem t_P_ok : ∀ k, k < 1 → parseFieldDescriptor (F_P k).2.2.1 = some (t_P k) := by decide +kernel
theorem i_P : ∀ w ∈ u_ws R_P F_P 1, w ∈ wtb := wtb_all _ [113] (by decide +kernel) (by decide +kernel)
theorem is_P : Cond.instantiable R_P 1 ∈ wtb := wtb_at 107 (by decide +kernel) rfl
def R_X : String := "CodedLetters$PlainText"
def F_X : u_T := fun k => match k with
  | 0 => ("CodedLetters$PlainText", "places", "[I", true)
  | _ => ("CodedLetters$PlainText", "count", "I", false)
def t_X : Nat → FieldType := fun k => match k with
  | 0 => .array .int
  | _ => .int
theorem n_X : ∀ a, a < 2 → ∀ b, b < 2 → a ≠ b → (F_X a).2.1 ≠ (F_X b).2.1 := by decide +kernel
theorem t_X_ok : ∀ k, k < 2 → parseFieldDescriptor (F_X k).2.2.1 = some (t_X k) := by decide +kernel
theorem i_X : ∀ w ∈ u_ws R_X F_X 2, w ∈ wtb := wtb_all _ [180, 182] (by decide +kernel) (by decide +kernel)
theorem is_X : Cond.instantiable R_X 2 ∈ wtb := wtb_at 173 (by decide +kernel) rfl
def R_R : String := "CodedLetters$Readings"
def F_R : u_T := fun k => match k with
  | 0 => ("CodedLetters$Readings", "places", "[I", true)
  | 1 => ("CodedLetters$Readings", "slots", "[I", true)
  | _ => ("CodedLetters$Readings", "count", "I", false)
def t_R : Nat → FieldType := fun k => match k with
  | 0 => .array .int
  | 1 => .array .int
  | _ => .int
theorem n_R : ∀ a, a < 3 → ∀ b, b < 3 → a ≠ b → (F_R a).2.1 ≠ (F_R b).2.1 := by decide +kernel
theorem t_R_ok : ∀ k, k < 3 → parseFieldDescriptor (F_R k).2.2.1 = some (t_R k) := by decide +kernel
theorem i_R : ∀ w ∈ u_ws R_R F_R 3, w ∈ wtb := wtb_all _ [125, 127, 129] (by decide +kernel) (by decide +kernel)
theorem is_R : Cond.instantiable R_R 3 ∈ wtb := wtb_at 117 (by decide +kernel) rfl
def R_S : String := "CodedLetters$Search"
def F_S : u_T := fun k => match k with
  | 0 => ("CodedLetters$Search", "words", "LCodedLetters$WordList;", true)
  | 1 => ("CodedLetters$Search", "code", "LCodedLetters$Code;", true)
  | 2 => ("CodedLetters$Search", "readings", "LCodedLetters$Readings;", true)
  | 3 => ("CodedLetters$Search", "places", "[I", true)
  | 4 => ("CodedLetters$Search", "taken", "[Z", true)
  | 5 => ("CodedLetters$Search", "given", "[I", true)
  | 6 => ("CodedLetters$Search", "givenCount", "I", false)
  | 7 => ("CodedLetters$Search", "allowed", "I", false)
  | 8 => ("CodedLetters$Search", "made", "I", false)
  | 9 => ("CodedLetters$Search", "found", "I", false)
  | _ => ("CodedLetters$Search", "stopped", "Z", false)
def t_S : Nat → FieldType := fun k => match k with
  | 0 => .object "CodedLetters$WordList"
  | 1 => .object "CodedLetters$Code"
  | 2 => .object "CodedLetters$Readings"
  | 3 => .array .int
  | 4 => .array .boolean
  | 5 => .array .int
  | 6 => .int
  | 7 => .int
  | 8 => .int
  | 9 => .int
  | _ => .boolean
theorem n_S : ∀ a, a < 11 → ∀ b, b < 11 → a ≠ b → (F_S a).2.1 ≠ (F_S b).2.1 := by decide +kernel
theorem t_S_ok : ∀ k, k < 11 → parseFieldDescriptor (F_S k).2.2.1 = some (t_S k) := by decide +kernel
theorem i_S : ∀ w ∈ u_ws R_S F_S 11, w ∈ wtb := wtb_all _ [149, 151, 153, 155, 157, 159, 161, 163, 165, 167, 169] (by decide +kernel) (by decide +kernel)
theorem is_S : Cond.instantiable R_S 11 ∈ wtb := wtb_at 133 (by decide +kernel) rfl
def R_B : String := "CodedLetters$WordBreaks"
def F_B : u_T := fun k => match k with
  | 0 => ("CodedLetters$WordBreaks", "words", "LCodedLetters$WordList;", true)
  | 1 => ("CodedLetters$WordBreaks", "text", "LCodedLetters$PlainText;", true)
  | _ => ("CodedLetters$WordBreaks", "fewest", "[I", true)
def t_B : Nat → FieldType := fun k => match k with
  | 0 => .object "CodedLetters$WordList"
  | 1 => .object "CodedLetters$PlainText"
  | _ => .array .int
theorem n_B : ∀ a, a < 3 → ∀ b, b < 3 → a ≠ b → (F_B a).2.1 ≠ (F_B b).2.1 := by decide +kernel
theorem t_B_ok : ∀ k, k < 3 → parseFieldDescriptor (F_B k).2.2.1 = some (t_B k) := by decide +kernel
theorem i_B : ∀ w ∈ u_ws R_B F_B 3, w ∈ wtb := wtb_all _ [194, 196, 198] (by decide +kernel) (by decide +kernel)
theorem is_B : Cond.instantiable R_B 3 ∈ wtb := wtb_at 186 (by decide +kernel) rfl
def R_W : String := "CodedLetters$WordList"
def F_W : u_T := fun k => match k with
  | 0 => ("CodedLetters$WordList", "places", "[I", true)
  | 1 => ("CodedLetters$WordList", "lengths", "[I", true)
  | 2 => ("CodedLetters$WordList", "collected", "[I", true)
  | 3 => ("CodedLetters$WordList", "count", "I", false)
  | _ => ("CodedLetters$WordList", "collectedCount", "I", false)
def t_W : Nat → FieldType := fun k => match k with
  | 0 => .array .int
  | 1 => .array .int
  | 2 => .array .int
  | 3 => .int
  | _ => .int
theorem n_W : ∀ a, a < 5 → ∀ b, b < 5 → a ≠ b → (F_W a).2.1 ≠ (F_W b).2.1 := by decide +kernel
theorem t_W_ok : ∀ k, k < 5 → parseFieldDescriptor (F_W k).2.2.1 = some (t_W k) := by decide +kernel
theorem i_W : ∀ w ∈ u_ws R_W F_W 5, w ∈ wtb := wtb_all _ [62, 64, 66, 68, 70] (by decide +kernel) (by decide +kernel)
theorem is_W : Cond.instantiable R_W 5 ∈ wtb := wtb_at 52 (by decide +kernel) rfl
def R_C : String := "CodedLetters"
def F_C : u_T := fun k => match k with
  | 0 => ("CodedLetters", "words", "LCodedLetters$WordList;", true)
  | 1 => ("CodedLetters", "code", "LCodedLetters$Code;", true)
  | 2 => ("CodedLetters", "pairs", "LCodedLetters$Pairs;", true)
  | 3 => ("CodedLetters", "readings", "LCodedLetters$Readings;", true)
  | 4 => ("CodedLetters", "search", "LCodedLetters$Search;", true)
  | 5 => ("CodedLetters", "plainText", "LCodedLetters$PlainText;", true)
  | _ => ("CodedLetters", "wordBreaks", "LCodedLetters$WordBreaks;", true)
def t_C : Nat → FieldType := fun k => match k with
  | 0 => .object "CodedLetters$WordList"
  | 1 => .object "CodedLetters$Code"
  | 2 => .object "CodedLetters$Pairs"
  | 3 => .object "CodedLetters$Readings"
  | 4 => .object "CodedLetters$Search"
  | 5 => .object "CodedLetters$PlainText"
  | _ => .object "CodedLetters$WordBreaks"
theorem n_C : ∀ a, a < 7 → ∀ b, b < 7 → a ≠ b → (F_C a).2.1 ≠ (F_C b).2.1 := by decide +kernel
theorem t_C_ok : ∀ k, k < 7 → parseFieldDescriptor (F_C k).2.2.1 = some (t_C k) := by decide +kernel
theorem i_C : ∀ w ∈ u_ws R_C F_C 7, w ∈ wtb := wtb_all _ [208, 210, 212, 214, 216, 218, 220] (by decide +kernel) (by decide +kernel)
theorem is_C : Cond.instantiable R_C 7 ∈ wtb := wtb_at 44 (by decide +kernel) rfl
def R_M : String := "CodedLettersModel"
def F_M : u_T := fun k => match k with
  | 0 => ("CodedLettersModel", "thrown", "I", false)
  | 1 => ("CodedLettersModel", "collected", "I", false)
  | 2 => ("CodedLettersModel", "row", "[I", true)
  | 3 => ("CodedLettersModel", "words", "I", false)
  | 4 => ("CodedLettersModel", "lengths", "[I", true)
  | 5 => ("CodedLettersModel", "letters", "[I", true)
  | 6 => ("CodedLettersModel", "signs", "I", false)
  | 7 => ("CodedLettersModel", "code", "[I", true)
  | 8 => ("CodedLettersModel", "kept", "[I", true)
  | 9 => ("CodedLettersModel", "weights", "[I", true)
  | 10 => ("CodedLettersModel", "many", "I", false)
  | 11 => ("CodedLettersModel", "begins", "[I", true)
  | 12 => ("CodedLettersModel", "sizes", "[I", true)
  | 13 => ("CodedLettersModel", "tried", "[I", true)
  | 14 => ("CodedLettersModel", "map", "[I", true)
  | 15 => ("CodedLettersModel", "steps", "I", false)
  | 16 => ("CodedLettersModel", "readings", "I", false)
  | 17 => ("CodedLettersModel", "found", "[I", true)
  | 18 => ("CodedLettersModel", "plains", "I", false)
  | 19 => ("CodedLettersModel", "plain", "[I", true)
  | _ => ("CodedLettersModel", "fewest", "[I", true)
def t_M : Nat → FieldType := fun k => match k with
  | 0 => .int
  | 1 => .int
  | 2 => .array .int
  | 3 => .int
  | 4 => .array .int
  | 5 => .array .int
  | 6 => .int
  | 7 => .array .int
  | 8 => .array .int
  | 9 => .array .int
  | 10 => .int
  | 11 => .array .int
  | 12 => .array .int
  | 13 => .array .int
  | 14 => .array .int
  | 15 => .int
  | 16 => .int
  | 17 => .array .int
  | 18 => .int
  | 19 => .array .int
  | _ => .array .int
theorem n_M : ∀ a, a < 21 → ∀ b, b < 21 → a ≠ b → (F_M a).2.1 ≠ (F_M b).2.1 := by decide +kernel
theorem t_M_ok : ∀ k, k < 21 → parseFieldDescriptor (F_M k).2.2.1 = some (t_M k) := by decide +kernel
theorem i_M : ∀ w ∈ u_ws R_M F_M 21, w ∈ wtb := wtb_all _ [570, 572, 574, 576, 578, 580, 582, 584, 586, 588, 590, 592, 594, 596, 598, 600, 602, 604, 606, 608, 610] (by decide +kernel) (by decide +kernel)
theorem is_M : Cond.instantiable R_M 21 ∈ wtb := wtb_at 544 (by decide +kernel) rfl
def R_A : String := "java/util/Arrays"
def R_H : String := "java/lang/Math"
theorem ini_K : Cond.initialized R_K ∈ wtb := wtb_at 33 (by decide +kernel) rfl
theorem ini_P : Cond.initialized R_P ∈ wtb := wtb_at 35 (by decide +kernel) rfl
theorem ini_X : Cond.initialized R_X ∈ wtb := wtb_at 38 (by decide +kernel) rfl
theorem ini_R : Cond.initialized R_R ∈ wtb := wtb_at 36 (by decide +kernel) rfl
theorem ini_S : Cond.initialized R_S ∈ wtb := wtb_at 37 (by decide +kernel) rfl
theorem ini_B : Cond.initialized R_B ∈ wtb := wtb_at 39 (by decide +kernel) rfl
theorem ini_W : Cond.initialized R_W ∈ wtb := wtb_at 32 (by decide +kernel) rfl
theorem ini_C : Cond.initialized R_C ∈ wtb := wtb_at 31 (by decide +kernel) rfl
theorem ini_M : Cond.initialized R_M ∈ wtb := wtb_at 40 (by decide +kernel) rfl
theorem ini_A : Cond.initialized R_A ∈ wtb := wtb_at 34 (by decide +kernel) rfl
theorem ini_H : Cond.initialized R_H ∈ wtb := wtb_at 42 (by decide +kernel) rfl
abbrev cls : List vw_C := [(R_K, F_K, 7), (R_P, F_P, 1), (R_X, F_X, 2), (R_R, F_R, 3), (R_S, F_S, 11), (R_B, F_B, 3), (R_W, F_W, 5), (R_C, F_C, 7), (R_M, F_M, 21)]
theorem ar_I : Cond.arrayClass .int ∈ wtb := wtb_at 73 (by decide +kernel) rfl
theorem ar_Z : Cond.arrayClass .boolean ∈ wtb := wtb_at 105 (by decide +kernel) rfl
theorem oi_in : Cond.instanceMethod objectInit ∈ wtb := wtb_at 49 (by decide +kernel) rfl
theorem oi_co : Cond.code objectInit ⟨#[0xb1]⟩ 1 none ∈ wtb := wtb_at 50 (by decide +kernel) rfl
theorem ac_na : Cond.native arraycopyName ∈ wtb := wtb_at 267 (by decide +kernel) rfl
theorem ac_st : Cond.static arraycopyName ∈ wtb := wtb_at 266 (by decide +kernel) rfl
theorem ac_ini : Cond.initialized "java/lang/System" ∈ wtb := wtb_at 41 (by decide +kernel) rfl
def Mk (y : MethodName) (b : ByteArray) (mL : Nat) (ret : Option FieldType) (n : Nat) : Prop := Cond.code y b mL ret ∈ wtb ∧ Cond.initialized y.cls ∈ wtb ∧ y.cls ≠ "java/lang/invoke/MethodHandle" ∧ y.cls ≠ "java/lang/invoke/VarHandle" ∧ (parseMethodDescriptor y.desc).map (fun d => d.parameters.length) = some n ∧ plainFor y = true
abbrev b_C_init : ByteArray := prog_1_method_1_code
def y_C_init : MethodName := ⟨R_C, "<init>", "()V"⟩
abbrev w_C_init : List Cond := .code y_C_init b_C_init 1 none :: wtb
theorem mk_C_init : Mk y_C_init b_C_init 1 none 0 := ⟨wtb_at 47 (by decide +kernel) rfl, ini_C, by decide +kernel⟩
theorem in_C_init : Cond.instanceMethod y_C_init ∈ wtb := wtb_at 46 (by decide +kernel) rfl
abbrev b_C_unit : ByteArray := prog_1_method_2_code
def y_C_unit : MethodName := ⟨R_C, "unit", "(I)Z"⟩
abbrev w_C_unit : List Cond := .code y_C_unit b_C_unit 2 (some .boolean) :: wtb
theorem mk_C_unit : Mk y_C_unit b_C_unit 2 (some .boolean) 1 := ⟨wtb_at 226 (by decide +kernel) rfl, ini_C, by decide +kernel⟩
theorem in_C_unit : Cond.instanceMethod y_C_unit ∈ wtb := wtb_at 224 (by decide +kernel) rfl
theorem se_C_unit : Cond.selects R_C y_C_unit y_C_unit ∈ wtb := wtb_at 225 (by decide +kernel) rfl
abbrev b_C_word : ByteArray := prog_1_method_3_code
def y_C_word : MethodName := ⟨R_C, "word", "()I"⟩
abbrev w_C_word : List Cond := .code y_C_word b_C_word 1 (some .int) :: wtb
theorem mk_C_word : Mk y_C_word b_C_word 1 (some .int) 0 := ⟨wtb_at 240 (by decide +kernel) rfl, ini_C, by decide +kernel⟩
theorem in_C_word : Cond.instanceMethod y_C_word ∈ wtb := wtb_at 238 (by decide +kernel) rfl
theorem se_C_word : Cond.selects R_C y_C_word y_C_word ∈ wtb := wtb_at 239 (by decide +kernel) rfl
abbrev b_C_sign : ByteArray := prog_1_method_4_code
def y_C_sign : MethodName := ⟨R_C, "sign", "(I)Z"⟩
abbrev w_C_sign : List Cond := .code y_C_sign b_C_sign 2 (some .boolean) :: wtb
theorem mk_C_sign : Mk y_C_sign b_C_sign 2 (some .boolean) 1 := ⟨wtb_at 271 (by decide +kernel) rfl, ini_C, by decide +kernel⟩
theorem in_C_sign : Cond.instanceMethod y_C_sign ∈ wtb := wtb_at 269 (by decide +kernel) rfl
theorem se_C_sign : Cond.selects R_C y_C_sign y_C_sign ∈ wtb := wtb_at 270 (by decide +kernel) rfl
abbrev b_C_keep : ByteArray := prog_1_method_5_code
def y_C_keep : MethodName := ⟨R_C, "keep", "(II)Z"⟩
abbrev w_C_keep : List Cond := .code y_C_keep b_C_keep 4 (some .boolean) :: wtb
theorem mk_C_keep : Mk y_C_keep b_C_keep 4 (some .boolean) 2 := ⟨wtb_at 294 (by decide +kernel) rfl, ini_C, by decide +kernel⟩
theorem in_C_keep : Cond.instanceMethod y_C_keep ∈ wtb := wtb_at 292 (by decide +kernel) rfl
theorem se_C_keep : Cond.selects R_C y_C_keep y_C_keep ∈ wtb := wtb_at 293 (by decide +kernel) rfl
abbrev b_C_pair : ByteArray := prog_1_method_6_code
def y_C_pair : MethodName := ⟨R_C, "pair", "(III)Z"⟩
abbrev w_C_pair : List Cond := .code y_C_pair b_C_pair 4 (some .boolean) :: wtb
theorem mk_C_pair : Mk y_C_pair b_C_pair 4 (some .boolean) 3 := ⟨wtb_at 303 (by decide +kernel) rfl, ini_C, by decide +kernel⟩
theorem in_C_pair : Cond.instanceMethod y_C_pair ∈ wtb := wtb_at 301 (by decide +kernel) rfl
theorem se_C_pair : Cond.selects R_C y_C_pair y_C_pair ∈ wtb := wtb_at 302 (by decide +kernel) rfl
abbrev b_C_run : ByteArray := prog_1_method_7_code
def y_C_run : MethodName := ⟨R_C, "run", "(I)I"⟩
abbrev w_C_run : List Cond := .code y_C_run b_C_run 2 (some .int) :: wtb
theorem mk_C_run : Mk y_C_run b_C_run 2 (some .int) 1 := ⟨wtb_at 312 (by decide +kernel) rfl, ini_C, by decide +kernel⟩
theorem in_C_run : Cond.instanceMethod y_C_run ∈ wtb := wtb_at 310 (by decide +kernel) rfl
theorem se_C_run : Cond.selects R_C y_C_run y_C_run ∈ wtb := wtb_at 311 (by decide +kernel) rfl
abbrev b_C_steps : ByteArray := prog_1_method_8_code
def y_C_steps : MethodName := ⟨R_C, "steps", "()I"⟩
abbrev w_C_steps : List Cond := .code y_C_steps b_C_steps 1 (some .int) :: wtb
theorem mk_C_steps : Mk y_C_steps b_C_steps 1 (some .int) 0 := ⟨wtb_at 389 (by decide +kernel) rfl, ini_C, by decide +kernel⟩
theorem in_C_steps : Cond.instanceMethod y_C_steps ∈ wtb := wtb_at 387 (by decide +kernel) rfl
theorem se_C_steps : Cond.selects R_C y_C_steps y_C_steps ∈ wtb := wtb_at 388 (by decide +kernel) rfl
abbrev b_C_letter : ByteArray := prog_1_method_9_code
def y_C_letter : MethodName := ⟨R_C, "letter", "(II)I"⟩
abbrev w_C_letter : List Cond := .code y_C_letter b_C_letter 3 (some .int) :: wtb
theorem mk_C_letter : Mk y_C_letter b_C_letter 3 (some .int) 2 := ⟨wtb_at 397 (by decide +kernel) rfl, ini_C, by decide +kernel⟩
theorem in_C_letter : Cond.instanceMethod y_C_letter ∈ wtb := wtb_at 395 (by decide +kernel) rfl
theorem se_C_letter : Cond.selects R_C y_C_letter y_C_letter ∈ wtb := wtb_at 396 (by decide +kernel) rfl
abbrev b_C_rank : ByteArray := prog_1_method_10_code
def y_C_rank : MethodName := ⟨R_C, "rank", "(I)J"⟩
abbrev w_C_rank : List Cond := .code y_C_rank b_C_rank 2 (some .long) :: wtb
theorem mk_C_rank : Mk y_C_rank b_C_rank 2 (some .long) 1 := ⟨wtb_at 414 (by decide +kernel) rfl, ini_C, by decide +kernel⟩
theorem in_C_rank : Cond.instanceMethod y_C_rank ∈ wtb := wtb_at 412 (by decide +kernel) rfl
theorem se_C_rank : Cond.selects R_C y_C_rank y_C_rank ∈ wtb := wtb_at 413 (by decide +kernel) rfl
abbrev b_C_best : ByteArray := prog_1_method_11_code
def y_C_best : MethodName := ⟨R_C, "best", "()I"⟩
abbrev w_C_best : List Cond := .code y_C_best b_C_best 7 (some .int) :: wtb
theorem mk_C_best : Mk y_C_best b_C_best 7 (some .int) 0 := ⟨wtb_at 432 (by decide +kernel) rfl, ini_C, by decide +kernel⟩
theorem in_C_best : Cond.instanceMethod y_C_best ∈ wtb := wtb_at 430 (by decide +kernel) rfl
theorem se_C_best : Cond.selects R_C y_C_best y_C_best ∈ wtb := wtb_at 431 (by decide +kernel) rfl
abbrev b_C_hint : ByteArray := prog_1_method_12_code
def y_C_hint : MethodName := ⟨R_C, "hint", "()I"⟩
abbrev w_C_hint : List Cond := .code y_C_hint b_C_hint 3 (some .int) :: wtb
theorem mk_C_hint : Mk y_C_hint b_C_hint 3 (some .int) 0 := ⟨wtb_at 440 (by decide +kernel) rfl, ini_C, by decide +kernel⟩
theorem in_C_hint : Cond.instanceMethod y_C_hint ∈ wtb := wtb_at 438 (by decide +kernel) rfl
theorem se_C_hint : Cond.selects R_C y_C_hint y_C_hint ∈ wtb := wtb_at 439 (by decide +kernel) rfl
abbrev b_C_codewords : ByteArray := prog_1_method_13_code
def y_C_codewords : MethodName := ⟨R_C, "codewords", "()I"⟩
abbrev w_C_codewords : List Cond := .code y_C_codewords b_C_codewords 1 (some .int) :: wtb
theorem mk_C_codewords : Mk y_C_codewords b_C_codewords 1 (some .int) 0 := ⟨wtb_at 451 (by decide +kernel) rfl, ini_C, by decide +kernel⟩
theorem in_C_codewords : Cond.instanceMethod y_C_codewords ∈ wtb := wtb_at 449 (by decide +kernel) rfl
theorem se_C_codewords : Cond.selects R_C y_C_codewords y_C_codewords ∈ wtb := wtb_at 450 (by decide +kernel) rfl
abbrev b_C_plain : ByteArray := prog_1_method_14_code
def y_C_plain : MethodName := ⟨R_C, "plain", "(I)Z"⟩
abbrev w_C_plain : List Cond := .code y_C_plain b_C_plain 2 (some .boolean) :: wtb
theorem mk_C_plain : Mk y_C_plain b_C_plain 2 (some .boolean) 1 := ⟨wtb_at 456 (by decide +kernel) rfl, ini_C, by decide +kernel⟩
theorem in_C_plain : Cond.instanceMethod y_C_plain ∈ wtb := wtb_at 454 (by decide +kernel) rfl
theorem se_C_plain : Cond.selects R_C y_C_plain y_C_plain ∈ wtb := wtb_at 455 (by decide +kernel) rfl
abbrev b_C_shifted : ByteArray := prog_1_method_15_code
def y_C_shifted : MethodName := ⟨R_C, "shifted", "(II)I"⟩
abbrev w_C_shifted : List Cond := .code y_C_shifted b_C_shifted 3 (some .int) :: wtb
theorem mk_C_shifted : Mk y_C_shifted b_C_shifted 3 (some .int) 2 := ⟨wtb_at 465 (by decide +kernel) rfl, ini_C, by decide +kernel⟩
theorem in_C_shifted : Cond.instanceMethod y_C_shifted ∈ wtb := wtb_at 463 (by decide +kernel) rfl
theorem se_C_shifted : Cond.selects R_C y_C_shifted y_C_shifted ∈ wtb := wtb_at 464 (by decide +kernel) rfl
abbrev b_C_bestShift : ByteArray := prog_1_method_16_code
def y_C_bestShift : MethodName := ⟨R_C, "bestShift", "()I"⟩
abbrev w_C_bestShift : List Cond := .code y_C_bestShift b_C_bestShift 7 (some .int) :: wtb
theorem mk_C_bestShift : Mk y_C_bestShift b_C_bestShift 7 (some .int) 0 := ⟨wtb_at 482 (by decide +kernel) rfl, ini_C, by decide +kernel⟩
theorem in_C_bestShift : Cond.instanceMethod y_C_bestShift ∈ wtb := wtb_at 480 (by decide +kernel) rfl
theorem se_C_bestShift : Cond.selects R_C y_C_bestShift y_C_bestShift ∈ wtb := wtb_at 481 (by decide +kernel) rfl
abbrev b_C_keyed : ByteArray := prog_1_method_17_code
def y_C_keyed : MethodName := ⟨R_C, "keyed", "(II)I"⟩
abbrev w_C_keyed : List Cond := .code y_C_keyed b_C_keyed 4 (some .int) :: wtb
theorem mk_C_keyed : Mk y_C_keyed b_C_keyed 4 (some .int) 2 := ⟨wtb_at 494 (by decide +kernel) rfl, ini_C, by decide +kernel⟩
theorem in_C_keyed : Cond.instanceMethod y_C_keyed ∈ wtb := wtb_at 492 (by decide +kernel) rfl
theorem se_C_keyed : Cond.selects R_C y_C_keyed y_C_keyed ∈ wtb := wtb_at 493 (by decide +kernel) rfl
abbrev b_C_breaks : ByteArray := prog_1_method_18_code
def y_C_breaks : MethodName := ⟨R_C, "breaks", "()I"⟩
abbrev w_C_breaks : List Cond := .code y_C_breaks b_C_breaks 1 (some .int) :: wtb
theorem mk_C_breaks : Mk y_C_breaks b_C_breaks 1 (some .int) 0 := ⟨wtb_at 500 (by decide +kernel) rfl, ini_C, by decide +kernel⟩
theorem in_C_breaks : Cond.instanceMethod y_C_breaks ∈ wtb := wtb_at 498 (by decide +kernel) rfl
theorem se_C_breaks : Cond.selects R_C y_C_breaks y_C_breaks ∈ wtb := wtb_at 499 (by decide +kernel) rfl
abbrev b_C_breakAt : ByteArray := prog_1_method_19_code
def y_C_breakAt : MethodName := ⟨R_C, "breakAt", "(I)I"⟩
abbrev w_C_breakAt : List Cond := .code y_C_breakAt b_C_breakAt 2 (some .int) :: wtb
theorem mk_C_breakAt : Mk y_C_breakAt b_C_breakAt 2 (some .int) 1 := ⟨wtb_at 521 (by decide +kernel) rfl, ini_C, by decide +kernel⟩
theorem in_C_breakAt : Cond.instanceMethod y_C_breakAt ∈ wtb := wtb_at 519 (by decide +kernel) rfl
theorem se_C_breakAt : Cond.selects R_C y_C_breakAt y_C_breakAt ∈ wtb := wtb_at 520 (by decide +kernel) rfl
abbrev b_C_clear : ByteArray := prog_1_method_20_code
def y_C_clear : MethodName := ⟨R_C, "clear", "()V"⟩
abbrev w_C_clear : List Cond := .code y_C_clear b_C_clear 1 none :: wtb
theorem mk_C_clear : Mk y_C_clear b_C_clear 1 none 0 := ⟨wtb_at 534 (by decide +kernel) rfl, ini_C, by decide +kernel⟩
theorem in_C_clear : Cond.instanceMethod y_C_clear ∈ wtb := wtb_at 532 (by decide +kernel) rfl
theorem se_C_clear : Cond.selects R_C y_C_clear y_C_clear ∈ wtb := wtb_at 533 (by decide +kernel) rfl
abbrev b_C_rankOfKept : ByteArray := prog_1_method_21_code
def y_C_rankOfKept : MethodName := ⟨R_C, "rankOfKept", "(I)J"⟩
abbrev w_C_rankOfKept : List Cond := .code y_C_rankOfKept b_C_rankOfKept 7 (some .long) :: wtb
theorem mk_C_rankOfKept : Mk y_C_rankOfKept b_C_rankOfKept 7 (some .long) 1 := ⟨wtb_at 419 (by decide +kernel) rfl, ini_C, by decide +kernel⟩
theorem in_C_rankOfKept : Cond.instanceMethod y_C_rankOfKept ∈ wtb := wtb_at 418 (by decide +kernel) rfl
theorem se_C_rankOfKept : Cond.selects R_C y_C_rankOfKept y_C_rankOfKept ∈ wtb := wtb_at 12 (by decide +kernel) rfl
abbrev b_C_shiftedSum : ByteArray := prog_1_method_22_code
def y_C_shiftedSum : MethodName := ⟨R_C, "shiftedSum", "(I)J"⟩
abbrev w_C_shiftedSum : List Cond := .code y_C_shiftedSum b_C_shiftedSum 7 (some .long) :: wtb
theorem mk_C_shiftedSum : Mk y_C_shiftedSum b_C_shiftedSum 7 (some .long) 1 := ⟨wtb_at 486 (by decide +kernel) rfl, ini_C, by decide +kernel⟩
theorem in_C_shiftedSum : Cond.instanceMethod y_C_shiftedSum ∈ wtb := wtb_at 485 (by decide +kernel) rfl
theorem se_C_shiftedSum : Cond.selects R_C y_C_shiftedSum y_C_shiftedSum ∈ wtb := wtb_at 13 (by decide +kernel) rfl
abbrev b_C_shiftedPlace : ByteArray := prog_1_method_23_code
def y_C_shiftedPlace : MethodName := ⟨R_C, "shiftedPlace", "(II)I"⟩
abbrev w_C_shiftedPlace : List Cond := .code y_C_shiftedPlace b_C_shiftedPlace 2 (some .int) :: wtb
theorem mk_C_shiftedPlace : Mk y_C_shiftedPlace b_C_shiftedPlace 2 (some .int) 2 := ⟨wtb_at 478 (by decide +kernel) rfl, ini_C, by decide +kernel⟩
theorem st_C_shiftedPlace : Cond.static y_C_shiftedPlace ∈ wtb := wtb_at 477 (by decide +kernel) rfl
abbrev b_C_shiftedLetter : ByteArray := prog_1_method_24_code
def y_C_shiftedLetter : MethodName := ⟨R_C, "shiftedLetter", "(II)I"⟩
abbrev w_C_shiftedLetter : List Cond := .code y_C_shiftedLetter b_C_shiftedLetter 2 (some .int) :: wtb
theorem mk_C_shiftedLetter : Mk y_C_shiftedLetter b_C_shiftedLetter 2 (some .int) 2 := ⟨wtb_at 475 (by decide +kernel) rfl, ini_C, by decide +kernel⟩
theorem st_C_shiftedLetter : Cond.static y_C_shiftedLetter ∈ wtb := wtb_at 474 (by decide +kernel) rfl
abbrev b_C_placeOf : ByteArray := prog_1_method_25_code
def y_C_placeOf : MethodName := ⟨R_C, "placeOf", "(I)I"⟩
abbrev w_C_placeOf : List Cond := .code y_C_placeOf b_C_placeOf 2 (some .int) :: wtb
theorem mk_C_placeOf : Mk y_C_placeOf b_C_placeOf 2 (some .int) 1 := ⟨wtb_at 229 (by decide +kernel) rfl, ini_C, by decide +kernel⟩
theorem st_C_placeOf : Cond.static y_C_placeOf ∈ wtb := wtb_at 228 (by decide +kernel) rfl
abbrev b_C_letterOf : ByteArray := prog_1_method_26_code
def y_C_letterOf : MethodName := ⟨R_C, "letterOf", "(I)I"⟩
abbrev w_C_letterOf : List Cond := .code y_C_letterOf b_C_letterOf 1 (some .int) :: wtb
theorem mk_C_letterOf : Mk y_C_letterOf b_C_letterOf 1 (some .int) 1 := ⟨wtb_at 409 (by decide +kernel) rfl, ini_C, by decide +kernel⟩
theorem st_C_letterOf : Cond.static y_C_letterOf ∈ wtb := wtb_at 408 (by decide +kernel) rfl
abbrev b_C_isPlace : ByteArray := prog_1_method_27_code
def y_C_isPlace : MethodName := ⟨R_C, "isPlace", "(I)Z"⟩
abbrev w_C_isPlace : List Cond := .code y_C_isPlace b_C_isPlace 1 (some .boolean) :: wtb
theorem mk_C_isPlace : Mk y_C_isPlace b_C_isPlace 1 (some .boolean) 1 := ⟨wtb_at 236 (by decide +kernel) rfl, ini_C, by decide +kernel⟩
theorem st_C_isPlace : Cond.static y_C_isPlace ∈ wtb := wtb_at 235 (by decide +kernel) rfl
abbrev b_C_isNumber : ByteArray := prog_1_method_28_code
def y_C_isNumber : MethodName := ⟨R_C, "isNumber", "(I)Z"⟩
abbrev w_C_isNumber : List Cond := .code y_C_isNumber b_C_isNumber 1 (some .boolean) :: wtb
theorem mk_C_isNumber : Mk y_C_isNumber b_C_isNumber 1 (some .boolean) 1 := ⟨wtb_at 278 (by decide +kernel) rfl, ini_C, by decide +kernel⟩
theorem st_C_isNumber : Cond.static y_C_isNumber ∈ wtb := wtb_at 277 (by decide +kernel) rfl
abbrev b_M_init : ByteArray := prog_10_method_1_code
def y_M_init : MethodName := ⟨R_M, "<init>", "()V"⟩
abbrev w_M_init : List Cond := .code y_M_init b_M_init 1 none :: wtb
theorem mk_M_init : Mk y_M_init b_M_init 1 none 0 := ⟨wtb_at 547 (by decide +kernel) rfl, ini_M, by decide +kernel⟩
theorem in_M_init : Cond.instanceMethod y_M_init ∈ wtb := wtb_at 546 (by decide +kernel) rfl
abbrev b_M_isLetter : ByteArray := prog_10_method_3_code
def y_M_isLetter : MethodName := ⟨R_M, "isLetter", "(I)Z"⟩
abbrev w_M_isLetter : List Cond := .code y_M_isLetter b_M_isLetter 1 (some .boolean) :: wtb
theorem mk_M_isLetter : Mk y_M_isLetter b_M_isLetter 1 (some .boolean) 1 := ⟨wtb_at 619 (by decide +kernel) rfl, ini_M, by decide +kernel⟩
theorem st_M_isLetter : Cond.static y_M_isLetter ∈ wtb := wtb_at 618 (by decide +kernel) rfl
abbrev b_M_at : ByteArray := prog_10_method_4_code
def y_M_at : MethodName := ⟨R_M, "at", "(II)I"⟩
abbrev w_M_at : List Cond := .code y_M_at b_M_at 3 (some .int) :: wtb
theorem mk_M_at : Mk y_M_at b_M_at 3 (some .int) 2 := ⟨wtb_at 635 (by decide +kernel) rfl, ini_M, by decide +kernel⟩
theorem in_M_at : Cond.instanceMethod y_M_at ∈ wtb := wtb_at 634 (by decide +kernel) rfl
theorem se_M_at : Cond.selects R_M y_M_at y_M_at ∈ wtb := wtb_at 19 (by decide +kernel) rfl
abbrev b_M_unit : ByteArray := prog_10_method_5_code
def y_M_unit : MethodName := ⟨R_M, "unit", "(I)Z"⟩
abbrev w_M_unit : List Cond := .code y_M_unit b_M_unit 2 (some .boolean) :: wtb
theorem mk_M_unit : Mk y_M_unit b_M_unit 2 (some .boolean) 1 := ⟨wtb_at 616 (by decide +kernel) rfl, ini_M, by decide +kernel⟩
theorem in_M_unit : Cond.instanceMethod y_M_unit ∈ wtb := wtb_at 614 (by decide +kernel) rfl
theorem se_M_unit : Cond.selects R_M y_M_unit y_M_unit ∈ wtb := wtb_at 615 (by decide +kernel) rfl
abbrev b_M_isRow : ByteArray := prog_10_method_6_code
def y_M_isRow : MethodName := ⟨R_M, "isRow", "(I)Z"⟩
abbrev w_M_isRow : List Cond := .code y_M_isRow b_M_isRow 3 (some .boolean) :: wtb
theorem mk_M_isRow : Mk y_M_isRow b_M_isRow 3 (some .boolean) 1 := ⟨wtb_at 631 (by decide +kernel) rfl, ini_M, by decide +kernel⟩
theorem in_M_isRow : Cond.instanceMethod y_M_isRow ∈ wtb := wtb_at 630 (by decide +kernel) rfl
theorem se_M_isRow : Cond.selects R_M y_M_isRow y_M_isRow ∈ wtb := wtb_at 18 (by decide +kernel) rfl
abbrev b_M_enter : ByteArray := prog_10_method_7_code
def y_M_enter : MethodName := ⟨R_M, "enter", "()I"⟩
abbrev w_M_enter : List Cond := .code y_M_enter b_M_enter 2 (some .int) :: wtb
theorem mk_M_enter : Mk y_M_enter b_M_enter 2 (some .int) 0 := ⟨wtb_at 627 (by decide +kernel) rfl, ini_M, by decide +kernel⟩
theorem in_M_enter : Cond.instanceMethod y_M_enter ∈ wtb := wtb_at 626 (by decide +kernel) rfl
theorem se_M_enter : Cond.selects R_M y_M_enter y_M_enter ∈ wtb := wtb_at 17 (by decide +kernel) rfl
abbrev b_M_word : ByteArray := prog_10_method_8_code
def y_M_word : MethodName := ⟨R_M, "word", "()I"⟩
abbrev w_M_word : List Cond := .code y_M_word b_M_word 2 (some .int) :: wtb
theorem mk_M_word : Mk y_M_word b_M_word 2 (some .int) 0 := ⟨wtb_at 623 (by decide +kernel) rfl, ini_M, by decide +kernel⟩
theorem in_M_word : Cond.instanceMethod y_M_word ∈ wtb := wtb_at 621 (by decide +kernel) rfl
theorem se_M_word : Cond.selects R_M y_M_word y_M_word ∈ wtb := wtb_at 622 (by decide +kernel) rfl
abbrev b_M_sign : ByteArray := prog_10_method_9_code
def y_M_sign : MethodName := ⟨R_M, "sign", "(I)Z"⟩
abbrev w_M_sign : List Cond := .code y_M_sign b_M_sign 2 (some .boolean) :: wtb
theorem mk_M_sign : Mk y_M_sign b_M_sign 2 (some .boolean) 1 := ⟨wtb_at 639 (by decide +kernel) rfl, ini_M, by decide +kernel⟩
theorem in_M_sign : Cond.instanceMethod y_M_sign ∈ wtb := wtb_at 637 (by decide +kernel) rfl
theorem se_M_sign : Cond.selects R_M y_M_sign y_M_sign ∈ wtb := wtb_at 638 (by decide +kernel) rfl
abbrev b_M_keep : ByteArray := prog_10_method_10_code
def y_M_keep : MethodName := ⟨R_M, "keep", "(II)Z"⟩
abbrev w_M_keep : List Cond := .code y_M_keep b_M_keep 3 (some .boolean) :: wtb
theorem mk_M_keep : Mk y_M_keep b_M_keep 3 (some .boolean) 2 := ⟨wtb_at 643 (by decide +kernel) rfl, ini_M, by decide +kernel⟩
theorem in_M_keep : Cond.instanceMethod y_M_keep ∈ wtb := wtb_at 641 (by decide +kernel) rfl
theorem se_M_keep : Cond.selects R_M y_M_keep y_M_keep ∈ wtb := wtb_at 642 (by decide +kernel) rfl
abbrev b_M_pair : ByteArray := prog_10_method_11_code
def y_M_pair : MethodName := ⟨R_M, "pair", "(III)Z"⟩
abbrev w_M_pair : List Cond := .code y_M_pair b_M_pair 4 (some .boolean) :: wtb
theorem mk_M_pair : Mk y_M_pair b_M_pair 4 (some .boolean) 3 := ⟨wtb_at 647 (by decide +kernel) rfl, ini_M, by decide +kernel⟩
theorem in_M_pair : Cond.instanceMethod y_M_pair ∈ wtb := wtb_at 645 (by decide +kernel) rfl
theorem se_M_pair : Cond.selects R_M y_M_pair y_M_pair ∈ wtb := wtb_at 646 (by decide +kernel) rfl
abbrev b_M_weight : ByteArray := prog_10_method_12_code
def y_M_weight : MethodName := ⟨R_M, "weight", "(II)I"⟩
abbrev w_M_weight : List Cond := .code y_M_weight b_M_weight 3 (some .int) :: wtb
theorem mk_M_weight : Mk y_M_weight b_M_weight 3 (some .int) 2 := ⟨wtb_at 700 (by decide +kernel) rfl, ini_M, by decide +kernel⟩
theorem in_M_weight : Cond.instanceMethod y_M_weight ∈ wtb := wtb_at 699 (by decide +kernel) rfl
theorem se_M_weight : Cond.selects R_M y_M_weight y_M_weight ∈ wtb := wtb_at 27 (by decide +kernel) rfl
abbrev b_M_isIn : ByteArray := prog_10_method_13_code
def y_M_isIn : MethodName := ⟨R_M, "isIn", "(I)Z"⟩
abbrev w_M_isIn : List Cond := .code y_M_isIn b_M_isIn 3 (some .boolean) :: wtb
theorem mk_M_isIn : Mk y_M_isIn b_M_isIn 3 (some .boolean) 1 := ⟨wtb_at 668 (by decide +kernel) rfl, ini_M, by decide +kernel⟩
theorem in_M_isIn : Cond.instanceMethod y_M_isIn ∈ wtb := wtb_at 667 (by decide +kernel) rfl
theorem se_M_isIn : Cond.selects R_M y_M_isIn y_M_isIn ∈ wtb := wtb_at 22 (by decide +kernel) rfl
abbrev b_M_part : ByteArray := prog_10_method_14_code
def y_M_part : MethodName := ⟨R_M, "part", "()V"⟩
abbrev w_M_part : List Cond := .code y_M_part b_M_part 2 none :: wtb
theorem mk_M_part : Mk y_M_part b_M_part 2 none 0 := ⟨wtb_at 655 (by decide +kernel) rfl, ini_M, by decide +kernel⟩
theorem in_M_part : Cond.instanceMethod y_M_part ∈ wtb := wtb_at 654 (by decide +kernel) rfl
theorem se_M_part : Cond.selects R_M y_M_part y_M_part ∈ wtb := wtb_at 20 (by decide +kernel) rfl
abbrev b_M_codewords : ByteArray := prog_10_method_15_code
def y_M_codewords : MethodName := ⟨R_M, "codewords", "()I"⟩
abbrev w_M_codewords : List Cond := .code y_M_codewords b_M_codewords 1 (some .int) :: wtb
theorem mk_M_codewords : Mk y_M_codewords b_M_codewords 1 (some .int) 0 := ⟨wtb_at 651 (by decide +kernel) rfl, ini_M, by decide +kernel⟩
theorem in_M_codewords : Cond.instanceMethod y_M_codewords ∈ wtb := wtb_at 649 (by decide +kernel) rfl
theorem se_M_codewords : Cond.selects R_M y_M_codewords y_M_codewords ∈ wtb := wtb_at 650 (by decide +kernel) rfl
abbrev b_M_tell : ByteArray := prog_10_method_16_code
def y_M_tell : MethodName := ⟨R_M, "tell", "(II)Z"⟩
abbrev w_M_tell : List Cond := .code y_M_tell b_M_tell 4 (some .boolean) :: wtb
theorem mk_M_tell : Mk y_M_tell b_M_tell 4 (some .boolean) 2 := ⟨wtb_at 672 (by decide +kernel) rfl, ini_M, by decide +kernel⟩
theorem in_M_tell : Cond.instanceMethod y_M_tell ∈ wtb := wtb_at 671 (by decide +kernel) rfl
theorem se_M_tell : Cond.selects R_M y_M_tell y_M_tell ∈ wtb := wtb_at 23 (by decide +kernel) rfl
abbrev b_M_fits : ByteArray := prog_10_method_17_code
def y_M_fits : MethodName := ⟨R_M, "fits", "(I)Z"⟩
abbrev w_M_fits : List Cond := .code y_M_fits b_M_fits 4 (some .boolean) :: wtb
theorem mk_M_fits : Mk y_M_fits b_M_fits 4 (some .boolean) 1 := ⟨wtb_at 664 (by decide +kernel) rfl, ini_M, by decide +kernel⟩
theorem in_M_fits : Cond.instanceMethod y_M_fits ∈ wtb := wtb_at 663 (by decide +kernel) rfl
theorem se_M_fits : Cond.selects R_M y_M_fits y_M_fits ∈ wtb := wtb_at 21 (by decide +kernel) rfl
abbrev b_M_isAhead : ByteArray := prog_10_method_18_code
def y_M_isAhead : MethodName := ⟨R_M, "isAhead", "(I)Z"⟩
abbrev w_M_isAhead : List Cond := .code y_M_isAhead b_M_isAhead 3 (some .boolean) :: wtb
theorem mk_M_isAhead : Mk y_M_isAhead b_M_isAhead 3 (some .boolean) 1 := ⟨wtb_at 680 (by decide +kernel) rfl, ini_M, by decide +kernel⟩
theorem in_M_isAhead : Cond.instanceMethod y_M_isAhead ∈ wtb := wtb_at 679 (by decide +kernel) rfl
theorem se_M_isAhead : Cond.selects R_M y_M_isAhead y_M_isAhead ∈ wtb := wtb_at 25 (by decide +kernel) rfl
abbrev b_M_enterReading : ByteArray := prog_10_method_19_code
def y_M_enterReading : MethodName := ⟨R_M, "enterReading", "()V"⟩
abbrev w_M_enterReading : List Cond := .code y_M_enterReading b_M_enterReading 4 none :: wtb
theorem mk_M_enterReading : Mk y_M_enterReading b_M_enterReading 4 none 0 := ⟨wtb_at 676 (by decide +kernel) rfl, ini_M, by decide +kernel⟩
theorem in_M_enterReading : Cond.instanceMethod y_M_enterReading ∈ wtb := wtb_at 675 (by decide +kernel) rfl
theorem se_M_enterReading : Cond.selects R_M y_M_enterReading y_M_enterReading ∈ wtb := wtb_at 24 (by decide +kernel) rfl
abbrev b_M_run : ByteArray := prog_10_method_20_code
def y_M_run : MethodName := ⟨R_M, "run", "(I)I"⟩
abbrev w_M_run : List Cond := .code y_M_run b_M_run 4 (some .int) :: wtb
theorem mk_M_run : Mk y_M_run b_M_run 4 (some .int) 1 := ⟨wtb_at 659 (by decide +kernel) rfl, ini_M, by decide +kernel⟩
theorem in_M_run : Cond.instanceMethod y_M_run ∈ wtb := wtb_at 657 (by decide +kernel) rfl
theorem se_M_run : Cond.selects R_M y_M_run y_M_run ∈ wtb := wtb_at 658 (by decide +kernel) rfl
abbrev b_M_steps : ByteArray := prog_10_method_21_code
def y_M_steps : MethodName := ⟨R_M, "steps", "()I"⟩
abbrev w_M_steps : List Cond := .code y_M_steps b_M_steps 1 (some .int) :: wtb
theorem mk_M_steps : Mk y_M_steps b_M_steps 1 (some .int) 0 := ⟨wtb_at 684 (by decide +kernel) rfl, ini_M, by decide +kernel⟩
theorem in_M_steps : Cond.instanceMethod y_M_steps ∈ wtb := wtb_at 682 (by decide +kernel) rfl
theorem se_M_steps : Cond.selects R_M y_M_steps y_M_steps ∈ wtb := wtb_at 683 (by decide +kernel) rfl
abbrev b_M_letter : ByteArray := prog_10_method_22_code
def y_M_letter : MethodName := ⟨R_M, "letter", "(II)I"⟩
abbrev w_M_letter : List Cond := .code y_M_letter b_M_letter 3 (some .int) :: wtb
theorem mk_M_letter : Mk y_M_letter b_M_letter 3 (some .int) 2 := ⟨wtb_at 688 (by decide +kernel) rfl, ini_M, by decide +kernel⟩
theorem in_M_letter : Cond.instanceMethod y_M_letter ∈ wtb := wtb_at 686 (by decide +kernel) rfl
theorem se_M_letter : Cond.selects R_M y_M_letter y_M_letter ∈ wtb := wtb_at 687 (by decide +kernel) rfl
abbrev b_M_rankOf : ByteArray := prog_10_method_23_code
def y_M_rankOf : MethodName := ⟨R_M, "rankOf", "(I)J"⟩
abbrev w_M_rankOf : List Cond := .code y_M_rankOf b_M_rankOf 5 (some .long) :: wtb
theorem mk_M_rankOf : Mk y_M_rankOf b_M_rankOf 5 (some .long) 1 := ⟨wtb_at 696 (by decide +kernel) rfl, ini_M, by decide +kernel⟩
theorem in_M_rankOf : Cond.instanceMethod y_M_rankOf ∈ wtb := wtb_at 695 (by decide +kernel) rfl
theorem se_M_rankOf : Cond.selects R_M y_M_rankOf y_M_rankOf ∈ wtb := wtb_at 26 (by decide +kernel) rfl
abbrev b_M_rank : ByteArray := prog_10_method_24_code
def y_M_rank : MethodName := ⟨R_M, "rank", "(I)J"⟩
abbrev w_M_rank : List Cond := .code y_M_rank b_M_rank 2 (some .long) :: wtb
theorem mk_M_rank : Mk y_M_rank b_M_rank 2 (some .long) 1 := ⟨wtb_at 692 (by decide +kernel) rfl, ini_M, by decide +kernel⟩
theorem in_M_rank : Cond.instanceMethod y_M_rank ∈ wtb := wtb_at 690 (by decide +kernel) rfl
theorem se_M_rank : Cond.selects R_M y_M_rank y_M_rank ∈ wtb := wtb_at 691 (by decide +kernel) rfl
abbrev b_M_best : ByteArray := prog_10_method_25_code
def y_M_best : MethodName := ⟨R_M, "best", "()I"⟩
abbrev w_M_best : List Cond := .code y_M_best b_M_best 3 (some .int) :: wtb
theorem mk_M_best : Mk y_M_best b_M_best 3 (some .int) 0 := ⟨wtb_at 704 (by decide +kernel) rfl, ini_M, by decide +kernel⟩
theorem in_M_best : Cond.instanceMethod y_M_best ∈ wtb := wtb_at 702 (by decide +kernel) rfl
theorem se_M_best : Cond.selects R_M y_M_best y_M_best ∈ wtb := wtb_at 703 (by decide +kernel) rfl
abbrev b_M_hint : ByteArray := prog_10_method_26_code
def y_M_hint : MethodName := ⟨R_M, "hint", "()I"⟩
abbrev w_M_hint : List Cond := .code y_M_hint b_M_hint 4 (some .int) :: wtb
theorem mk_M_hint : Mk y_M_hint b_M_hint 4 (some .int) 0 := ⟨wtb_at 708 (by decide +kernel) rfl, ini_M, by decide +kernel⟩
theorem in_M_hint : Cond.instanceMethod y_M_hint ∈ wtb := wtb_at 706 (by decide +kernel) rfl
theorem se_M_hint : Cond.selects R_M y_M_hint y_M_hint ∈ wtb := wtb_at 707 (by decide +kernel) rfl
abbrev b_M_plain : ByteArray := prog_10_method_27_code
def y_M_plain : MethodName := ⟨R_M, "plain", "(I)Z"⟩
abbrev w_M_plain : List Cond := .code y_M_plain b_M_plain 2 (some .boolean) :: wtb
theorem mk_M_plain : Mk y_M_plain b_M_plain 2 (some .boolean) 1 := ⟨wtb_at 712 (by decide +kernel) rfl, ini_M, by decide +kernel⟩
theorem in_M_plain : Cond.instanceMethod y_M_plain ∈ wtb := wtb_at 710 (by decide +kernel) rfl
theorem se_M_plain : Cond.selects R_M y_M_plain y_M_plain ∈ wtb := wtb_at 711 (by decide +kernel) rfl
abbrev b_M_shift : ByteArray := prog_10_method_28_code
def y_M_shift : MethodName := ⟨R_M, "shift", "(II)I"⟩
abbrev w_M_shift : List Cond := .code y_M_shift b_M_shift 2 (some .int) :: wtb
theorem mk_M_shift : Mk y_M_shift b_M_shift 2 (some .int) 2 := ⟨wtb_at 719 (by decide +kernel) rfl, ini_M, by decide +kernel⟩
theorem st_M_shift : Cond.static y_M_shift ∈ wtb := wtb_at 718 (by decide +kernel) rfl
abbrev b_M_shifted : ByteArray := prog_10_method_29_code
def y_M_shifted : MethodName := ⟨R_M, "shifted", "(II)I"⟩
abbrev w_M_shifted : List Cond := .code y_M_shifted b_M_shifted 3 (some .int) :: wtb
theorem mk_M_shifted : Mk y_M_shifted b_M_shifted 3 (some .int) 2 := ⟨wtb_at 716 (by decide +kernel) rfl, ini_M, by decide +kernel⟩
theorem in_M_shifted : Cond.instanceMethod y_M_shifted ∈ wtb := wtb_at 714 (by decide +kernel) rfl
theorem se_M_shifted : Cond.selects R_M y_M_shifted y_M_shifted ∈ wtb := wtb_at 715 (by decide +kernel) rfl
abbrev b_M_bestShift : ByteArray := prog_10_method_30_code
def y_M_bestShift : MethodName := ⟨R_M, "bestShift", "()I"⟩
abbrev w_M_bestShift : List Cond := .code y_M_bestShift b_M_bestShift 8 (some .int) :: wtb
theorem mk_M_bestShift : Mk y_M_bestShift b_M_bestShift 8 (some .int) 0 := ⟨wtb_at 723 (by decide +kernel) rfl, ini_M, by decide +kernel⟩
theorem in_M_bestShift : Cond.instanceMethod y_M_bestShift ∈ wtb := wtb_at 721 (by decide +kernel) rfl
theorem se_M_bestShift : Cond.selects R_M y_M_bestShift y_M_bestShift ∈ wtb := wtb_at 722 (by decide +kernel) rfl
abbrev b_M_keyed : ByteArray := prog_10_method_31_code
def y_M_keyed : MethodName := ⟨R_M, "keyed", "(II)I"⟩
abbrev w_M_keyed : List Cond := .code y_M_keyed b_M_keyed 3 (some .int) :: wtb
theorem mk_M_keyed : Mk y_M_keyed b_M_keyed 3 (some .int) 2 := ⟨wtb_at 727 (by decide +kernel) rfl, ini_M, by decide +kernel⟩
theorem in_M_keyed : Cond.instanceMethod y_M_keyed ∈ wtb := wtb_at 725 (by decide +kernel) rfl
theorem se_M_keyed : Cond.selects R_M y_M_keyed y_M_keyed ∈ wtb := wtb_at 726 (by decide +kernel) rfl
abbrev b_M_stands : ByteArray := prog_10_method_32_code
def y_M_stands : MethodName := ⟨R_M, "stands", "(II)Z"⟩
abbrev w_M_stands : List Cond := .code y_M_stands b_M_stands 4 (some .boolean) :: wtb
theorem mk_M_stands : Mk y_M_stands b_M_stands 4 (some .boolean) 2 := ⟨wtb_at 739 (by decide +kernel) rfl, ini_M, by decide +kernel⟩
theorem in_M_stands : Cond.instanceMethod y_M_stands ∈ wtb := wtb_at 738 (by decide +kernel) rfl
theorem se_M_stands : Cond.selects R_M y_M_stands y_M_stands ∈ wtb := wtb_at 29 (by decide +kernel) rfl
abbrev b_M_reckon : ByteArray := prog_10_method_33_code
def y_M_reckon : MethodName := ⟨R_M, "reckon", "()V"⟩
abbrev w_M_reckon : List Cond := .code y_M_reckon b_M_reckon 4 none :: wtb
theorem mk_M_reckon : Mk y_M_reckon b_M_reckon 4 none 0 := ⟨wtb_at 735 (by decide +kernel) rfl, ini_M, by decide +kernel⟩
theorem in_M_reckon : Cond.instanceMethod y_M_reckon ∈ wtb := wtb_at 734 (by decide +kernel) rfl
theorem se_M_reckon : Cond.selects R_M y_M_reckon y_M_reckon ∈ wtb := wtb_at 28 (by decide +kernel) rfl
abbrev b_M_breaks : ByteArray := prog_10_method_34_code
def y_M_breaks : MethodName := ⟨R_M, "breaks", "()I"⟩
abbrev w_M_breaks : List Cond := .code y_M_breaks b_M_breaks 1 (some .int) :: wtb
theorem mk_M_breaks : Mk y_M_breaks b_M_breaks 1 (some .int) 0 := ⟨wtb_at 731 (by decide +kernel) rfl, ini_M, by decide +kernel⟩
theorem in_M_breaks : Cond.instanceMethod y_M_breaks ∈ wtb := wtb_at 729 (by decide +kernel) rfl
theorem se_M_breaks : Cond.selects R_M y_M_breaks y_M_breaks ∈ wtb := wtb_at 730 (by decide +kernel) rfl
abbrev b_M_breakAt : ByteArray := prog_10_method_35_code
def y_M_breakAt : MethodName := ⟨R_M, "breakAt", "(I)I"⟩
abbrev w_M_breakAt : List Cond := .code y_M_breakAt b_M_breakAt 5 (some .int) :: wtb
theorem mk_M_breakAt : Mk y_M_breakAt b_M_breakAt 5 (some .int) 1 := ⟨wtb_at 743 (by decide +kernel) rfl, ini_M, by decide +kernel⟩
theorem in_M_breakAt : Cond.instanceMethod y_M_breakAt ∈ wtb := wtb_at 741 (by decide +kernel) rfl
theorem se_M_breakAt : Cond.selects R_M y_M_breakAt y_M_breakAt ∈ wtb := wtb_at 742 (by decide +kernel) rfl
abbrev b_M_clear : ByteArray := prog_10_method_36_code
def y_M_clear : MethodName := ⟨R_M, "clear", "()V"⟩
abbrev w_M_clear : List Cond := .code y_M_clear b_M_clear 2 none :: wtb
theorem mk_M_clear : Mk y_M_clear b_M_clear 2 none 0 := ⟨wtb_at 747 (by decide +kernel) rfl, ini_M, by decide +kernel⟩
theorem in_M_clear : Cond.instanceMethod y_M_clear ∈ wtb := wtb_at 745 (by decide +kernel) rfl
theorem se_M_clear : Cond.selects R_M y_M_clear y_M_clear ∈ wtb := wtb_at 746 (by decide +kernel) rfl
abbrev b_K_init : ByteArray := prog_2_method_1_code
def y_K_init : MethodName := ⟨R_K, "<init>", "()V"⟩
abbrev w_K_init : List Cond := .code y_K_init b_K_init 1 none :: wtb
theorem mk_K_init : Mk y_K_init b_K_init 1 none 0 := ⟨wtb_at 78 (by decide +kernel) rfl, ini_K, by decide +kernel⟩
theorem in_K_init : Cond.instanceMethod y_K_init ∈ wtb := wtb_at 77 (by decide +kernel) rfl
abbrev b_K_append : ByteArray := prog_2_method_2_code
def y_K_append : MethodName := ⟨R_K, "append", "(I)Z"⟩
abbrev w_K_append : List Cond := .code y_K_append b_K_append 2 (some .boolean) :: wtb
theorem mk_K_append : Mk y_K_append b_K_append 2 (some .boolean) 1 := ⟨wtb_at 275 (by decide +kernel) rfl, ini_K, by decide +kernel⟩
theorem in_K_append : Cond.instanceMethod y_K_append ∈ wtb := wtb_at 273 (by decide +kernel) rfl
theorem se_K_append : Cond.selects R_K y_K_append y_K_append ∈ wtb := wtb_at 274 (by decide +kernel) rfl
abbrev b_K_empty : ByteArray := prog_2_method_3_code
def y_K_empty : MethodName := ⟨R_K, "empty", "()V"⟩
abbrev w_K_empty : List Cond := .code y_K_empty b_K_empty 2 none :: wtb
theorem mk_K_empty : Mk y_K_empty b_K_empty 2 none 0 := ⟨wtb_at 538 (by decide +kernel) rfl, ini_K, by decide +kernel⟩
theorem in_K_empty : Cond.instanceMethod y_K_empty ∈ wtb := wtb_at 536 (by decide +kernel) rfl
theorem se_K_empty : Cond.selects R_K y_K_empty y_K_empty ∈ wtb := wtb_at 537 (by decide +kernel) rfl
abbrev b_K_size : ByteArray := prog_2_method_4_code
def y_K_size : MethodName := ⟨R_K, "size", "()I"⟩
abbrev w_K_size : List Cond := .code y_K_size b_K_size 1 (some .int) :: wtb
theorem mk_K_size : Mk y_K_size b_K_size 1 (some .int) 0 := ⟨wtb_at 423 (by decide +kernel) rfl, ini_K, by decide +kernel⟩
theorem in_K_size : Cond.instanceMethod y_K_size ∈ wtb := wtb_at 421 (by decide +kernel) rfl
theorem se_K_size : Cond.selects R_K y_K_size y_K_size ∈ wtb := wtb_at 422 (by decide +kernel) rfl
abbrev b_K_signAt : ByteArray := prog_2_method_5_code
def y_K_signAt : MethodName := ⟨R_K, "signAt", "(I)I"⟩
abbrev w_K_signAt : List Cond := .code y_K_signAt b_K_signAt 2 (some .int) :: wtb
theorem mk_K_signAt : Mk y_K_signAt b_K_signAt 2 (some .int) 1 := ⟨wtb_at 286 (by decide +kernel) rfl, ini_K, by decide +kernel⟩
theorem in_K_signAt : Cond.instanceMethod y_K_signAt ∈ wtb := wtb_at 284 (by decide +kernel) rfl
theorem se_K_signAt : Cond.selects R_K y_K_signAt y_K_signAt ∈ wtb := wtb_at 285 (by decide +kernel) rfl
abbrev b_K_contains : ByteArray := prog_2_method_6_code
def y_K_contains : MethodName := ⟨R_K, "contains", "(I)Z"⟩
abbrev w_K_contains : List Cond := .code y_K_contains b_K_contains 2 (some .boolean) :: wtb
theorem mk_K_contains : Mk y_K_contains b_K_contains 2 (some .boolean) 1 := ⟨wtb_at 331 (by decide +kernel) rfl, ini_K, by decide +kernel⟩
theorem in_K_contains : Cond.instanceMethod y_K_contains ∈ wtb := wtb_at 329 (by decide +kernel) rfl
theorem se_K_contains : Cond.selects R_K y_K_contains y_K_contains ∈ wtb := wtb_at 330 (by decide +kernel) rfl
abbrev b_K_codewordCount : ByteArray := prog_2_method_7_code
def y_K_codewordCount : MethodName := ⟨R_K, "codewordCount", "()I"⟩
abbrev w_K_codewordCount : List Cond := .code y_K_codewordCount b_K_codewordCount 1 (some .int) :: wtb
theorem mk_K_codewordCount : Mk y_K_codewordCount b_K_codewordCount 1 (some .int) 0 := ⟨wtb_at 340 (by decide +kernel) rfl, ini_K, by decide +kernel⟩
theorem in_K_codewordCount : Cond.instanceMethod y_K_codewordCount ∈ wtb := wtb_at 338 (by decide +kernel) rfl
theorem se_K_codewordCount : Cond.selects R_K y_K_codewordCount y_K_codewordCount ∈ wtb := wtb_at 339 (by decide +kernel) rfl
abbrev b_K_codewordLength : ByteArray := prog_2_method_8_code
def y_K_codewordLength : MethodName := ⟨R_K, "codewordLength", "(I)I"⟩
abbrev w_K_codewordLength : List Cond := .code y_K_codewordLength b_K_codewordLength 2 (some .int) :: wtb
theorem mk_K_codewordLength : Mk y_K_codewordLength b_K_codewordLength 2 (some .int) 1 := ⟨wtb_at 357 (by decide +kernel) rfl, ini_K, by decide +kernel⟩
theorem in_K_codewordLength : Cond.instanceMethod y_K_codewordLength ∈ wtb := wtb_at 355 (by decide +kernel) rfl
theorem se_K_codewordLength : Cond.selects R_K y_K_codewordLength y_K_codewordLength ∈ wtb := wtb_at 356 (by decide +kernel) rfl
abbrev b_K_numberAt : ByteArray := prog_2_method_9_code
def y_K_numberAt : MethodName := ⟨R_K, "numberAt", "(II)I"⟩
abbrev w_K_numberAt : List Cond := .code y_K_numberAt b_K_numberAt 3 (some .int) :: wtb
theorem mk_K_numberAt : Mk y_K_numberAt b_K_numberAt 3 (some .int) 2 := ⟨wtb_at 374 (by decide +kernel) rfl, ini_K, by decide +kernel⟩
theorem in_K_numberAt : Cond.instanceMethod y_K_numberAt ∈ wtb := wtb_at 372 (by decide +kernel) rfl
theorem se_K_numberAt : Cond.selects R_K y_K_numberAt y_K_numberAt ∈ wtb := wtb_at 373 (by decide +kernel) rfl
abbrev b_K_keepPlace : ByteArray := prog_2_method_10_code
def y_K_keepPlace : MethodName := ⟨R_K, "keepPlace", "(II)V"⟩
abbrev w_K_keepPlace : List Cond := .code y_K_keepPlace b_K_keepPlace 3 none :: wtb
theorem mk_K_keepPlace : Mk y_K_keepPlace b_K_keepPlace 3 none 2 := ⟨wtb_at 299 (by decide +kernel) rfl, ini_K, by decide +kernel⟩
theorem in_K_keepPlace : Cond.instanceMethod y_K_keepPlace ∈ wtb := wtb_at 297 (by decide +kernel) rfl
theorem se_K_keepPlace : Cond.selects R_K y_K_keepPlace y_K_keepPlace ∈ wtb := wtb_at 298 (by decide +kernel) rfl
abbrev b_K_keptPlace : ByteArray := prog_2_method_11_code
def y_K_keptPlace : MethodName := ⟨R_K, "keptPlace", "(I)I"⟩
abbrev w_K_keptPlace : List Cond := .code y_K_keptPlace b_K_keptPlace 2 (some .int) :: wtb
theorem mk_K_keptPlace : Mk y_K_keptPlace b_K_keptPlace 2 (some .int) 1 := ⟨wtb_at 327 (by decide +kernel) rfl, ini_K, by decide +kernel⟩
theorem in_K_keptPlace : Cond.instanceMethod y_K_keptPlace ∈ wtb := wtb_at 325 (by decide +kernel) rfl
theorem se_K_keptPlace : Cond.selects R_K y_K_keptPlace y_K_keptPlace ∈ wtb := wtb_at 326 (by decide +kernel) rfl
abbrev b_K_growCodeword : ByteArray := prog_2_method_12_code
def y_K_growCodeword : MethodName := ⟨R_K, "growCodeword", "()V"⟩
abbrev w_K_growCodeword : List Cond := .code y_K_growCodeword b_K_growCodeword 2 none :: wtb
theorem mk_K_growCodeword : Mk y_K_growCodeword b_K_growCodeword 2 none 0 := ⟨wtb_at 282 (by decide +kernel) rfl, ini_K, by decide +kernel⟩
theorem in_K_growCodeword : Cond.instanceMethod y_K_growCodeword ∈ wtb := wtb_at 281 (by decide +kernel) rfl
theorem se_K_growCodeword : Cond.selects R_K y_K_growCodeword y_K_growCodeword ∈ wtb := wtb_at 3 (by decide +kernel) rfl
abbrev b_P_init : ByteArray := prog_3_method_1_code
def y_P_init : MethodName := ⟨R_P, "<init>", "()V"⟩
abbrev w_P_init : List Cond := .code y_P_init b_P_init 1 none :: wtb
theorem mk_P_init : Mk y_P_init b_P_init 1 none 0 := ⟨wtb_at 110 (by decide +kernel) rfl, ini_P, by decide +kernel⟩
theorem in_P_init : Cond.instanceMethod y_P_init ∈ wtb := wtb_at 109 (by decide +kernel) rfl
abbrev b_P_weigh : ByteArray := prog_3_method_2_code
def y_P_weigh : MethodName := ⟨R_P, "weigh", "(III)Z"⟩
abbrev w_P_weigh : List Cond := .code y_P_weigh b_P_weigh 4 (some .boolean) :: wtb
theorem mk_P_weigh : Mk y_P_weigh b_P_weigh 4 (some .boolean) 3 := ⟨wtb_at 307 (by decide +kernel) rfl, ini_P, by decide +kernel⟩
theorem in_P_weigh : Cond.instanceMethod y_P_weigh ∈ wtb := wtb_at 305 (by decide +kernel) rfl
theorem se_P_weigh : Cond.selects R_P y_P_weigh y_P_weigh ∈ wtb := wtb_at 306 (by decide +kernel) rfl
abbrev b_P_weightOf : ByteArray := prog_3_method_3_code
def y_P_weightOf : MethodName := ⟨R_P, "weightOf", "(II)I"⟩
abbrev w_P_weightOf : List Cond := .code y_P_weightOf b_P_weightOf 3 (some .int) :: wtb
theorem mk_P_weightOf : Mk y_P_weightOf b_P_weightOf 3 (some .int) 2 := ⟨wtb_at 428 (by decide +kernel) rfl, ini_P, by decide +kernel⟩
theorem in_P_weightOf : Cond.instanceMethod y_P_weightOf ∈ wtb := wtb_at 426 (by decide +kernel) rfl
theorem se_P_weightOf : Cond.selects R_P y_P_weightOf y_P_weightOf ∈ wtb := wtb_at 427 (by decide +kernel) rfl
abbrev b_X_init : ByteArray := prog_4_method_1_code
def y_X_init : MethodName := ⟨R_X, "<init>", "()V"⟩
abbrev w_X_init : List Cond := .code y_X_init b_X_init 1 none :: wtb
theorem mk_X_init : Mk y_X_init b_X_init 1 none 0 := ⟨wtb_at 176 (by decide +kernel) rfl, ini_X, by decide +kernel⟩
theorem in_X_init : Cond.instanceMethod y_X_init ∈ wtb := wtb_at 175 (by decide +kernel) rfl
abbrev b_X_append : ByteArray := prog_4_method_2_code
def y_X_append : MethodName := ⟨R_X, "append", "(I)Z"⟩
abbrev w_X_append : List Cond := .code y_X_append b_X_append 2 (some .boolean) :: wtb
theorem mk_X_append : Mk y_X_append b_X_append 2 (some .boolean) 1 := ⟨wtb_at 460 (by decide +kernel) rfl, ini_X, by decide +kernel⟩
theorem in_X_append : Cond.instanceMethod y_X_append ∈ wtb := wtb_at 458 (by decide +kernel) rfl
theorem se_X_append : Cond.selects R_X y_X_append y_X_append ∈ wtb := wtb_at 459 (by decide +kernel) rfl
abbrev b_X_empty : ByteArray := prog_4_method_3_code
def y_X_empty : MethodName := ⟨R_X, "empty", "()V"⟩
abbrev w_X_empty : List Cond := .code y_X_empty b_X_empty 1 none :: wtb
theorem mk_X_empty : Mk y_X_empty b_X_empty 1 none 0 := ⟨wtb_at 542 (by decide +kernel) rfl, ini_X, by decide +kernel⟩
theorem in_X_empty : Cond.instanceMethod y_X_empty ∈ wtb := wtb_at 540 (by decide +kernel) rfl
theorem se_X_empty : Cond.selects R_X y_X_empty y_X_empty ∈ wtb := wtb_at 541 (by decide +kernel) rfl
abbrev b_X_size : ByteArray := prog_4_method_4_code
def y_X_size : MethodName := ⟨R_X, "size", "()I"⟩
abbrev w_X_size : List Cond := .code y_X_size b_X_size 1 (some .int) :: wtb
theorem mk_X_size : Mk y_X_size b_X_size 1 (some .int) 0 := ⟨wtb_at 490 (by decide +kernel) rfl, ini_X, by decide +kernel⟩
theorem in_X_size : Cond.instanceMethod y_X_size ∈ wtb := wtb_at 488 (by decide +kernel) rfl
theorem se_X_size : Cond.selects R_X y_X_size y_X_size ∈ wtb := wtb_at 489 (by decide +kernel) rfl
abbrev b_X_placeAt : ByteArray := prog_4_method_5_code
def y_X_placeAt : MethodName := ⟨R_X, "placeAt", "(I)I"⟩
abbrev w_X_placeAt : List Cond := .code y_X_placeAt b_X_placeAt 2 (some .int) :: wtb
theorem mk_X_placeAt : Mk y_X_placeAt b_X_placeAt 2 (some .int) 1 := ⟨wtb_at 469 (by decide +kernel) rfl, ini_X, by decide +kernel⟩
theorem in_X_placeAt : Cond.instanceMethod y_X_placeAt ∈ wtb := wtb_at 467 (by decide +kernel) rfl
theorem se_X_placeAt : Cond.selects R_X y_X_placeAt y_X_placeAt ∈ wtb := wtb_at 468 (by decide +kernel) rfl
abbrev b_R_init : ByteArray := prog_5_method_1_code
def y_R_init : MethodName := ⟨R_R, "<init>", "()V"⟩
abbrev w_R_init : List Cond := .code y_R_init b_R_init 1 none :: wtb
theorem mk_R_init : Mk y_R_init b_R_init 1 none 0 := ⟨wtb_at 120 (by decide +kernel) rfl, ini_R, by decide +kernel⟩
theorem in_R_init : Cond.instanceMethod y_R_init ∈ wtb := wtb_at 119 (by decide +kernel) rfl
abbrev b_R_forget : ByteArray := prog_5_method_2_code
def y_R_forget : MethodName := ⟨R_R, "forget", "()V"⟩
abbrev w_R_forget : List Cond := .code y_R_forget b_R_forget 1 none :: wtb
theorem mk_R_forget : Mk y_R_forget b_R_forget 1 none 0 := ⟨wtb_at 290 (by decide +kernel) rfl, ini_R, by decide +kernel⟩
theorem in_R_forget : Cond.instanceMethod y_R_forget ∈ wtb := wtb_at 288 (by decide +kernel) rfl
theorem se_R_forget : Cond.selects R_R y_R_forget y_R_forget ∈ wtb := wtb_at 289 (by decide +kernel) rfl
abbrev b_R_size : ByteArray := prog_5_method_3_code
def y_R_size : MethodName := ⟨R_R, "size", "()I"⟩
abbrev w_R_size : List Cond := .code y_R_size b_R_size 1 (some .int) :: wtb
theorem mk_R_size : Mk y_R_size b_R_size 1 (some .int) 0 := ⟨wtb_at 436 (by decide +kernel) rfl, ini_R, by decide +kernel⟩
theorem in_R_size : Cond.instanceMethod y_R_size ∈ wtb := wtb_at 434 (by decide +kernel) rfl
theorem se_R_size : Cond.selects R_R y_R_size y_R_size ∈ wtb := wtb_at 435 (by decide +kernel) rfl
abbrev b_R_has : ByteArray := prog_5_method_4_code
def y_R_has : MethodName := ⟨R_R, "has", "(I)Z"⟩
abbrev w_R_has : List Cond := .code y_R_has b_R_has 2 (some .boolean) :: wtb
theorem mk_R_has : Mk y_R_has b_R_has 2 (some .boolean) 1 := ⟨wtb_at 405 (by decide +kernel) rfl, ini_R, by decide +kernel⟩
theorem in_R_has : Cond.instanceMethod y_R_has ∈ wtb := wtb_at 403 (by decide +kernel) rfl
theorem se_R_has : Cond.selects R_R y_R_has y_R_has ∈ wtb := wtb_at 404 (by decide +kernel) rfl
abbrev b_R_placeIn : ByteArray := prog_5_method_5_code
def y_R_placeIn : MethodName := ⟨R_R, "placeIn", "(II)I"⟩
abbrev w_R_placeIn : List Cond := .code y_R_placeIn b_R_placeIn 3 (some .int) :: wtb
theorem mk_R_placeIn : Mk y_R_placeIn b_R_placeIn 3 (some .int) 2 := ⟨wtb_at 401 (by decide +kernel) rfl, ini_R, by decide +kernel⟩
theorem in_R_placeIn : Cond.instanceMethod y_R_placeIn ∈ wtb := wtb_at 399 (by decide +kernel) rfl
theorem se_R_placeIn : Cond.selects R_R y_R_placeIn y_R_placeIn ∈ wtb := wtb_at 400 (by decide +kernel) rfl
abbrev b_R_commonPlace : ByteArray := prog_5_method_6_code
def y_R_commonPlace : MethodName := ⟨R_R, "commonPlace", "(I)I"⟩
abbrev w_R_commonPlace : List Cond := .code y_R_commonPlace b_R_commonPlace 4 (some .int) :: wtb
theorem mk_R_commonPlace : Mk y_R_commonPlace b_R_commonPlace 4 (some .int) 1 := ⟨wtb_at 446 (by decide +kernel) rfl, ini_R, by decide +kernel⟩
theorem in_R_commonPlace : Cond.instanceMethod y_R_commonPlace ∈ wtb := wtb_at 444 (by decide +kernel) rfl
theorem se_R_commonPlace : Cond.selects R_R y_R_commonPlace y_R_commonPlace ∈ wtb := wtb_at 445 (by decide +kernel) rfl
abbrev b_R_offer : ByteArray := prog_5_method_7_code
def y_R_offer : MethodName := ⟨R_R, "offer", "([I)V"⟩
abbrev w_R_offer : List Cond := .code y_R_offer b_R_offer 6 none :: wtb
theorem mk_R_offer : Mk y_R_offer b_R_offer 6 none 1 := ⟨wtb_at 344 (by decide +kernel) rfl, ini_R, by decide +kernel⟩
theorem in_R_offer : Cond.instanceMethod y_R_offer ∈ wtb := wtb_at 342 (by decide +kernel) rfl
theorem se_R_offer : Cond.selects R_R y_R_offer y_R_offer ∈ wtb := wtb_at 343 (by decide +kernel) rfl
abbrev b_R_positionOf : ByteArray := prog_5_method_8_code
def y_R_positionOf : MethodName := ⟨R_R, "positionOf", "([I)I"⟩
abbrev w_R_positionOf : List Cond := .code y_R_positionOf b_R_positionOf 5 (some .int) :: wtb
theorem mk_R_positionOf : Mk y_R_positionOf b_R_positionOf 5 (some .int) 1 := ⟨wtb_at 348 (by decide +kernel) rfl, ini_R, by decide +kernel⟩
theorem in_R_positionOf : Cond.instanceMethod y_R_positionOf ∈ wtb := wtb_at 347 (by decide +kernel) rfl
theorem se_R_positionOf : Cond.selects R_R y_R_positionOf y_R_positionOf ∈ wtb := wtb_at 6 (by decide +kernel) rfl
abbrev b_R_isAhead : ByteArray := prog_5_method_9_code
def y_R_isAhead : MethodName := ⟨R_R, "isAhead", "(I[I)Z"⟩
abbrev w_R_isAhead : List Cond := .code y_R_isAhead b_R_isAhead 6 (some .boolean) :: wtb
theorem mk_R_isAhead : Mk y_R_isAhead b_R_isAhead 6 (some .boolean) 2 := ⟨wtb_at 352 (by decide +kernel) rfl, ini_R, by decide +kernel⟩
theorem in_R_isAhead : Cond.instanceMethod y_R_isAhead ∈ wtb := wtb_at 351 (by decide +kernel) rfl
theorem se_R_isAhead : Cond.selects R_R y_R_isAhead y_R_isAhead ∈ wtb := wtb_at 7 (by decide +kernel) rfl
abbrev b_S_init : ByteArray := prog_6_method_1_code
def y_S_init : MethodName := ⟨R_S, "<init>", "(LCodedLetters$WordList;LCodedLetters$Code;LCodedLetters$Readings;)V"⟩
abbrev w_S_init : List Cond := .code y_S_init b_S_init 4 none :: wtb
theorem mk_S_init : Mk y_S_init b_S_init 4 none 3 := ⟨wtb_at 136 (by decide +kernel) rfl, ini_S, by decide +kernel⟩
theorem in_S_init : Cond.instanceMethod y_S_init ∈ wtb := wtb_at 135 (by decide +kernel) rfl
abbrev b_S_stepsMade : ByteArray := prog_6_method_2_code
def y_S_stepsMade : MethodName := ⟨R_S, "stepsMade", "()I"⟩
abbrev w_S_stepsMade : List Cond := .code y_S_stepsMade b_S_stepsMade 1 (some .int) :: wtb
theorem mk_S_stepsMade : Mk y_S_stepsMade b_S_stepsMade 1 (some .int) 0 := ⟨wtb_at 393 (by decide +kernel) rfl, ini_S, by decide +kernel⟩
theorem in_S_stepsMade : Cond.instanceMethod y_S_stepsMade ∈ wtb := wtb_at 391 (by decide +kernel) rfl
theorem se_S_stepsMade : Cond.selects R_S y_S_stepsMade y_S_stepsMade ∈ wtb := wtb_at 392 (by decide +kernel) rfl
abbrev b_S_seekAll : ByteArray := prog_6_method_3_code
def y_S_seekAll : MethodName := ⟨R_S, "seekAll", "(I)I"⟩
abbrev w_S_seekAll : List Cond := .code y_S_seekAll b_S_seekAll 2 (some .int) :: wtb
theorem mk_S_seekAll : Mk y_S_seekAll b_S_seekAll 2 (some .int) 1 := ⟨wtb_at 317 (by decide +kernel) rfl, ini_S, by decide +kernel⟩
theorem in_S_seekAll : Cond.instanceMethod y_S_seekAll ∈ wtb := wtb_at 315 (by decide +kernel) rfl
theorem se_S_seekAll : Cond.selects R_S y_S_seekAll y_S_seekAll ∈ wtb := wtb_at 316 (by decide +kernel) rfl
abbrev b_S_beginWithKept : ByteArray := prog_6_method_4_code
def y_S_beginWithKept : MethodName := ⟨R_S, "beginWithKept", "()Z"⟩
abbrev w_S_beginWithKept : List Cond := .code y_S_beginWithKept b_S_beginWithKept 3 (some .boolean) :: wtb
theorem mk_S_beginWithKept : Mk y_S_beginWithKept b_S_beginWithKept 3 (some .boolean) 0 := ⟨wtb_at 322 (by decide +kernel) rfl, ini_S, by decide +kernel⟩
theorem in_S_beginWithKept : Cond.instanceMethod y_S_beginWithKept ∈ wtb := wtb_at 321 (by decide +kernel) rfl
theorem se_S_beginWithKept : Cond.selects R_S y_S_beginWithKept y_S_beginWithKept ∈ wtb := wtb_at 4 (by decide +kernel) rfl
abbrev b_S_seekFrom : ByteArray := prog_6_method_5_code
def y_S_seekFrom : MethodName := ⟨R_S, "seekFrom", "(I)V"⟩
abbrev w_S_seekFrom : List Cond := .code y_S_seekFrom b_S_seekFrom 4 none :: wtb
theorem mk_S_seekFrom : Mk y_S_seekFrom b_S_seekFrom 4 none 1 := ⟨wtb_at 336 (by decide +kernel) rfl, ini_S, by decide +kernel⟩
theorem in_S_seekFrom : Cond.instanceMethod y_S_seekFrom ∈ wtb := wtb_at 335 (by decide +kernel) rfl
theorem se_S_seekFrom : Cond.selects R_S y_S_seekFrom y_S_seekFrom ∈ wtb := wtb_at 5 (by decide +kernel) rfl
abbrev b_S_tryWord : ByteArray := prog_6_method_6_code
def y_S_tryWord : MethodName := ⟨R_S, "tryWord", "(II)V"⟩
abbrev w_S_tryWord : List Cond := .code y_S_tryWord b_S_tryWord 4 none :: wtb
theorem mk_S_tryWord : Mk y_S_tryWord b_S_tryWord 4 none 2 := ⟨wtb_at 366 (by decide +kernel) rfl, ini_S, by decide +kernel⟩
theorem in_S_tryWord : Cond.instanceMethod y_S_tryWord ∈ wtb := wtb_at 365 (by decide +kernel) rfl
theorem se_S_tryWord : Cond.selects R_S y_S_tryWord y_S_tryWord ∈ wtb := wtb_at 8 (by decide +kernel) rfl
abbrev b_S_agrees : ByteArray := prog_6_method_7_code
def y_S_agrees : MethodName := ⟨R_S, "agrees", "(II)Z"⟩
abbrev w_S_agrees : List Cond := .code y_S_agrees b_S_agrees 5 (some .boolean) :: wtb
theorem mk_S_agrees : Mk y_S_agrees b_S_agrees 5 (some .boolean) 2 := ⟨wtb_at 370 (by decide +kernel) rfl, ini_S, by decide +kernel⟩
theorem in_S_agrees : Cond.instanceMethod y_S_agrees ∈ wtb := wtb_at 369 (by decide +kernel) rfl
theorem se_S_agrees : Cond.selects R_S y_S_agrees y_S_agrees ∈ wtb := wtb_at 9 (by decide +kernel) rfl
abbrev b_S_give : ByteArray := prog_6_method_8_code
def y_S_give : MethodName := ⟨R_S, "give", "(II)Z"⟩
abbrev w_S_give : List Cond := .code y_S_give b_S_give 3 (some .boolean) :: wtb
theorem mk_S_give : Mk y_S_give b_S_give 3 (some .boolean) 2 := ⟨wtb_at 380 (by decide +kernel) rfl, ini_S, by decide +kernel⟩
theorem in_S_give : Cond.instanceMethod y_S_give ∈ wtb := wtb_at 379 (by decide +kernel) rfl
theorem se_S_give : Cond.selects R_S y_S_give y_S_give ∈ wtb := wtb_at 10 (by decide +kernel) rfl
abbrev b_S_takeBack : ByteArray := prog_6_method_9_code
def y_S_takeBack : MethodName := ⟨R_S, "takeBack", "(I)V"⟩
abbrev w_S_takeBack : List Cond := .code y_S_takeBack b_S_takeBack 5 none :: wtb
theorem mk_S_takeBack : Mk y_S_takeBack b_S_takeBack 5 none 1 := ⟨wtb_at 385 (by decide +kernel) rfl, ini_S, by decide +kernel⟩
theorem in_S_takeBack : Cond.instanceMethod y_S_takeBack ∈ wtb := wtb_at 384 (by decide +kernel) rfl
theorem se_S_takeBack : Cond.selects R_S y_S_takeBack y_S_takeBack ∈ wtb := wtb_at 11 (by decide +kernel) rfl
abbrev b_B_init : ByteArray := prog_7_method_1_code
def y_B_init : MethodName := ⟨R_B, "<init>", "(LCodedLetters$WordList;LCodedLetters$PlainText;)V"⟩
abbrev w_B_init : List Cond := .code y_B_init b_B_init 3 none :: wtb
theorem mk_B_init : Mk y_B_init b_B_init 3 none 2 := ⟨wtb_at 189 (by decide +kernel) rfl, ini_B, by decide +kernel⟩
theorem in_B_init : Cond.instanceMethod y_B_init ∈ wtb := wtb_at 188 (by decide +kernel) rfl
abbrev b_B_fewestWords : ByteArray := prog_7_method_2_code
def y_B_fewestWords : MethodName := ⟨R_B, "fewestWords", "()I"⟩
abbrev w_B_fewestWords : List Cond := .code y_B_fewestWords b_B_fewestWords 3 (some .int) :: wtb
theorem mk_B_fewestWords : Mk y_B_fewestWords b_B_fewestWords 3 (some .int) 0 := ⟨wtb_at 504 (by decide +kernel) rfl, ini_B, by decide +kernel⟩
theorem in_B_fewestWords : Cond.instanceMethod y_B_fewestWords ∈ wtb := wtb_at 502 (by decide +kernel) rfl
theorem se_B_fewestWords : Cond.selects R_B y_B_fewestWords y_B_fewestWords ∈ wtb := wtb_at 503 (by decide +kernel) rfl
abbrev b_B_wordOf : ByteArray := prog_7_method_3_code
def y_B_wordOf : MethodName := ⟨R_B, "wordOf", "(I)I"⟩
abbrev w_B_wordOf : List Cond := .code y_B_wordOf b_B_wordOf 4 (some .int) :: wtb
theorem mk_B_wordOf : Mk y_B_wordOf b_B_wordOf 4 (some .int) 1 := ⟨wtb_at 525 (by decide +kernel) rfl, ini_B, by decide +kernel⟩
theorem in_B_wordOf : Cond.instanceMethod y_B_wordOf ∈ wtb := wtb_at 523 (by decide +kernel) rfl
theorem se_B_wordOf : Cond.selects R_B y_B_wordOf y_B_wordOf ∈ wtb := wtb_at 524 (by decide +kernel) rfl
abbrev b_B_fewestAt : ByteArray := prog_7_method_4_code
def y_B_fewestAt : MethodName := ⟨R_B, "fewestAt", "(I)I"⟩
abbrev w_B_fewestAt : List Cond := .code y_B_fewestAt b_B_fewestAt 5 (some .int) :: wtb
theorem mk_B_fewestAt : Mk y_B_fewestAt b_B_fewestAt 5 (some .int) 1 := ⟨wtb_at 509 (by decide +kernel) rfl, ini_B, by decide +kernel⟩
theorem in_B_fewestAt : Cond.instanceMethod y_B_fewestAt ∈ wtb := wtb_at 508 (by decide +kernel) rfl
theorem se_B_fewestAt : Cond.selects R_B y_B_fewestAt y_B_fewestAt ∈ wtb := wtb_at 14 (by decide +kernel) rfl
abbrev b_B_leastWordAt : ByteArray := prog_7_method_5_code
def y_B_leastWordAt : MethodName := ⟨R_B, "leastWordAt", "(I)I"⟩
abbrev w_B_leastWordAt : List Cond := .code y_B_leastWordAt b_B_leastWordAt 4 (some .int) :: wtb
theorem mk_B_leastWordAt : Mk y_B_leastWordAt b_B_leastWordAt 4 (some .int) 1 := ⟨wtb_at 530 (by decide +kernel) rfl, ini_B, by decide +kernel⟩
theorem in_B_leastWordAt : Cond.instanceMethod y_B_leastWordAt ∈ wtb := wtb_at 529 (by decide +kernel) rfl
theorem se_B_leastWordAt : Cond.selects R_B y_B_leastWordAt y_B_leastWordAt ∈ wtb := wtb_at 16 (by decide +kernel) rfl
abbrev b_B_fewestBehind : ByteArray := prog_7_method_6_code
def y_B_fewestBehind : MethodName := ⟨R_B, "fewestBehind", "(II)I"⟩
abbrev w_B_fewestBehind : List Cond := .code y_B_fewestBehind b_B_fewestBehind 5 (some .int) :: wtb
theorem mk_B_fewestBehind : Mk y_B_fewestBehind b_B_fewestBehind 5 (some .int) 2 := ⟨wtb_at 514 (by decide +kernel) rfl, ini_B, by decide +kernel⟩
theorem in_B_fewestBehind : Cond.instanceMethod y_B_fewestBehind ∈ wtb := wtb_at 513 (by decide +kernel) rfl
theorem se_B_fewestBehind : Cond.selects R_B y_B_fewestBehind y_B_fewestBehind ∈ wtb := wtb_at 15 (by decide +kernel) rfl
abbrev b_W_init : ByteArray := prog_8_method_1_code
def y_W_init : MethodName := ⟨R_W, "<init>", "()V"⟩
abbrev w_W_init : List Cond := .code y_W_init b_W_init 1 none :: wtb
theorem mk_W_init : Mk y_W_init b_W_init 1 none 0 := ⟨wtb_at 55 (by decide +kernel) rfl, ini_W, by decide +kernel⟩
theorem in_W_init : Cond.instanceMethod y_W_init ∈ wtb := wtb_at 54 (by decide +kernel) rfl
abbrev b_W_collect : ByteArray := prog_8_method_2_code
def y_W_collect : MethodName := ⟨R_W, "collect", "(I)Z"⟩
abbrev w_W_collect : List Cond := .code y_W_collect b_W_collect 2 (some .boolean) :: wtb
theorem mk_W_collect : Mk y_W_collect b_W_collect 2 (some .boolean) 1 := ⟨wtb_at 233 (by decide +kernel) rfl, ini_W, by decide +kernel⟩
theorem in_W_collect : Cond.instanceMethod y_W_collect ∈ wtb := wtb_at 231 (by decide +kernel) rfl
theorem se_W_collect : Cond.selects R_W y_W_collect y_W_collect ∈ wtb := wtb_at 232 (by decide +kernel) rfl
abbrev b_W_takeCollected : ByteArray := prog_8_method_3_code
def y_W_takeCollected : MethodName := ⟨R_W, "takeCollected", "()I"⟩
abbrev w_W_takeCollected : List Cond := .code y_W_takeCollected b_W_takeCollected 2 (some .int) :: wtb
theorem mk_W_takeCollected : Mk y_W_takeCollected b_W_takeCollected 2 (some .int) 0 := ⟨wtb_at 244 (by decide +kernel) rfl, ini_W, by decide +kernel⟩
theorem in_W_takeCollected : Cond.instanceMethod y_W_takeCollected ∈ wtb := wtb_at 242 (by decide +kernel) rfl
theorem se_W_takeCollected : Cond.selects R_W y_W_takeCollected y_W_takeCollected ∈ wtb := wtb_at 243 (by decide +kernel) rfl
abbrev b_W_size : ByteArray := prog_8_method_4_code
def y_W_size : MethodName := ⟨R_W, "size", "()I"⟩
abbrev w_W_size : List Cond := .code y_W_size b_W_size 1 (some .int) :: wtb
theorem mk_W_size : Mk y_W_size b_W_size 1 (some .int) 0 := ⟨wtb_at 361 (by decide +kernel) rfl, ini_W, by decide +kernel⟩
theorem in_W_size : Cond.instanceMethod y_W_size ∈ wtb := wtb_at 359 (by decide +kernel) rfl
theorem se_W_size : Cond.selects R_W y_W_size y_W_size ∈ wtb := wtb_at 360 (by decide +kernel) rfl
abbrev b_W_lengthOf : ByteArray := prog_8_method_5_code
def y_W_lengthOf : MethodName := ⟨R_W, "lengthOf", "(I)I"⟩
abbrev w_W_lengthOf : List Cond := .code y_W_lengthOf b_W_lengthOf 2 (some .int) :: wtb
theorem mk_W_lengthOf : Mk y_W_lengthOf b_W_lengthOf 2 (some .int) 1 := ⟨wtb_at 256 (by decide +kernel) rfl, ini_W, by decide +kernel⟩
theorem in_W_lengthOf : Cond.instanceMethod y_W_lengthOf ∈ wtb := wtb_at 254 (by decide +kernel) rfl
theorem se_W_lengthOf : Cond.selects R_W y_W_lengthOf y_W_lengthOf ∈ wtb := wtb_at 255 (by decide +kernel) rfl
abbrev b_W_placeAt : ByteArray := prog_8_method_6_code
def y_W_placeAt : MethodName := ⟨R_W, "placeAt", "(II)I"⟩
abbrev w_W_placeAt : List Cond := .code y_W_placeAt b_W_placeAt 3 (some .int) :: wtb
theorem mk_W_placeAt : Mk y_W_placeAt b_W_placeAt 3 (some .int) 2 := ⟨wtb_at 260 (by decide +kernel) rfl, ini_W, by decide +kernel⟩
theorem in_W_placeAt : Cond.instanceMethod y_W_placeAt ∈ wtb := wtb_at 258 (by decide +kernel) rfl
theorem se_W_placeAt : Cond.selects R_W y_W_placeAt y_W_placeAt ∈ wtb := wtb_at 259 (by decide +kernel) rfl
abbrev b_W_numberOfCollected : ByteArray := prog_8_method_7_code
def y_W_numberOfCollected : MethodName := ⟨R_W, "numberOfCollected", "()I"⟩
abbrev w_W_numberOfCollected : List Cond := .code y_W_numberOfCollected b_W_numberOfCollected 2 (some .int) :: wtb
theorem mk_W_numberOfCollected : Mk y_W_numberOfCollected b_W_numberOfCollected 2 (some .int) 0 := ⟨wtb_at 248 (by decide +kernel) rfl, ini_W, by decide +kernel⟩
theorem in_W_numberOfCollected : Cond.instanceMethod y_W_numberOfCollected ∈ wtb := wtb_at 247 (by decide +kernel) rfl
theorem se_W_numberOfCollected : Cond.selects R_W y_W_numberOfCollected y_W_numberOfCollected ∈ wtb := wtb_at 0 (by decide +kernel) rfl
abbrev b_W_isCollected : ByteArray := prog_8_method_8_code
def y_W_isCollected : MethodName := ⟨R_W, "isCollected", "(I)Z"⟩
abbrev w_W_isCollected : List Cond := .code y_W_isCollected b_W_isCollected 3 (some .boolean) :: wtb
theorem mk_W_isCollected : Mk y_W_isCollected b_W_isCollected 3 (some .boolean) 1 := ⟨wtb_at 252 (by decide +kernel) rfl, ini_W, by decide +kernel⟩
theorem in_W_isCollected : Cond.instanceMethod y_W_isCollected ∈ wtb := wtb_at 251 (by decide +kernel) rfl
theorem se_W_isCollected : Cond.selects R_W y_W_isCollected y_W_isCollected ∈ wtb := wtb_at 1 (by decide +kernel) rfl
abbrev b_W_addCollected : ByteArray := prog_8_method_9_code
def y_W_addCollected : MethodName := ⟨R_W, "addCollected", "()I"⟩
abbrev w_W_addCollected : List Cond := .code y_W_addCollected b_W_addCollected 2 (some .int) :: wtb
theorem mk_W_addCollected : Mk y_W_addCollected b_W_addCollected 2 (some .int) 0 := ⟨wtb_at 264 (by decide +kernel) rfl, ini_W, by decide +kernel⟩
theorem in_W_addCollected : Cond.instanceMethod y_W_addCollected ∈ wtb := wtb_at 263 (by decide +kernel) rfl
theorem se_W_addCollected : Cond.selects R_W y_W_addCollected y_W_addCollected ∈ wtb := wtb_at 2 (by decide +kernel) rfl
abbrev b_H_floorMod : ByteArray := prog_11_method_50_code
def y_H_floorMod : MethodName := ⟨R_H, "floorMod", "(II)I"⟩
abbrev w_H_floorMod : List Cond := .code y_H_floorMod b_H_floorMod 3 (some .int) :: wtb
theorem mk_H_floorMod : Mk y_H_floorMod b_H_floorMod 3 (some .int) 2 := ⟨wtb_at 472 (by decide +kernel) rfl, ini_H, by decide +kernel⟩
theorem st_H_floorMod : Cond.static y_H_floorMod ∈ wtb := wtb_at 471 (by decide +kernel) rfl
abbrev b_A_fill : ByteArray := prog_13_method_103_code
def y_A_fill : MethodName := ⟨R_A, "fill", "([II)V"⟩
abbrev w_A_fill : List Cond := .code y_A_fill b_A_fill 4 none :: wtb
theorem mk_A_fill : Mk y_A_fill b_A_fill 4 none 2 := ⟨wtb_at 82 (by decide +kernel) rfl, ini_A, by decide +kernel⟩
theorem st_A_fill : Cond.static y_A_fill ∈ wtb := wtb_at 81 (by decide +kernel) rfl
theorem cl_L_7 : Cond.classLink R_law 7 R_C ∈ wtb := wtb_at 43 (by decide +kernel) rfl
theorem ml_L_9 : Cond.methodLink R_law 9 y_C_init ∈ wtb := wtb_at 45 (by decide +kernel) rfl
theorem ml_C_3 : Cond.methodLink R_C 3 objectInit ∈ wtb := wtb_at 48 (by decide +kernel) rfl
theorem cl_C_9 : Cond.classLink R_C 9 R_W ∈ wtb := wtb_at 51 (by decide +kernel) rfl
theorem ml_W_3 : Cond.methodLink R_W 3 objectInit ∈ wtb := wtb_at 56 (by decide +kernel) rfl
theorem fl_W_9 : Cond.fieldLink R_W 9 R_W "places" "[I" ∈ wtb := wtb_at 57 (by decide +kernel) rfl
theorem fl_W_15 : Cond.fieldLink R_W 15 R_W "lengths" "[I" ∈ wtb := wtb_at 58 (by decide +kernel) rfl
theorem fl_W_18 : Cond.fieldLink R_W 18 R_W "collected" "[I" ∈ wtb := wtb_at 59 (by decide +kernel) rfl
theorem fl_W_21 : Cond.fieldLink R_W 21 R_W "count" "I" ∈ wtb := wtb_at 60 (by decide +kernel) rfl
theorem fl_W_25 : Cond.fieldLink R_W 25 R_W "collectedCount" "I" ∈ wtb := wtb_at 61 (by decide +kernel) rfl
theorem cl_C_16 : Cond.classLink R_C 16 R_K ∈ wtb := wtb_at 74 (by decide +kernel) rfl
theorem ml_C_18 : Cond.methodLink R_C 18 y_K_init ∈ wtb := wtb_at 76 (by decide +kernel) rfl
theorem ml_K_3 : Cond.methodLink R_K 3 objectInit ∈ wtb := wtb_at 79 (by decide +kernel) rfl
theorem ml_K_35 : Cond.methodLink R_K 35 y_A_fill ∈ wtb := wtb_at 80 (by decide +kernel) rfl
theorem fl_K_9 : Cond.fieldLink R_K 9 R_K "signs" "[I" ∈ wtb := wtb_at 83 (by decide +kernel) rfl
theorem fl_K_15 : Cond.fieldLink R_K 15 R_K "starts" "[I" ∈ wtb := wtb_at 84 (by decide +kernel) rfl
theorem fl_K_18 : Cond.fieldLink R_K 18 R_K "lengths" "[I" ∈ wtb := wtb_at 85 (by decide +kernel) rfl
theorem fl_K_21 : Cond.fieldLink R_K 21 R_K "present" "[Z" ∈ wtb := wtb_at 86 (by decide +kernel) rfl
theorem fl_K_25 : Cond.fieldLink R_K 25 R_K "kept" "[I" ∈ wtb := wtb_at 87 (by decide +kernel) rfl
theorem fl_K_28 : Cond.fieldLink R_K 28 R_K "count" "I" ∈ wtb := wtb_at 88 (by decide +kernel) rfl
theorem fl_K_32 : Cond.fieldLink R_K 32 R_K "codewordCount" "I" ∈ wtb := wtb_at 89 (by decide +kernel) rfl
theorem cl_C_23 : Cond.classLink R_C 23 R_P ∈ wtb := wtb_at 106 (by decide +kernel) rfl
theorem ml_P_3 : Cond.methodLink R_P 3 objectInit ∈ wtb := wtb_at 111 (by decide +kernel) rfl
theorem fl_P_9 : Cond.fieldLink R_P 9 R_P "weights" "[I" ∈ wtb := wtb_at 112 (by decide +kernel) rfl
theorem cl_C_30 : Cond.classLink R_C 30 R_R ∈ wtb := wtb_at 116 (by decide +kernel) rfl
theorem ml_R_3 : Cond.methodLink R_R 3 objectInit ∈ wtb := wtb_at 121 (by decide +kernel) rfl
theorem fl_R_9 : Cond.fieldLink R_R 9 R_R "places" "[I" ∈ wtb := wtb_at 122 (by decide +kernel) rfl
theorem fl_R_15 : Cond.fieldLink R_R 15 R_R "slots" "[I" ∈ wtb := wtb_at 123 (by decide +kernel) rfl
theorem fl_R_18 : Cond.fieldLink R_R 18 R_R "count" "I" ∈ wtb := wtb_at 124 (by decide +kernel) rfl
theorem cl_C_37 : Cond.classLink R_C 37 R_S ∈ wtb := wtb_at 132 (by decide +kernel) rfl
theorem ml_C_39 : Cond.methodLink R_C 39 y_S_init ∈ wtb := wtb_at 134 (by decide +kernel) rfl
theorem ml_S_3 : Cond.methodLink R_S 3 objectInit ∈ wtb := wtb_at 137 (by decide +kernel) rfl
theorem fl_S_39 : Cond.fieldLink R_S 39 R_S "words" "LCodedLetters$WordList;" ∈ wtb := wtb_at 138 (by decide +kernel) rfl
theorem fl_S_43 : Cond.fieldLink R_S 43 R_S "code" "LCodedLetters$Code;" ∈ wtb := wtb_at 139 (by decide +kernel) rfl
theorem fl_S_47 : Cond.fieldLink R_S 47 R_S "readings" "LCodedLetters$Readings;" ∈ wtb := wtb_at 140 (by decide +kernel) rfl
theorem fl_S_9 : Cond.fieldLink R_S 9 R_S "places" "[I" ∈ wtb := wtb_at 141 (by decide +kernel) rfl
theorem fl_S_15 : Cond.fieldLink R_S 15 R_S "taken" "[Z" ∈ wtb := wtb_at 142 (by decide +kernel) rfl
theorem fl_S_19 : Cond.fieldLink R_S 19 R_S "given" "[I" ∈ wtb := wtb_at 143 (by decide +kernel) rfl
theorem fl_S_22 : Cond.fieldLink R_S 22 R_S "givenCount" "I" ∈ wtb := wtb_at 144 (by decide +kernel) rfl
theorem fl_S_26 : Cond.fieldLink R_S 26 R_S "allowed" "I" ∈ wtb := wtb_at 145 (by decide +kernel) rfl
theorem fl_S_29 : Cond.fieldLink R_S 29 R_S "made" "I" ∈ wtb := wtb_at 146 (by decide +kernel) rfl
theorem fl_S_32 : Cond.fieldLink R_S 32 R_S "found" "I" ∈ wtb := wtb_at 147 (by decide +kernel) rfl
theorem fl_S_35 : Cond.fieldLink R_S 35 R_S "stopped" "Z" ∈ wtb := wtb_at 148 (by decide +kernel) rfl
theorem cl_C_46 : Cond.classLink R_C 46 R_X ∈ wtb := wtb_at 172 (by decide +kernel) rfl
theorem ml_X_3 : Cond.methodLink R_X 3 objectInit ∈ wtb := wtb_at 177 (by decide +kernel) rfl
theorem fl_X_9 : Cond.fieldLink R_X 9 R_X "places" "[I" ∈ wtb := wtb_at 178 (by decide +kernel) rfl
theorem fl_X_15 : Cond.fieldLink R_X 15 R_X "count" "I" ∈ wtb := wtb_at 179 (by decide +kernel) rfl
theorem cl_C_53 : Cond.classLink R_C 53 R_B ∈ wtb := wtb_at 185 (by decide +kernel) rfl
theorem ml_C_55 : Cond.methodLink R_C 55 y_B_init ∈ wtb := wtb_at 187 (by decide +kernel) rfl
theorem ml_B_3 : Cond.methodLink R_B 3 objectInit ∈ wtb := wtb_at 190 (by decide +kernel) rfl
theorem fl_B_15 : Cond.fieldLink R_B 15 R_B "words" "LCodedLetters$WordList;" ∈ wtb := wtb_at 191 (by decide +kernel) rfl
theorem fl_B_19 : Cond.fieldLink R_B 19 R_B "text" "LCodedLetters$PlainText;" ∈ wtb := wtb_at 192 (by decide +kernel) rfl
theorem fl_B_9 : Cond.fieldLink R_B 9 R_B "fewest" "[I" ∈ wtb := wtb_at 193 (by decide +kernel) rfl
theorem fl_C_12 : Cond.fieldLink R_C 12 R_C "words" "LCodedLetters$WordList;" ∈ wtb := wtb_at 201 (by decide +kernel) rfl
theorem fl_C_19 : Cond.fieldLink R_C 19 R_C "code" "LCodedLetters$Code;" ∈ wtb := wtb_at 202 (by decide +kernel) rfl
theorem fl_C_26 : Cond.fieldLink R_C 26 R_C "pairs" "LCodedLetters$Pairs;" ∈ wtb := wtb_at 203 (by decide +kernel) rfl
theorem fl_C_33 : Cond.fieldLink R_C 33 R_C "readings" "LCodedLetters$Readings;" ∈ wtb := wtb_at 204 (by decide +kernel) rfl
theorem fl_C_42 : Cond.fieldLink R_C 42 R_C "search" "LCodedLetters$Search;" ∈ wtb := wtb_at 205 (by decide +kernel) rfl
theorem fl_C_49 : Cond.fieldLink R_C 49 R_C "plainText" "LCodedLetters$PlainText;" ∈ wtb := wtb_at 206 (by decide +kernel) rfl
theorem fl_C_58 : Cond.fieldLink R_C 58 R_C "wordBreaks" "LCodedLetters$WordBreaks;" ∈ wtb := wtb_at 207 (by decide +kernel) rfl
theorem ml_L_13 : Cond.methodLink R_law 13 y_C_unit ∈ wtb := wtb_at 223 (by decide +kernel) rfl
theorem ml_C_62 : Cond.methodLink R_C 62 y_C_placeOf ∈ wtb := wtb_at 227 (by decide +kernel) rfl
theorem ml_C_66 : Cond.methodLink R_C 66 y_W_collect ∈ wtb := wtb_at 230 (by decide +kernel) rfl
theorem ml_L_18 : Cond.methodLink R_law 18 y_C_word ∈ wtb := wtb_at 237 (by decide +kernel) rfl
theorem ml_C_70 : Cond.methodLink R_C 70 y_W_takeCollected ∈ wtb := wtb_at 241 (by decide +kernel) rfl
theorem ml_W_32 : Cond.methodLink R_W 32 y_W_numberOfCollected ∈ wtb := wtb_at 245 (by decide +kernel) rfl
theorem ml_W_40 : Cond.methodLink R_W 40 y_W_isCollected ∈ wtb := wtb_at 249 (by decide +kernel) rfl
theorem ml_W_36 : Cond.methodLink R_W 36 y_W_lengthOf ∈ wtb := wtb_at 253 (by decide +kernel) rfl
theorem ml_W_46 : Cond.methodLink R_W 46 y_W_placeAt ∈ wtb := wtb_at 257 (by decide +kernel) rfl
theorem ml_W_43 : Cond.methodLink R_W 43 y_W_addCollected ∈ wtb := wtb_at 261 (by decide +kernel) rfl
theorem ml_W_50 : Cond.methodLink R_W 50 arraycopyName ∈ wtb := wtb_at 265 (by decide +kernel) rfl
theorem ml_L_23 : Cond.methodLink R_law 23 y_C_sign ∈ wtb := wtb_at 268 (by decide +kernel) rfl
theorem ml_C_74 : Cond.methodLink R_C 74 y_K_append ∈ wtb := wtb_at 272 (by decide +kernel) rfl
theorem ml_K_45 : Cond.methodLink R_K 45 y_K_growCodeword ∈ wtb := wtb_at 279 (by decide +kernel) rfl
theorem ml_K_52 : Cond.methodLink R_K 52 y_K_signAt ∈ wtb := wtb_at 283 (by decide +kernel) rfl
theorem ml_C_77 : Cond.methodLink R_C 77 y_R_forget ∈ wtb := wtb_at 287 (by decide +kernel) rfl
theorem ml_L_27 : Cond.methodLink R_law 27 y_C_keep ∈ wtb := wtb_at 291 (by decide +kernel) rfl
theorem ml_C_80 : Cond.methodLink R_C 80 y_C_isNumber ∈ wtb := wtb_at 295 (by decide +kernel) rfl
theorem ml_C_83 : Cond.methodLink R_C 83 y_K_keepPlace ∈ wtb := wtb_at 296 (by decide +kernel) rfl
theorem ml_L_32 : Cond.methodLink R_law 32 y_C_pair ∈ wtb := wtb_at 300 (by decide +kernel) rfl
theorem ml_C_87 : Cond.methodLink R_C 87 y_P_weigh ∈ wtb := wtb_at 304 (by decide +kernel) rfl
theorem ml_L_37 : Cond.methodLink R_law 37 y_C_run ∈ wtb := wtb_at 309 (by decide +kernel) rfl
theorem co_C_91 : Jvm.Cond.constant R_C 91 (iI (100000)) ∈ wtb := wtb_at 313 (by decide +kernel) rfl
theorem ml_C_92 : Cond.methodLink R_C 92 y_S_seekAll ∈ wtb := wtb_at 314 (by decide +kernel) rfl
theorem ml_S_51 : Cond.methodLink R_S 51 y_R_forget ∈ wtb := wtb_at 318 (by decide +kernel) rfl
theorem ml_S_56 : Cond.methodLink R_S 56 y_S_beginWithKept ∈ wtb := wtb_at 319 (by decide +kernel) rfl
theorem ml_S_64 : Cond.methodLink R_S 64 y_A_fill ∈ wtb := wtb_at 323 (by decide +kernel) rfl
theorem ml_S_70 : Cond.methodLink R_S 70 y_K_keptPlace ∈ wtb := wtb_at 324 (by decide +kernel) rfl
theorem ml_S_76 : Cond.methodLink R_S 76 y_K_contains ∈ wtb := wtb_at 328 (by decide +kernel) rfl
theorem ml_S_60 : Cond.methodLink R_S 60 y_S_seekFrom ∈ wtb := wtb_at 333 (by decide +kernel) rfl
theorem ml_S_83 : Cond.methodLink R_S 83 y_K_codewordCount ∈ wtb := wtb_at 337 (by decide +kernel) rfl
theorem ml_S_87 : Cond.methodLink R_S 87 y_R_offer ∈ wtb := wtb_at 341 (by decide +kernel) rfl
theorem ml_R_33 : Cond.methodLink R_R 33 y_R_positionOf ∈ wtb := wtb_at 345 (by decide +kernel) rfl
theorem ml_R_43 : Cond.methodLink R_R 43 y_R_isAhead ∈ wtb := wtb_at 349 (by decide +kernel) rfl
theorem ml_R_37 : Cond.methodLink R_R 37 arraycopyName ∈ wtb := wtb_at 353 (by decide +kernel) rfl
theorem ml_S_91 : Cond.methodLink R_S 91 y_K_codewordLength ∈ wtb := wtb_at 354 (by decide +kernel) rfl
theorem ml_S_94 : Cond.methodLink R_S 94 y_W_size ∈ wtb := wtb_at 358 (by decide +kernel) rfl
theorem ml_S_99 : Cond.methodLink R_S 99 y_W_lengthOf ∈ wtb := wtb_at 362 (by decide +kernel) rfl
theorem ml_S_102 : Cond.methodLink R_S 102 y_S_tryWord ∈ wtb := wtb_at 363 (by decide +kernel) rfl
theorem ml_S_106 : Cond.methodLink R_S 106 y_S_agrees ∈ wtb := wtb_at 367 (by decide +kernel) rfl
theorem ml_S_113 : Cond.methodLink R_S 113 y_K_numberAt ∈ wtb := wtb_at 371 (by decide +kernel) rfl
theorem ml_K_48 : Cond.methodLink R_K 48 y_K_codewordLength ∈ wtb := wtb_at 375 (by decide +kernel) rfl
theorem ml_S_117 : Cond.methodLink R_S 117 y_W_placeAt ∈ wtb := wtb_at 376 (by decide +kernel) rfl
theorem ml_S_120 : Cond.methodLink R_S 120 y_S_give ∈ wtb := wtb_at 377 (by decide +kernel) rfl
theorem ml_S_110 : Cond.methodLink R_S 110 y_S_takeBack ∈ wtb := wtb_at 382 (by decide +kernel) rfl
theorem ml_L_42 : Cond.methodLink R_law 42 y_C_steps ∈ wtb := wtb_at 386 (by decide +kernel) rfl
theorem ml_C_95 : Cond.methodLink R_C 95 y_S_stepsMade ∈ wtb := wtb_at 390 (by decide +kernel) rfl
theorem ml_L_46 : Cond.methodLink R_law 46 y_C_letter ∈ wtb := wtb_at 394 (by decide +kernel) rfl
theorem ml_C_98 : Cond.methodLink R_C 98 y_R_placeIn ∈ wtb := wtb_at 398 (by decide +kernel) rfl
theorem ml_R_22 : Cond.methodLink R_R 22 y_R_has ∈ wtb := wtb_at 402 (by decide +kernel) rfl
theorem ml_C_102 : Cond.methodLink R_C 102 y_C_letterOf ∈ wtb := wtb_at 407 (by decide +kernel) rfl
theorem ml_C_168 : Cond.methodLink R_C 168 y_C_isPlace ∈ wtb := wtb_at 410 (by decide +kernel) rfl
theorem ml_L_51 : Cond.methodLink R_law 51 y_C_rank ∈ wtb := wtb_at 411 (by decide +kernel) rfl
theorem ml_C_105 : Cond.methodLink R_C 105 y_R_has ∈ wtb := wtb_at 415 (by decide +kernel) rfl
theorem ml_C_108 : Cond.methodLink R_C 108 y_C_rankOfKept ∈ wtb := wtb_at 416 (by decide +kernel) rfl
theorem ml_C_157 : Cond.methodLink R_C 157 y_K_size ∈ wtb := wtb_at 420 (by decide +kernel) rfl
theorem ml_C_158 : Cond.methodLink R_C 158 y_K_signAt ∈ wtb := wtb_at 424 (by decide +kernel) rfl
theorem ml_C_161 : Cond.methodLink R_C 161 y_P_weightOf ∈ wtb := wtb_at 425 (by decide +kernel) rfl
theorem ml_L_56 : Cond.methodLink R_law 56 y_C_best ∈ wtb := wtb_at 429 (by decide +kernel) rfl
theorem ml_C_112 : Cond.methodLink R_C 112 y_R_size ∈ wtb := wtb_at 433 (by decide +kernel) rfl
theorem ml_L_60 : Cond.methodLink R_law 60 y_C_hint ∈ wtb := wtb_at 437 (by decide +kernel) rfl
theorem ml_C_115 : Cond.methodLink R_C 115 y_K_contains ∈ wtb := wtb_at 441 (by decide +kernel) rfl
theorem ml_C_118 : Cond.methodLink R_C 118 y_K_keptPlace ∈ wtb := wtb_at 442 (by decide +kernel) rfl
theorem ml_C_121 : Cond.methodLink R_C 121 y_R_commonPlace ∈ wtb := wtb_at 443 (by decide +kernel) rfl
theorem ml_R_29 : Cond.methodLink R_R 29 y_R_placeIn ∈ wtb := wtb_at 447 (by decide +kernel) rfl
theorem ml_L_64 : Cond.methodLink R_law 64 y_C_codewords ∈ wtb := wtb_at 448 (by decide +kernel) rfl
theorem ml_C_124 : Cond.methodLink R_C 124 y_K_codewordCount ∈ wtb := wtb_at 452 (by decide +kernel) rfl
theorem ml_L_68 : Cond.methodLink R_law 68 y_C_plain ∈ wtb := wtb_at 453 (by decide +kernel) rfl
theorem ml_C_127 : Cond.methodLink R_C 127 y_X_append ∈ wtb := wtb_at 457 (by decide +kernel) rfl
theorem ml_L_72 : Cond.methodLink R_law 72 y_C_shifted ∈ wtb := wtb_at 462 (by decide +kernel) rfl
theorem ml_C_128 : Cond.methodLink R_C 128 y_X_placeAt ∈ wtb := wtb_at 466 (by decide +kernel) rfl
theorem ml_C_131 : Cond.methodLink R_C 131 y_H_floorMod ∈ wtb := wtb_at 470 (by decide +kernel) rfl
theorem ml_C_136 : Cond.methodLink R_C 136 y_C_shiftedLetter ∈ wtb := wtb_at 473 (by decide +kernel) rfl
theorem ml_C_165 : Cond.methodLink R_C 165 y_C_shiftedPlace ∈ wtb := wtb_at 476 (by decide +kernel) rfl
theorem ml_L_76 : Cond.methodLink R_law 76 y_C_bestShift ∈ wtb := wtb_at 479 (by decide +kernel) rfl
theorem ml_C_139 : Cond.methodLink R_C 139 y_C_shiftedSum ∈ wtb := wtb_at 483 (by decide +kernel) rfl
theorem ml_C_164 : Cond.methodLink R_C 164 y_X_size ∈ wtb := wtb_at 487 (by decide +kernel) rfl
theorem ml_L_80 : Cond.methodLink R_law 80 y_C_keyed ∈ wtb := wtb_at 491 (by decide +kernel) rfl
theorem ml_C_142 : Cond.methodLink R_C 142 y_W_lengthOf ∈ wtb := wtb_at 495 (by decide +kernel) rfl
theorem ml_C_145 : Cond.methodLink R_C 145 y_W_placeAt ∈ wtb := wtb_at 496 (by decide +kernel) rfl
theorem ml_L_84 : Cond.methodLink R_law 84 y_C_breaks ∈ wtb := wtb_at 497 (by decide +kernel) rfl
theorem ml_C_147 : Cond.methodLink R_C 147 y_B_fewestWords ∈ wtb := wtb_at 501 (by decide +kernel) rfl
theorem ml_B_23 : Cond.methodLink R_B 23 y_X_size ∈ wtb := wtb_at 505 (by decide +kernel) rfl
theorem ml_B_29 : Cond.methodLink R_B 29 y_B_fewestAt ∈ wtb := wtb_at 506 (by decide +kernel) rfl
theorem ml_B_44 : Cond.methodLink R_B 44 y_W_size ∈ wtb := wtb_at 510 (by decide +kernel) rfl
theorem ml_B_45 : Cond.methodLink R_B 45 y_B_fewestBehind ∈ wtb := wtb_at 511 (by decide +kernel) rfl
theorem ml_B_39 : Cond.methodLink R_B 39 y_W_lengthOf ∈ wtb := wtb_at 515 (by decide +kernel) rfl
theorem ml_B_49 : Cond.methodLink R_B 49 y_X_placeAt ∈ wtb := wtb_at 516 (by decide +kernel) rfl
theorem ml_B_52 : Cond.methodLink R_B 52 y_W_placeAt ∈ wtb := wtb_at 517 (by decide +kernel) rfl
theorem ml_L_88 : Cond.methodLink R_law 88 y_C_breakAt ∈ wtb := wtb_at 518 (by decide +kernel) rfl
theorem ml_C_150 : Cond.methodLink R_C 150 y_B_wordOf ∈ wtb := wtb_at 522 (by decide +kernel) rfl
theorem ml_B_33 : Cond.methodLink R_B 33 y_B_fewestWords ∈ wtb := wtb_at 526 (by decide +kernel) rfl
theorem ml_B_36 : Cond.methodLink R_B 36 y_B_leastWordAt ∈ wtb := wtb_at 527 (by decide +kernel) rfl
theorem ml_L_92 : Cond.methodLink R_law 92 y_C_clear ∈ wtb := wtb_at 531 (by decide +kernel) rfl
theorem ml_C_153 : Cond.methodLink R_C 153 y_K_empty ∈ wtb := wtb_at 535 (by decide +kernel) rfl
theorem ml_C_156 : Cond.methodLink R_C 156 y_X_empty ∈ wtb := wtb_at 539 (by decide +kernel) rfl
theorem cl_L_10 : Cond.classLink R_law 10 R_M ∈ wtb := wtb_at 543 (by decide +kernel) rfl
theorem ml_L_12 : Cond.methodLink R_law 12 y_M_init ∈ wtb := wtb_at 545 (by decide +kernel) rfl
theorem ml_M_1 : Cond.methodLink R_M 1 objectInit ∈ wtb := wtb_at 548 (by decide +kernel) rfl
theorem fl_M_49 : Cond.fieldLink R_M 49 R_M "thrown" "I" ∈ wtb := wtb_at 549 (by decide +kernel) rfl
theorem fl_M_57 : Cond.fieldLink R_M 57 R_M "collected" "I" ∈ wtb := wtb_at 550 (by decide +kernel) rfl
theorem fl_M_7 : Cond.fieldLink R_M 7 R_M "row" "[I" ∈ wtb := wtb_at 551 (by decide +kernel) rfl
theorem fl_M_64 : Cond.fieldLink R_M 64 R_M "words" "I" ∈ wtb := wtb_at 552 (by decide +kernel) rfl
theorem fl_M_13 : Cond.fieldLink R_M 13 R_M "lengths" "[I" ∈ wtb := wtb_at 553 (by decide +kernel) rfl
theorem fl_M_16 : Cond.fieldLink R_M 16 R_M "letters" "[I" ∈ wtb := wtb_at 554 (by decide +kernel) rfl
theorem fl_M_74 : Cond.fieldLink R_M 74 R_M "signs" "I" ∈ wtb := wtb_at 555 (by decide +kernel) rfl
theorem fl_M_19 : Cond.fieldLink R_M 19 R_M "code" "[I" ∈ wtb := wtb_at 556 (by decide +kernel) rfl
theorem fl_M_22 : Cond.fieldLink R_M 22 R_M "kept" "[I" ∈ wtb := wtb_at 557 (by decide +kernel) rfl
theorem fl_M_25 : Cond.fieldLink R_M 25 R_M "weights" "[I" ∈ wtb := wtb_at 558 (by decide +kernel) rfl
theorem fl_M_80 : Cond.fieldLink R_M 80 R_M "many" "I" ∈ wtb := wtb_at 559 (by decide +kernel) rfl
theorem fl_M_28 : Cond.fieldLink R_M 28 R_M "begins" "[I" ∈ wtb := wtb_at 560 (by decide +kernel) rfl
theorem fl_M_31 : Cond.fieldLink R_M 31 R_M "sizes" "[I" ∈ wtb := wtb_at 561 (by decide +kernel) rfl
theorem fl_M_34 : Cond.fieldLink R_M 34 R_M "tried" "[I" ∈ wtb := wtb_at 562 (by decide +kernel) rfl
theorem fl_M_37 : Cond.fieldLink R_M 37 R_M "map" "[I" ∈ wtb := wtb_at 563 (by decide +kernel) rfl
theorem fl_M_97 : Cond.fieldLink R_M 97 R_M "steps" "I" ∈ wtb := wtb_at 564 (by decide +kernel) rfl
theorem fl_M_77 : Cond.fieldLink R_M 77 R_M "readings" "I" ∈ wtb := wtb_at 565 (by decide +kernel) rfl
theorem fl_M_40 : Cond.fieldLink R_M 40 R_M "found" "[I" ∈ wtb := wtb_at 566 (by decide +kernel) rfl
theorem fl_M_113 : Cond.fieldLink R_M 113 R_M "plains" "I" ∈ wtb := wtb_at 567 (by decide +kernel) rfl
theorem fl_M_43 : Cond.fieldLink R_M 43 R_M "plain" "[I" ∈ wtb := wtb_at 568 (by decide +kernel) rfl
theorem fl_M_46 : Cond.fieldLink R_M 46 R_M "fewest" "[I" ∈ wtb := wtb_at 569 (by decide +kernel) rfl
theorem ml_L_17 : Cond.methodLink R_law 17 y_M_unit ∈ wtb := wtb_at 613 (by decide +kernel) rfl
theorem ml_M_53 : Cond.methodLink R_M 53 y_M_isLetter ∈ wtb := wtb_at 617 (by decide +kernel) rfl
theorem ml_L_22 : Cond.methodLink R_law 22 y_M_word ∈ wtb := wtb_at 620 (by decide +kernel) rfl
theorem ml_M_70 : Cond.methodLink R_M 70 y_M_enter ∈ wtb := wtb_at 624 (by decide +kernel) rfl
theorem ml_M_67 : Cond.methodLink R_M 67 y_M_isRow ∈ wtb := wtb_at 628 (by decide +kernel) rfl
theorem ml_M_60 : Cond.methodLink R_M 60 y_M_at ∈ wtb := wtb_at 632 (by decide +kernel) rfl
theorem ml_L_26 : Cond.methodLink R_law 26 y_M_sign ∈ wtb := wtb_at 636 (by decide +kernel) rfl
theorem ml_L_31 : Cond.methodLink R_law 31 y_M_keep ∈ wtb := wtb_at 640 (by decide +kernel) rfl
theorem ml_L_36 : Cond.methodLink R_law 36 y_M_pair ∈ wtb := wtb_at 644 (by decide +kernel) rfl
theorem ml_L_67 : Cond.methodLink R_law 67 y_M_codewords ∈ wtb := wtb_at 648 (by decide +kernel) rfl
theorem ml_M_83 : Cond.methodLink R_M 83 y_M_part ∈ wtb := wtb_at 652 (by decide +kernel) rfl
theorem ml_L_41 : Cond.methodLink R_law 41 y_M_run ∈ wtb := wtb_at 656 (by decide +kernel) rfl
theorem co_M_96 : Jvm.Cond.constant R_M 96 (iI (100000)) ∈ wtb := wtb_at 660 (by decide +kernel) rfl
theorem ml_M_100 : Cond.methodLink R_M 100 y_M_fits ∈ wtb := wtb_at 661 (by decide +kernel) rfl
theorem ml_M_86 : Cond.methodLink R_M 86 y_M_isIn ∈ wtb := wtb_at 665 (by decide +kernel) rfl
theorem ml_M_89 : Cond.methodLink R_M 89 y_M_tell ∈ wtb := wtb_at 669 (by decide +kernel) rfl
theorem ml_M_103 : Cond.methodLink R_M 103 y_M_enterReading ∈ wtb := wtb_at 673 (by decide +kernel) rfl
theorem ml_M_93 : Cond.methodLink R_M 93 y_M_isAhead ∈ wtb := wtb_at 677 (by decide +kernel) rfl
theorem ml_L_45 : Cond.methodLink R_law 45 y_M_steps ∈ wtb := wtb_at 681 (by decide +kernel) rfl
theorem ml_L_50 : Cond.methodLink R_law 50 y_M_letter ∈ wtb := wtb_at 685 (by decide +kernel) rfl
theorem ml_L_55 : Cond.methodLink R_law 55 y_M_rank ∈ wtb := wtb_at 689 (by decide +kernel) rfl
theorem ml_M_109 : Cond.methodLink R_M 109 y_M_rankOf ∈ wtb := wtb_at 693 (by decide +kernel) rfl
theorem ml_M_106 : Cond.methodLink R_M 106 y_M_weight ∈ wtb := wtb_at 697 (by decide +kernel) rfl
theorem ml_L_59 : Cond.methodLink R_law 59 y_M_best ∈ wtb := wtb_at 701 (by decide +kernel) rfl
theorem ml_L_63 : Cond.methodLink R_law 63 y_M_hint ∈ wtb := wtb_at 705 (by decide +kernel) rfl
theorem ml_L_71 : Cond.methodLink R_law 71 y_M_plain ∈ wtb := wtb_at 709 (by decide +kernel) rfl
theorem ml_L_75 : Cond.methodLink R_law 75 y_M_shifted ∈ wtb := wtb_at 713 (by decide +kernel) rfl
theorem ml_M_116 : Cond.methodLink R_M 116 y_M_shift ∈ wtb := wtb_at 717 (by decide +kernel) rfl
theorem ml_L_79 : Cond.methodLink R_law 79 y_M_bestShift ∈ wtb := wtb_at 720 (by decide +kernel) rfl
theorem ml_L_83 : Cond.methodLink R_law 83 y_M_keyed ∈ wtb := wtb_at 724 (by decide +kernel) rfl
theorem ml_L_87 : Cond.methodLink R_law 87 y_M_breaks ∈ wtb := wtb_at 728 (by decide +kernel) rfl
theorem ml_M_122 : Cond.methodLink R_M 122 y_M_reckon ∈ wtb := wtb_at 732 (by decide +kernel) rfl
theorem ml_M_119 : Cond.methodLink R_M 119 y_M_stands ∈ wtb := wtb_at 736 (by decide +kernel) rfl
theorem ml_L_91 : Cond.methodLink R_law 91 y_M_breakAt ∈ wtb := wtb_at 740 (by decide +kernel) rfl
theorem ml_L_95 : Cond.methodLink R_law 95 y_M_clear ∈ wtb := wtb_at 744 (by decide +kernel) rfl
def nst : List (String × Nat × MethodName × String) := [(R_C, 11, y_W_init, R_C), (R_C, 25, y_P_init, R_C), (R_C, 32, y_R_init, R_C), (R_C, 48, y_X_init, R_C), (R_W, 28, y_C_isPlace, R_C), (R_K, 41, y_C_isNumber, R_C), (R_P, 15, y_C_isPlace, R_C), (R_S, 80, y_C_isPlace, R_C), (R_S, 123, y_C_isNumber, R_C), (R_R, 26, y_C_isNumber, R_C), (R_X, 19, y_C_isPlace, R_C)]
def nsw (q : String × Nat × MethodName × String) : Cond := .methodLinkNest q.1 q.2.1 q.2.2.1 q.2.2.2
theorem nst_in : ∀ w ∈ nst.map nsw, w ∈ lw_tbl := by
  intro w hw
  have hp : nst.map nsw = ([53, 108, 118, 174, 234, 276, 308, 332, 381, 406, 461] : List Nat).filterMap (fun i => lw_tbl[i]?) := by decide +kernel
  rw [hp] at hw
  obtain ⟨i, -, hi⟩ := List.mem_filterMap.mp hw
  exact List.mem_of_getElem? hi
theorem nl_C_11 : nst[0]? = some (R_C, 11, y_W_init, R_C) := rfl
theorem nl_C_25 : nst[1]? = some (R_C, 25, y_P_init, R_C) := rfl
theorem nl_C_32 : nst[2]? = some (R_C, 32, y_R_init, R_C) := rfl
theorem nl_C_48 : nst[3]? = some (R_C, 48, y_X_init, R_C) := rfl
theorem nl_W_28 : nst[4]? = some (R_W, 28, y_C_isPlace, R_C) := rfl
theorem nl_K_41 : nst[5]? = some (R_K, 41, y_C_isNumber, R_C) := rfl
theorem nl_P_15 : nst[6]? = some (R_P, 15, y_C_isPlace, R_C) := rfl
theorem nl_S_80 : nst[7]? = some (R_S, 80, y_C_isPlace, R_C) := rfl
theorem nl_S_123 : nst[8]? = some (R_S, 123, y_C_isNumber, R_C) := rfl
theorem nl_R_26 : nst[9]? = some (R_R, 26, y_C_isNumber, R_C) := rfl
theorem nl_X_19 : nst[10]? = some (R_X, 19, y_C_isPlace, R_C) := rfl
end
section
theorem d_A_fill_0 : decode b_A_fill 0 = .ok (.iconst 0, 1) := by decide +kernel
theorem d_A_fill_1 : decode b_A_fill 1 = .ok (.istore_n 2, 1) := by decide +kernel
theorem d_A_fill_2 : decode b_A_fill 2 = .ok (.aload_n 0, 1) := by decide +kernel
theorem d_A_fill_3 : decode b_A_fill 3 = .ok (.arraylength, 1) := by decide +kernel
theorem d_A_fill_4 : decode b_A_fill 4 = .ok (.istore_n 3, 1) := by decide +kernel
theorem d_A_fill_5 : decode b_A_fill 5 = .ok (.iload_n 2, 1) := by decide +kernel
theorem d_A_fill_6 : decode b_A_fill 6 = .ok (.iload_n 3, 1) := by decide +kernel
theorem d_A_fill_7 : decode b_A_fill 7 = .ok (.if_icmp .ge 13, 3) := by decide +kernel
theorem d_A_fill_10 : decode b_A_fill 10 = .ok (.aload_n 0, 1) := by decide +kernel
theorem d_A_fill_11 : decode b_A_fill 11 = .ok (.iload_n 2, 1) := by decide +kernel
theorem d_A_fill_12 : decode b_A_fill 12 = .ok (.iload_n 1, 1) := by decide +kernel
theorem d_A_fill_13 : decode b_A_fill 13 = .ok (.iastore, 1) := by decide +kernel
theorem d_A_fill_14 : decode b_A_fill 14 = .ok (.iinc 2 1, 3) := by decide +kernel
theorem d_A_fill_17 : decode b_A_fill 17 = .ok (.goto (-12), 3) := by decide +kernel
theorem d_A_fill_20 : decode b_A_fill 20 = .ok (.return_, 1) := by decide +kernel
end
section
theorem d_B_init_0 : decode b_B_init 0 = .ok (.aload_n 0, 1) := by decide +kernel
theorem d_B_init_1 : decode b_B_init 1 = .ok (.invokespecial 3, 3) := by decide +kernel
theorem d_B_init_4 : decode b_B_init 4 = .ok (.aload_n 0, 1) := by decide +kernel
theorem d_B_init_5 : decode b_B_init 5 = .ok (.bipush 61, 2) := by decide +kernel
theorem d_B_init_7 : decode b_B_init 7 = .ok (.newarray .int, 2) := by decide +kernel
theorem d_B_init_9 : decode b_B_init 9 = .ok (.putfield 9, 3) := by decide +kernel
theorem d_B_init_12 : decode b_B_init 12 = .ok (.aload_n 0, 1) := by decide +kernel
theorem d_B_init_13 : decode b_B_init 13 = .ok (.aload_n 1, 1) := by decide +kernel
theorem d_B_init_14 : decode b_B_init 14 = .ok (.putfield 15, 3) := by decide +kernel
theorem d_B_init_17 : decode b_B_init 17 = .ok (.aload_n 0, 1) := by decide +kernel
theorem d_B_init_18 : decode b_B_init 18 = .ok (.aload_n 2, 1) := by decide +kernel
theorem d_B_init_19 : decode b_B_init 19 = .ok (.putfield 19, 3) := by decide +kernel
theorem d_B_init_22 : decode b_B_init 22 = .ok (.return_, 1) := by decide +kernel
theorem d_B_fewestWords_0 : decode b_B_fewestWords 0 = .ok (.aload_n 0, 1) := by decide +kernel
theorem d_B_fewestWords_1 : decode b_B_fewestWords 1 = .ok (.getfield 19, 3) := by decide +kernel
theorem d_B_fewestWords_4 : decode b_B_fewestWords 4 = .ok (.invokevirtual 23, 3) := by decide +kernel
theorem d_B_fewestWords_7 : decode b_B_fewestWords 7 = .ok (.istore_n 1, 1) := by decide +kernel
theorem d_B_fewestWords_8 : decode b_B_fewestWords 8 = .ok (.aload_n 0, 1) := by decide +kernel
theorem d_B_fewestWords_9 : decode b_B_fewestWords 9 = .ok (.getfield 9, 3) := by decide +kernel
theorem d_B_fewestWords_12 : decode b_B_fewestWords 12 = .ok (.iload_n 1, 1) := by decide +kernel
theorem d_B_fewestWords_13 : decode b_B_fewestWords 13 = .ok (.iconst 0, 1) := by decide +kernel
theorem d_B_fewestWords_14 : decode b_B_fewestWords 14 = .ok (.iastore, 1) := by decide +kernel
theorem d_B_fewestWords_15 : decode b_B_fewestWords 15 = .ok (.iload_n 1, 1) := by decide +kernel
theorem d_B_fewestWords_16 : decode b_B_fewestWords 16 = .ok (.iconst 1, 1) := by decide +kernel
theorem d_B_fewestWords_17 : decode b_B_fewestWords 17 = .ok (.isub, 1) := by decide +kernel
theorem d_B_fewestWords_18 : decode b_B_fewestWords 18 = .ok (.istore_n 2, 1) := by decide +kernel
theorem d_B_fewestWords_19 : decode b_B_fewestWords 19 = .ok (.iload_n 2, 1) := by decide +kernel
theorem d_B_fewestWords_20 : decode b_B_fewestWords 20 = .ok (.ifCond .lt 20, 3) := by decide +kernel
theorem d_B_fewestWords_23 : decode b_B_fewestWords 23 = .ok (.aload_n 0, 1) := by decide +kernel
theorem d_B_fewestWords_24 : decode b_B_fewestWords 24 = .ok (.getfield 9, 3) := by decide +kernel
theorem d_B_fewestWords_27 : decode b_B_fewestWords 27 = .ok (.iload_n 2, 1) := by decide +kernel
theorem d_B_fewestWords_28 : decode b_B_fewestWords 28 = .ok (.aload_n 0, 1) := by decide +kernel
theorem d_B_fewestWords_29 : decode b_B_fewestWords 29 = .ok (.iload_n 2, 1) := by decide +kernel
theorem d_B_fewestWords_30 : decode b_B_fewestWords 30 = .ok (.invokevirtual 29, 3) := by decide +kernel
theorem d_B_fewestWords_33 : decode b_B_fewestWords 33 = .ok (.iastore, 1) := by decide +kernel
theorem d_B_fewestWords_34 : decode b_B_fewestWords 34 = .ok (.iinc 2 (-1), 3) := by decide +kernel
theorem d_B_fewestWords_37 : decode b_B_fewestWords 37 = .ok (.goto (-18), 3) := by decide +kernel
theorem d_B_fewestWords_40 : decode b_B_fewestWords 40 = .ok (.aload_n 0, 1) := by decide +kernel
theorem d_B_fewestWords_41 : decode b_B_fewestWords 41 = .ok (.getfield 9, 3) := by decide +kernel
theorem d_B_fewestWords_44 : decode b_B_fewestWords 44 = .ok (.iconst 0, 1) := by decide +kernel
theorem d_B_fewestWords_45 : decode b_B_fewestWords 45 = .ok (.iaload, 1) := by decide +kernel
theorem d_B_fewestWords_46 : decode b_B_fewestWords 46 = .ok (.ireturn, 1) := by decide +kernel
theorem d_B_wordOf_0 : decode b_B_wordOf 0 = .ok (.iload_n 1, 1) := by decide +kernel
theorem d_B_wordOf_1 : decode b_B_wordOf 1 = .ok (.ifCond .lt 11, 3) := by decide +kernel
theorem d_B_wordOf_4 : decode b_B_wordOf 4 = .ok (.iload_n 1, 1) := by decide +kernel
theorem d_B_wordOf_5 : decode b_B_wordOf 5 = .ok (.aload_n 0, 1) := by decide +kernel
theorem d_B_wordOf_6 : decode b_B_wordOf 6 = .ok (.invokevirtual 33, 3) := by decide +kernel
theorem d_B_wordOf_9 : decode b_B_wordOf 9 = .ok (.if_icmp .lt 5, 3) := by decide +kernel
theorem d_B_wordOf_12 : decode b_B_wordOf 12 = .ok (.iconst (-1), 1) := by decide +kernel
theorem d_B_wordOf_13 : decode b_B_wordOf 13 = .ok (.ireturn, 1) := by decide +kernel
theorem d_B_wordOf_14 : decode b_B_wordOf 14 = .ok (.iconst 0, 1) := by decide +kernel
theorem d_B_wordOf_15 : decode b_B_wordOf 15 = .ok (.istore_n 2, 1) := by decide +kernel
theorem d_B_wordOf_16 : decode b_B_wordOf 16 = .ok (.iconst 0, 1) := by decide +kernel
theorem d_B_wordOf_17 : decode b_B_wordOf 17 = .ok (.istore_n 3, 1) := by decide +kernel
theorem d_B_wordOf_18 : decode b_B_wordOf 18 = .ok (.iload_n 3, 1) := by decide +kernel
theorem d_B_wordOf_19 : decode b_B_wordOf 19 = .ok (.iload_n 1, 1) := by decide +kernel
theorem d_B_wordOf_20 : decode b_B_wordOf 20 = .ok (.if_icmp .ge 24, 3) := by decide +kernel
theorem d_B_wordOf_23 : decode b_B_wordOf 23 = .ok (.iload_n 2, 1) := by decide +kernel
theorem d_B_wordOf_24 : decode b_B_wordOf 24 = .ok (.aload_n 0, 1) := by decide +kernel
theorem d_B_wordOf_25 : decode b_B_wordOf 25 = .ok (.getfield 15, 3) := by decide +kernel
theorem d_B_wordOf_28 : decode b_B_wordOf 28 = .ok (.aload_n 0, 1) := by decide +kernel
theorem d_B_wordOf_29 : decode b_B_wordOf 29 = .ok (.iload_n 2, 1) := by decide +kernel
theorem d_B_wordOf_30 : decode b_B_wordOf 30 = .ok (.invokevirtual 36, 3) := by decide +kernel
theorem d_B_wordOf_33 : decode b_B_wordOf 33 = .ok (.invokevirtual 39, 3) := by decide +kernel
theorem d_B_wordOf_36 : decode b_B_wordOf 36 = .ok (.iadd, 1) := by decide +kernel
theorem d_B_wordOf_37 : decode b_B_wordOf 37 = .ok (.istore_n 2, 1) := by decide +kernel
theorem d_B_wordOf_38 : decode b_B_wordOf 38 = .ok (.iinc 3 1, 3) := by decide +kernel
theorem d_B_wordOf_41 : decode b_B_wordOf 41 = .ok (.goto (-23), 3) := by decide +kernel
theorem d_B_wordOf_44 : decode b_B_wordOf 44 = .ok (.aload_n 0, 1) := by decide +kernel
theorem d_B_wordOf_45 : decode b_B_wordOf 45 = .ok (.iload_n 2, 1) := by decide +kernel
theorem d_B_wordOf_46 : decode b_B_wordOf 46 = .ok (.invokevirtual 36, 3) := by decide +kernel
theorem d_B_wordOf_49 : decode b_B_wordOf 49 = .ok (.ireturn, 1) := by decide +kernel
theorem d_B_fewestAt_0 : decode b_B_fewestAt 0 = .ok (.iconst (-1), 1) := by decide +kernel
theorem d_B_fewestAt_1 : decode b_B_fewestAt 1 = .ok (.istore_n 2, 1) := by decide +kernel
theorem d_B_fewestAt_2 : decode b_B_fewestAt 2 = .ok (.iconst 0, 1) := by decide +kernel
theorem d_B_fewestAt_3 : decode b_B_fewestAt 3 = .ok (.istore_n 3, 1) := by decide +kernel
theorem d_B_fewestAt_4 : decode b_B_fewestAt 4 = .ok (.iload_n 3, 1) := by decide +kernel
theorem d_B_fewestAt_5 : decode b_B_fewestAt 5 = .ok (.aload_n 0, 1) := by decide +kernel
theorem d_B_fewestAt_6 : decode b_B_fewestAt 6 = .ok (.getfield 15, 3) := by decide +kernel
theorem d_B_fewestAt_9 : decode b_B_fewestAt 9 = .ok (.invokevirtual 44, 3) := by decide +kernel
theorem d_B_fewestAt_12 : decode b_B_fewestAt 12 = .ok (.if_icmp .ge 41, 3) := by decide +kernel
theorem d_B_fewestAt_15 : decode b_B_fewestAt 15 = .ok (.aload_n 0, 1) := by decide +kernel
theorem d_B_fewestAt_16 : decode b_B_fewestAt 16 = .ok (.iload_n 3, 1) := by decide +kernel
theorem d_B_fewestAt_17 : decode b_B_fewestAt 17 = .ok (.iload_n 1, 1) := by decide +kernel
theorem d_B_fewestAt_18 : decode b_B_fewestAt 18 = .ok (.invokevirtual 45, 3) := by decide +kernel
theorem d_B_fewestAt_21 : decode b_B_fewestAt 21 = .ok (.istore 4, 2) := by decide +kernel
theorem d_B_fewestAt_23 : decode b_B_fewestAt 23 = .ok (.iload 4, 2) := by decide +kernel
theorem d_B_fewestAt_25 : decode b_B_fewestAt 25 = .ok (.iconst (-1), 1) := by decide +kernel
theorem d_B_fewestAt_26 : decode b_B_fewestAt 26 = .ok (.if_icmp .eq 21, 3) := by decide +kernel
theorem d_B_fewestAt_29 : decode b_B_fewestAt 29 = .ok (.iload_n 2, 1) := by decide +kernel
theorem d_B_fewestAt_30 : decode b_B_fewestAt 30 = .ok (.iconst (-1), 1) := by decide +kernel
theorem d_B_fewestAt_31 : decode b_B_fewestAt 31 = .ok (.if_icmp .eq 11, 3) := by decide +kernel
theorem d_B_fewestAt_34 : decode b_B_fewestAt 34 = .ok (.iload 4, 2) := by decide +kernel
theorem d_B_fewestAt_36 : decode b_B_fewestAt 36 = .ok (.iconst 1, 1) := by decide +kernel
theorem d_B_fewestAt_37 : decode b_B_fewestAt 37 = .ok (.iadd, 1) := by decide +kernel
theorem d_B_fewestAt_38 : decode b_B_fewestAt 38 = .ok (.iload_n 2, 1) := by decide +kernel
theorem d_B_fewestAt_39 : decode b_B_fewestAt 39 = .ok (.if_icmp .ge 8, 3) := by decide +kernel
theorem d_B_fewestAt_42 : decode b_B_fewestAt 42 = .ok (.iload 4, 2) := by decide +kernel
theorem d_B_fewestAt_44 : decode b_B_fewestAt 44 = .ok (.iconst 1, 1) := by decide +kernel
theorem d_B_fewestAt_45 : decode b_B_fewestAt 45 = .ok (.iadd, 1) := by decide +kernel
theorem d_B_fewestAt_46 : decode b_B_fewestAt 46 = .ok (.istore_n 2, 1) := by decide +kernel
theorem d_B_fewestAt_47 : decode b_B_fewestAt 47 = .ok (.iinc 3 1, 3) := by decide +kernel
theorem d_B_fewestAt_50 : decode b_B_fewestAt 50 = .ok (.goto (-46), 3) := by decide +kernel
theorem d_B_fewestAt_53 : decode b_B_fewestAt 53 = .ok (.iload_n 2, 1) := by decide +kernel
theorem d_B_fewestAt_54 : decode b_B_fewestAt 54 = .ok (.ireturn, 1) := by decide +kernel
theorem d_B_leastWordAt_0 : decode b_B_leastWordAt 0 = .ok (.iconst 0, 1) := by decide +kernel
theorem d_B_leastWordAt_1 : decode b_B_leastWordAt 1 = .ok (.istore_n 2, 1) := by decide +kernel
theorem d_B_leastWordAt_2 : decode b_B_leastWordAt 2 = .ok (.iload_n 2, 1) := by decide +kernel
theorem d_B_leastWordAt_3 : decode b_B_leastWordAt 3 = .ok (.aload_n 0, 1) := by decide +kernel
theorem d_B_leastWordAt_4 : decode b_B_leastWordAt 4 = .ok (.getfield 15, 3) := by decide +kernel
theorem d_B_leastWordAt_7 : decode b_B_leastWordAt 7 = .ok (.invokevirtual 44, 3) := by decide +kernel
theorem d_B_leastWordAt_10 : decode b_B_leastWordAt 10 = .ok (.if_icmp .ge 35, 3) := by decide +kernel
theorem d_B_leastWordAt_13 : decode b_B_leastWordAt 13 = .ok (.aload_n 0, 1) := by decide +kernel
theorem d_B_leastWordAt_14 : decode b_B_leastWordAt 14 = .ok (.iload_n 2, 1) := by decide +kernel
theorem d_B_leastWordAt_15 : decode b_B_leastWordAt 15 = .ok (.iload_n 1, 1) := by decide +kernel
theorem d_B_leastWordAt_16 : decode b_B_leastWordAt 16 = .ok (.invokevirtual 45, 3) := by decide +kernel
theorem d_B_leastWordAt_19 : decode b_B_leastWordAt 19 = .ok (.istore_n 3, 1) := by decide +kernel
theorem d_B_leastWordAt_20 : decode b_B_leastWordAt 20 = .ok (.iload_n 3, 1) := by decide +kernel
theorem d_B_leastWordAt_21 : decode b_B_leastWordAt 21 = .ok (.iconst (-1), 1) := by decide +kernel
theorem d_B_leastWordAt_22 : decode b_B_leastWordAt 22 = .ok (.if_icmp .eq 17, 3) := by decide +kernel
theorem d_B_leastWordAt_25 : decode b_B_leastWordAt 25 = .ok (.iload_n 3, 1) := by decide +kernel
theorem d_B_leastWordAt_26 : decode b_B_leastWordAt 26 = .ok (.iconst 1, 1) := by decide +kernel
theorem d_B_leastWordAt_27 : decode b_B_leastWordAt 27 = .ok (.iadd, 1) := by decide +kernel
theorem d_B_leastWordAt_28 : decode b_B_leastWordAt 28 = .ok (.aload_n 0, 1) := by decide +kernel
theorem d_B_leastWordAt_29 : decode b_B_leastWordAt 29 = .ok (.getfield 9, 3) := by decide +kernel
theorem d_B_leastWordAt_32 : decode b_B_leastWordAt 32 = .ok (.iload_n 1, 1) := by decide +kernel
theorem d_B_leastWordAt_33 : decode b_B_leastWordAt 33 = .ok (.iaload, 1) := by decide +kernel
theorem d_B_leastWordAt_34 : decode b_B_leastWordAt 34 = .ok (.if_icmp .ne 5, 3) := by decide +kernel
theorem d_B_leastWordAt_37 : decode b_B_leastWordAt 37 = .ok (.iload_n 2, 1) := by decide +kernel
theorem d_B_leastWordAt_38 : decode b_B_leastWordAt 38 = .ok (.ireturn, 1) := by decide +kernel
theorem d_B_leastWordAt_39 : decode b_B_leastWordAt 39 = .ok (.iinc 2 1, 3) := by decide +kernel
theorem d_B_leastWordAt_42 : decode b_B_leastWordAt 42 = .ok (.goto (-40), 3) := by decide +kernel
theorem d_B_leastWordAt_45 : decode b_B_leastWordAt 45 = .ok (.iconst (-1), 1) := by decide +kernel
theorem d_B_leastWordAt_46 : decode b_B_leastWordAt 46 = .ok (.ireturn, 1) := by decide +kernel
theorem d_B_fewestBehind_0 : decode b_B_fewestBehind 0 = .ok (.iload_n 2, 1) := by decide +kernel
theorem d_B_fewestBehind_1 : decode b_B_fewestBehind 1 = .ok (.aload_n 0, 1) := by decide +kernel
theorem d_B_fewestBehind_2 : decode b_B_fewestBehind 2 = .ok (.getfield 15, 3) := by decide +kernel
theorem d_B_fewestBehind_5 : decode b_B_fewestBehind 5 = .ok (.iload_n 1, 1) := by decide +kernel
theorem d_B_fewestBehind_6 : decode b_B_fewestBehind 6 = .ok (.invokevirtual 39, 3) := by decide +kernel
theorem d_B_fewestBehind_9 : decode b_B_fewestBehind 9 = .ok (.iadd, 1) := by decide +kernel
theorem d_B_fewestBehind_10 : decode b_B_fewestBehind 10 = .ok (.istore_n 3, 1) := by decide +kernel
theorem d_B_fewestBehind_11 : decode b_B_fewestBehind 11 = .ok (.iload_n 2, 1) := by decide +kernel
theorem d_B_fewestBehind_12 : decode b_B_fewestBehind 12 = .ok (.ifCond .lt 14, 3) := by decide +kernel
theorem d_B_fewestBehind_15 : decode b_B_fewestBehind 15 = .ok (.iload_n 3, 1) := by decide +kernel
theorem d_B_fewestBehind_16 : decode b_B_fewestBehind 16 = .ok (.aload_n 0, 1) := by decide +kernel
theorem d_B_fewestBehind_17 : decode b_B_fewestBehind 17 = .ok (.getfield 19, 3) := by decide +kernel
theorem d_B_fewestBehind_20 : decode b_B_fewestBehind 20 = .ok (.invokevirtual 23, 3) := by decide +kernel
theorem d_B_fewestBehind_23 : decode b_B_fewestBehind 23 = .ok (.if_icmp .le 5, 3) := by decide +kernel
theorem d_B_fewestBehind_26 : decode b_B_fewestBehind 26 = .ok (.iconst (-1), 1) := by decide +kernel
theorem d_B_fewestBehind_27 : decode b_B_fewestBehind 27 = .ok (.ireturn, 1) := by decide +kernel
theorem d_B_fewestBehind_28 : decode b_B_fewestBehind 28 = .ok (.iload_n 2, 1) := by decide +kernel
theorem d_B_fewestBehind_29 : decode b_B_fewestBehind 29 = .ok (.istore 4, 2) := by decide +kernel
theorem d_B_fewestBehind_31 : decode b_B_fewestBehind 31 = .ok (.iload 4, 2) := by decide +kernel
theorem d_B_fewestBehind_33 : decode b_B_fewestBehind 33 = .ok (.iload_n 3, 1) := by decide +kernel
theorem d_B_fewestBehind_34 : decode b_B_fewestBehind 34 = .ok (.if_icmp .ge 35, 3) := by decide +kernel
theorem d_B_fewestBehind_37 : decode b_B_fewestBehind 37 = .ok (.aload_n 0, 1) := by decide +kernel
theorem d_B_fewestBehind_38 : decode b_B_fewestBehind 38 = .ok (.getfield 19, 3) := by decide +kernel
theorem d_B_fewestBehind_41 : decode b_B_fewestBehind 41 = .ok (.iload 4, 2) := by decide +kernel
theorem d_B_fewestBehind_43 : decode b_B_fewestBehind 43 = .ok (.invokevirtual 49, 3) := by decide +kernel
theorem d_B_fewestBehind_46 : decode b_B_fewestBehind 46 = .ok (.aload_n 0, 1) := by decide +kernel
theorem d_B_fewestBehind_47 : decode b_B_fewestBehind 47 = .ok (.getfield 15, 3) := by decide +kernel
theorem d_B_fewestBehind_50 : decode b_B_fewestBehind 50 = .ok (.iload_n 1, 1) := by decide +kernel
theorem d_B_fewestBehind_51 : decode b_B_fewestBehind 51 = .ok (.iload 4, 2) := by decide +kernel
theorem d_B_fewestBehind_53 : decode b_B_fewestBehind 53 = .ok (.iload_n 2, 1) := by decide +kernel
theorem d_B_fewestBehind_54 : decode b_B_fewestBehind 54 = .ok (.isub, 1) := by decide +kernel
theorem d_B_fewestBehind_55 : decode b_B_fewestBehind 55 = .ok (.invokevirtual 52, 3) := by decide +kernel
theorem d_B_fewestBehind_58 : decode b_B_fewestBehind 58 = .ok (.if_icmp .eq 5, 3) := by decide +kernel
theorem d_B_fewestBehind_61 : decode b_B_fewestBehind 61 = .ok (.iconst (-1), 1) := by decide +kernel
theorem d_B_fewestBehind_62 : decode b_B_fewestBehind 62 = .ok (.ireturn, 1) := by decide +kernel
theorem d_B_fewestBehind_63 : decode b_B_fewestBehind 63 = .ok (.iinc 4 1, 3) := by decide +kernel
theorem d_B_fewestBehind_66 : decode b_B_fewestBehind 66 = .ok (.goto (-35), 3) := by decide +kernel
theorem d_B_fewestBehind_69 : decode b_B_fewestBehind 69 = .ok (.aload_n 0, 1) := by decide +kernel
theorem d_B_fewestBehind_70 : decode b_B_fewestBehind 70 = .ok (.getfield 9, 3) := by decide +kernel
theorem d_B_fewestBehind_73 : decode b_B_fewestBehind 73 = .ok (.iload_n 3, 1) := by decide +kernel
theorem d_B_fewestBehind_74 : decode b_B_fewestBehind 74 = .ok (.iaload, 1) := by decide +kernel
theorem d_B_fewestBehind_75 : decode b_B_fewestBehind 75 = .ok (.ireturn, 1) := by decide +kernel
end
section
theorem d_C_init_0 : decode b_C_init 0 = .ok (.aload_n 0, 1) := by decide +kernel
theorem d_C_init_1 : decode b_C_init 1 = .ok (.invokespecial 3, 3) := by decide +kernel
theorem d_C_init_4 : decode b_C_init 4 = .ok (.aload_n 0, 1) := by decide +kernel
theorem d_C_init_5 : decode b_C_init 5 = .ok (.new 9, 3) := by decide +kernel
theorem d_C_init_8 : decode b_C_init 8 = .ok (.dup, 1) := by decide +kernel
theorem d_C_init_9 : decode b_C_init 9 = .ok (.invokespecial 11, 3) := by decide +kernel
theorem d_C_init_12 : decode b_C_init 12 = .ok (.putfield 12, 3) := by decide +kernel
theorem d_C_init_15 : decode b_C_init 15 = .ok (.aload_n 0, 1) := by decide +kernel
theorem d_C_init_16 : decode b_C_init 16 = .ok (.new 16, 3) := by decide +kernel
theorem d_C_init_19 : decode b_C_init 19 = .ok (.dup, 1) := by decide +kernel
theorem d_C_init_20 : decode b_C_init 20 = .ok (.invokespecial 18, 3) := by decide +kernel
theorem d_C_init_23 : decode b_C_init 23 = .ok (.putfield 19, 3) := by decide +kernel
theorem d_C_init_26 : decode b_C_init 26 = .ok (.aload_n 0, 1) := by decide +kernel
theorem d_C_init_27 : decode b_C_init 27 = .ok (.new 23, 3) := by decide +kernel
theorem d_C_init_30 : decode b_C_init 30 = .ok (.dup, 1) := by decide +kernel
theorem d_C_init_31 : decode b_C_init 31 = .ok (.invokespecial 25, 3) := by decide +kernel
theorem d_C_init_34 : decode b_C_init 34 = .ok (.putfield 26, 3) := by decide +kernel
theorem d_C_init_37 : decode b_C_init 37 = .ok (.aload_n 0, 1) := by decide +kernel
theorem d_C_init_38 : decode b_C_init 38 = .ok (.new 30, 3) := by decide +kernel
theorem d_C_init_41 : decode b_C_init 41 = .ok (.dup, 1) := by decide +kernel
theorem d_C_init_42 : decode b_C_init 42 = .ok (.invokespecial 32, 3) := by decide +kernel
theorem d_C_init_45 : decode b_C_init 45 = .ok (.putfield 33, 3) := by decide +kernel
theorem d_C_init_48 : decode b_C_init 48 = .ok (.aload_n 0, 1) := by decide +kernel
theorem d_C_init_49 : decode b_C_init 49 = .ok (.new 37, 3) := by decide +kernel
theorem d_C_init_52 : decode b_C_init 52 = .ok (.dup, 1) := by decide +kernel
theorem d_C_init_53 : decode b_C_init 53 = .ok (.aload_n 0, 1) := by decide +kernel
theorem d_C_init_54 : decode b_C_init 54 = .ok (.getfield 12, 3) := by decide +kernel
theorem d_C_init_57 : decode b_C_init 57 = .ok (.aload_n 0, 1) := by decide +kernel
theorem d_C_init_58 : decode b_C_init 58 = .ok (.getfield 19, 3) := by decide +kernel
theorem d_C_init_61 : decode b_C_init 61 = .ok (.aload_n 0, 1) := by decide +kernel
theorem d_C_init_62 : decode b_C_init 62 = .ok (.getfield 33, 3) := by decide +kernel
theorem d_C_init_65 : decode b_C_init 65 = .ok (.invokespecial 39, 3) := by decide +kernel
theorem d_C_init_68 : decode b_C_init 68 = .ok (.putfield 42, 3) := by decide +kernel
theorem d_C_init_71 : decode b_C_init 71 = .ok (.aload_n 0, 1) := by decide +kernel
theorem d_C_init_72 : decode b_C_init 72 = .ok (.new 46, 3) := by decide +kernel
theorem d_C_init_75 : decode b_C_init 75 = .ok (.dup, 1) := by decide +kernel
theorem d_C_init_76 : decode b_C_init 76 = .ok (.invokespecial 48, 3) := by decide +kernel
theorem d_C_init_79 : decode b_C_init 79 = .ok (.putfield 49, 3) := by decide +kernel
theorem d_C_init_82 : decode b_C_init 82 = .ok (.aload_n 0, 1) := by decide +kernel
theorem d_C_init_83 : decode b_C_init 83 = .ok (.new 53, 3) := by decide +kernel
theorem d_C_init_86 : decode b_C_init 86 = .ok (.dup, 1) := by decide +kernel
theorem d_C_init_87 : decode b_C_init 87 = .ok (.aload_n 0, 1) := by decide +kernel
theorem d_C_init_88 : decode b_C_init 88 = .ok (.getfield 12, 3) := by decide +kernel
theorem d_C_init_91 : decode b_C_init 91 = .ok (.aload_n 0, 1) := by decide +kernel
theorem d_C_init_92 : decode b_C_init 92 = .ok (.getfield 49, 3) := by decide +kernel
theorem d_C_init_95 : decode b_C_init 95 = .ok (.invokespecial 55, 3) := by decide +kernel
theorem d_C_init_98 : decode b_C_init 98 = .ok (.putfield 58, 3) := by decide +kernel
theorem d_C_init_101 : decode b_C_init 101 = .ok (.return_, 1) := by decide +kernel
theorem d_C_unit_0 : decode b_C_unit 0 = .ok (.aload_n 0, 1) := by decide +kernel
theorem d_C_unit_1 : decode b_C_unit 1 = .ok (.getfield 12, 3) := by decide +kernel
theorem d_C_unit_4 : decode b_C_unit 4 = .ok (.iload_n 1, 1) := by decide +kernel
theorem d_C_unit_5 : decode b_C_unit 5 = .ok (.invokestatic 62, 3) := by decide +kernel
theorem d_C_unit_8 : decode b_C_unit 8 = .ok (.invokevirtual 66, 3) := by decide +kernel
theorem d_C_unit_11 : decode b_C_unit 11 = .ok (.ireturn, 1) := by decide +kernel
theorem d_C_word_0 : decode b_C_word 0 = .ok (.aload_n 0, 1) := by decide +kernel
theorem d_C_word_1 : decode b_C_word 1 = .ok (.getfield 12, 3) := by decide +kernel
theorem d_C_word_4 : decode b_C_word 4 = .ok (.invokevirtual 70, 3) := by decide +kernel
theorem d_C_word_7 : decode b_C_word 7 = .ok (.ireturn, 1) := by decide +kernel
theorem d_C_sign_0 : decode b_C_sign 0 = .ok (.aload_n 0, 1) := by decide +kernel
theorem d_C_sign_1 : decode b_C_sign 1 = .ok (.getfield 19, 3) := by decide +kernel
theorem d_C_sign_4 : decode b_C_sign 4 = .ok (.iload_n 1, 1) := by decide +kernel
theorem d_C_sign_5 : decode b_C_sign 5 = .ok (.invokevirtual 74, 3) := by decide +kernel
theorem d_C_sign_8 : decode b_C_sign 8 = .ok (.ifCond .ne 5, 3) := by decide +kernel
theorem d_C_sign_11 : decode b_C_sign 11 = .ok (.iconst 0, 1) := by decide +kernel
theorem d_C_sign_12 : decode b_C_sign 12 = .ok (.ireturn, 1) := by decide +kernel
theorem d_C_sign_13 : decode b_C_sign 13 = .ok (.aload_n 0, 1) := by decide +kernel
theorem d_C_sign_14 : decode b_C_sign 14 = .ok (.getfield 33, 3) := by decide +kernel
theorem d_C_sign_17 : decode b_C_sign 17 = .ok (.invokevirtual 77, 3) := by decide +kernel
theorem d_C_sign_20 : decode b_C_sign 20 = .ok (.iconst 1, 1) := by decide +kernel
theorem d_C_sign_21 : decode b_C_sign 21 = .ok (.ireturn, 1) := by decide +kernel
theorem d_C_keep_0 : decode b_C_keep 0 = .ok (.iload_n 2, 1) := by decide +kernel
theorem d_C_keep_1 : decode b_C_keep 1 = .ok (.invokestatic 62, 3) := by decide +kernel
theorem d_C_keep_4 : decode b_C_keep 4 = .ok (.istore_n 3, 1) := by decide +kernel
theorem d_C_keep_5 : decode b_C_keep 5 = .ok (.iload_n 1, 1) := by decide +kernel
theorem d_C_keep_6 : decode b_C_keep 6 = .ok (.invokestatic 80, 3) := by decide +kernel
theorem d_C_keep_9 : decode b_C_keep 9 = .ok (.ifCond .eq 12, 3) := by decide +kernel
theorem d_C_keep_12 : decode b_C_keep 12 = .ok (.iload_n 3, 1) := by decide +kernel
theorem d_C_keep_13 : decode b_C_keep 13 = .ok (.iconst (-1), 1) := by decide +kernel
theorem d_C_keep_14 : decode b_C_keep 14 = .ok (.if_icmp .ne 9, 3) := by decide +kernel
theorem d_C_keep_17 : decode b_C_keep 17 = .ok (.iload_n 2, 1) := by decide +kernel
theorem d_C_keep_18 : decode b_C_keep 18 = .ok (.ifCond .eq 5, 3) := by decide +kernel
theorem d_C_keep_21 : decode b_C_keep 21 = .ok (.iconst 0, 1) := by decide +kernel
theorem d_C_keep_22 : decode b_C_keep 22 = .ok (.ireturn, 1) := by decide +kernel
theorem d_C_keep_23 : decode b_C_keep 23 = .ok (.aload_n 0, 1) := by decide +kernel
theorem d_C_keep_24 : decode b_C_keep 24 = .ok (.getfield 19, 3) := by decide +kernel
theorem d_C_keep_27 : decode b_C_keep 27 = .ok (.iload_n 1, 1) := by decide +kernel
theorem d_C_keep_28 : decode b_C_keep 28 = .ok (.iload_n 3, 1) := by decide +kernel
theorem d_C_keep_29 : decode b_C_keep 29 = .ok (.invokevirtual 83, 3) := by decide +kernel
theorem d_C_keep_32 : decode b_C_keep 32 = .ok (.aload_n 0, 1) := by decide +kernel
theorem d_C_keep_33 : decode b_C_keep 33 = .ok (.getfield 33, 3) := by decide +kernel
theorem d_C_keep_36 : decode b_C_keep 36 = .ok (.invokevirtual 77, 3) := by decide +kernel
theorem d_C_keep_39 : decode b_C_keep 39 = .ok (.iconst 1, 1) := by decide +kernel
theorem d_C_keep_40 : decode b_C_keep 40 = .ok (.ireturn, 1) := by decide +kernel
theorem d_C_pair_0 : decode b_C_pair 0 = .ok (.aload_n 0, 1) := by decide +kernel
theorem d_C_pair_1 : decode b_C_pair 1 = .ok (.getfield 26, 3) := by decide +kernel
theorem d_C_pair_4 : decode b_C_pair 4 = .ok (.iload_n 1, 1) := by decide +kernel
theorem d_C_pair_5 : decode b_C_pair 5 = .ok (.invokestatic 62, 3) := by decide +kernel
theorem d_C_pair_8 : decode b_C_pair 8 = .ok (.iload_n 2, 1) := by decide +kernel
theorem d_C_pair_9 : decode b_C_pair 9 = .ok (.invokestatic 62, 3) := by decide +kernel
theorem d_C_pair_12 : decode b_C_pair 12 = .ok (.iload_n 3, 1) := by decide +kernel
theorem d_C_pair_13 : decode b_C_pair 13 = .ok (.invokevirtual 87, 3) := by decide +kernel
theorem d_C_pair_16 : decode b_C_pair 16 = .ok (.ireturn, 1) := by decide +kernel
theorem d_C_run_0 : decode b_C_run 0 = .ok (.iload_n 1, 1) := by decide +kernel
theorem d_C_run_1 : decode b_C_run 1 = .ok (.ifCond .lt 9, 3) := by decide +kernel
theorem d_C_run_4 : decode b_C_run 4 = .ok (.iload_n 1, 1) := by decide +kernel
theorem d_C_run_5 : decode b_C_run 5 = .ok (.ldc 91, 2) := by decide +kernel
theorem d_C_run_7 : decode b_C_run 7 = .ok (.if_icmp .le 6, 3) := by decide +kernel
theorem d_C_run_10 : decode b_C_run 10 = .ok (.bipush (-2), 2) := by decide +kernel
theorem d_C_run_12 : decode b_C_run 12 = .ok (.ireturn, 1) := by decide +kernel
theorem d_C_run_13 : decode b_C_run 13 = .ok (.aload_n 0, 1) := by decide +kernel
theorem d_C_run_14 : decode b_C_run 14 = .ok (.getfield 42, 3) := by decide +kernel
theorem d_C_run_17 : decode b_C_run 17 = .ok (.iload_n 1, 1) := by decide +kernel
theorem d_C_run_18 : decode b_C_run 18 = .ok (.invokevirtual 92, 3) := by decide +kernel
theorem d_C_run_21 : decode b_C_run 21 = .ok (.ireturn, 1) := by decide +kernel
theorem d_C_steps_0 : decode b_C_steps 0 = .ok (.aload_n 0, 1) := by decide +kernel
theorem d_C_steps_1 : decode b_C_steps 1 = .ok (.getfield 42, 3) := by decide +kernel
theorem d_C_steps_4 : decode b_C_steps 4 = .ok (.invokevirtual 95, 3) := by decide +kernel
theorem d_C_steps_7 : decode b_C_steps 7 = .ok (.ireturn, 1) := by decide +kernel
theorem d_C_letter_0 : decode b_C_letter 0 = .ok (.aload_n 0, 1) := by decide +kernel
theorem d_C_letter_1 : decode b_C_letter 1 = .ok (.getfield 33, 3) := by decide +kernel
theorem d_C_letter_4 : decode b_C_letter 4 = .ok (.iload_n 1, 1) := by decide +kernel
theorem d_C_letter_5 : decode b_C_letter 5 = .ok (.iload_n 2, 1) := by decide +kernel
theorem d_C_letter_6 : decode b_C_letter 6 = .ok (.invokevirtual 98, 3) := by decide +kernel
theorem d_C_letter_9 : decode b_C_letter 9 = .ok (.invokestatic 102, 3) := by decide +kernel
theorem d_C_letter_12 : decode b_C_letter 12 = .ok (.ireturn, 1) := by decide +kernel
theorem d_C_rank_0 : decode b_C_rank 0 = .ok (.aload_n 0, 1) := by decide +kernel
theorem d_C_rank_1 : decode b_C_rank 1 = .ok (.getfield 33, 3) := by decide +kernel
theorem d_C_rank_4 : decode b_C_rank 4 = .ok (.iload_n 1, 1) := by decide +kernel
theorem d_C_rank_5 : decode b_C_rank 5 = .ok (.invokevirtual 105, 3) := by decide +kernel
theorem d_C_rank_8 : decode b_C_rank 8 = .ok (.ifCond .eq 11, 3) := by decide +kernel
theorem d_C_rank_11 : decode b_C_rank 11 = .ok (.aload_n 0, 1) := by decide +kernel
theorem d_C_rank_12 : decode b_C_rank 12 = .ok (.iload_n 1, 1) := by decide +kernel
theorem d_C_rank_13 : decode b_C_rank 13 = .ok (.invokevirtual 108, 3) := by decide +kernel
theorem d_C_rank_16 : decode b_C_rank 16 = .ok (.goto 4, 3) := by decide +kernel
theorem d_C_rank_19 : decode b_C_rank 19 = .ok (.lconst 0, 1) := by decide +kernel
theorem d_C_rank_20 : decode b_C_rank 20 = .ok (.lreturn, 1) := by decide +kernel
theorem d_C_best_0 : decode b_C_best 0 = .ok (.iconst (-1), 1) := by decide +kernel
theorem d_C_best_1 : decode b_C_best 1 = .ok (.istore_n 1, 1) := by decide +kernel
theorem d_C_best_2 : decode b_C_best 2 = .ok (.lconst 0, 1) := by decide +kernel
theorem d_C_best_3 : decode b_C_best 3 = .ok (.lstore_n 2, 1) := by decide +kernel
theorem d_C_best_4 : decode b_C_best 4 = .ok (.iconst 0, 1) := by decide +kernel
theorem d_C_best_5 : decode b_C_best 5 = .ok (.istore 4, 2) := by decide +kernel
theorem d_C_best_7 : decode b_C_best 7 = .ok (.iload 4, 2) := by decide +kernel
theorem d_C_best_9 : decode b_C_best 9 = .ok (.aload_n 0, 1) := by decide +kernel
theorem d_C_best_10 : decode b_C_best 10 = .ok (.getfield 33, 3) := by decide +kernel
theorem d_C_best_13 : decode b_C_best 13 = .ok (.invokevirtual 112, 3) := by decide +kernel
theorem d_C_best_16 : decode b_C_best 16 = .ok (.if_icmp .ge 35, 3) := by decide +kernel
theorem d_C_best_19 : decode b_C_best 19 = .ok (.aload_n 0, 1) := by decide +kernel
theorem d_C_best_20 : decode b_C_best 20 = .ok (.iload 4, 2) := by decide +kernel
theorem d_C_best_22 : decode b_C_best 22 = .ok (.invokevirtual 108, 3) := by decide +kernel
theorem d_C_best_25 : decode b_C_best 25 = .ok (.lstore 5, 2) := by decide +kernel
theorem d_C_best_27 : decode b_C_best 27 = .ok (.iload_n 1, 1) := by decide +kernel
theorem d_C_best_28 : decode b_C_best 28 = .ok (.iconst (-1), 1) := by decide +kernel
theorem d_C_best_29 : decode b_C_best 29 = .ok (.if_icmp .eq 10, 3) := by decide +kernel
theorem d_C_best_32 : decode b_C_best 32 = .ok (.lload 5, 2) := by decide +kernel
theorem d_C_best_34 : decode b_C_best 34 = .ok (.lload_n 2, 1) := by decide +kernel
theorem d_C_best_35 : decode b_C_best 35 = .ok (.lcmp, 1) := by decide +kernel
theorem d_C_best_36 : decode b_C_best 36 = .ok (.ifCond .le 9, 3) := by decide +kernel
theorem d_C_best_39 : decode b_C_best 39 = .ok (.iload 4, 2) := by decide +kernel
theorem d_C_best_41 : decode b_C_best 41 = .ok (.istore_n 1, 1) := by decide +kernel
theorem d_C_best_42 : decode b_C_best 42 = .ok (.lload 5, 2) := by decide +kernel
theorem d_C_best_44 : decode b_C_best 44 = .ok (.lstore_n 2, 1) := by decide +kernel
theorem d_C_best_45 : decode b_C_best 45 = .ok (.iinc 4 1, 3) := by decide +kernel
theorem d_C_best_48 : decode b_C_best 48 = .ok (.goto (-41), 3) := by decide +kernel
theorem d_C_best_51 : decode b_C_best 51 = .ok (.iload_n 1, 1) := by decide +kernel
theorem d_C_best_52 : decode b_C_best 52 = .ok (.ireturn, 1) := by decide +kernel
theorem d_C_hint_0 : decode b_C_hint 0 = .ok (.iconst 0, 1) := by decide +kernel
theorem d_C_hint_1 : decode b_C_hint 1 = .ok (.istore_n 1, 1) := by decide +kernel
theorem d_C_hint_2 : decode b_C_hint 2 = .ok (.iload_n 1, 1) := by decide +kernel
theorem d_C_hint_3 : decode b_C_hint 3 = .ok (.bipush 26, 2) := by decide +kernel
theorem d_C_hint_5 : decode b_C_hint 5 = .ok (.if_icmp .ge 57, 3) := by decide +kernel
theorem d_C_hint_8 : decode b_C_hint 8 = .ok (.aload_n 0, 1) := by decide +kernel
theorem d_C_hint_9 : decode b_C_hint 9 = .ok (.getfield 19, 3) := by decide +kernel
theorem d_C_hint_12 : decode b_C_hint 12 = .ok (.iload_n 1, 1) := by decide +kernel
theorem d_C_hint_13 : decode b_C_hint 13 = .ok (.invokevirtual 115, 3) := by decide +kernel
theorem d_C_hint_16 : decode b_C_hint 16 = .ok (.ifCond .eq 40, 3) := by decide +kernel
theorem d_C_hint_19 : decode b_C_hint 19 = .ok (.aload_n 0, 1) := by decide +kernel
theorem d_C_hint_20 : decode b_C_hint 20 = .ok (.getfield 19, 3) := by decide +kernel
theorem d_C_hint_23 : decode b_C_hint 23 = .ok (.iload_n 1, 1) := by decide +kernel
theorem d_C_hint_24 : decode b_C_hint 24 = .ok (.invokevirtual 118, 3) := by decide +kernel
theorem d_C_hint_27 : decode b_C_hint 27 = .ok (.iconst (-1), 1) := by decide +kernel
theorem d_C_hint_28 : decode b_C_hint 28 = .ok (.if_icmp .ne 28, 3) := by decide +kernel
theorem d_C_hint_31 : decode b_C_hint 31 = .ok (.aload_n 0, 1) := by decide +kernel
theorem d_C_hint_32 : decode b_C_hint 32 = .ok (.getfield 33, 3) := by decide +kernel
theorem d_C_hint_35 : decode b_C_hint 35 = .ok (.iload_n 1, 1) := by decide +kernel
theorem d_C_hint_36 : decode b_C_hint 36 = .ok (.invokevirtual 121, 3) := by decide +kernel
theorem d_C_hint_39 : decode b_C_hint 39 = .ok (.istore_n 2, 1) := by decide +kernel
theorem d_C_hint_40 : decode b_C_hint 40 = .ok (.iload_n 2, 1) := by decide +kernel
theorem d_C_hint_41 : decode b_C_hint 41 = .ok (.iconst (-1), 1) := by decide +kernel
theorem d_C_hint_42 : decode b_C_hint 42 = .ok (.if_icmp .eq 14, 3) := by decide +kernel
theorem d_C_hint_45 : decode b_C_hint 45 = .ok (.aload_n 0, 1) := by decide +kernel
theorem d_C_hint_46 : decode b_C_hint 46 = .ok (.getfield 19, 3) := by decide +kernel
theorem d_C_hint_49 : decode b_C_hint 49 = .ok (.iload_n 1, 1) := by decide +kernel
theorem d_C_hint_50 : decode b_C_hint 50 = .ok (.iload_n 2, 1) := by decide +kernel
theorem d_C_hint_51 : decode b_C_hint 51 = .ok (.invokevirtual 83, 3) := by decide +kernel
theorem d_C_hint_54 : decode b_C_hint 54 = .ok (.iload_n 1, 1) := by decide +kernel
theorem d_C_hint_55 : decode b_C_hint 55 = .ok (.ireturn, 1) := by decide +kernel
theorem d_C_hint_56 : decode b_C_hint 56 = .ok (.iinc 1 1, 3) := by decide +kernel
theorem d_C_hint_59 : decode b_C_hint 59 = .ok (.goto (-57), 3) := by decide +kernel
theorem d_C_hint_62 : decode b_C_hint 62 = .ok (.iconst (-1), 1) := by decide +kernel
theorem d_C_hint_63 : decode b_C_hint 63 = .ok (.ireturn, 1) := by decide +kernel
theorem d_C_codewords_0 : decode b_C_codewords 0 = .ok (.aload_n 0, 1) := by decide +kernel
theorem d_C_codewords_1 : decode b_C_codewords 1 = .ok (.getfield 19, 3) := by decide +kernel
theorem d_C_codewords_4 : decode b_C_codewords 4 = .ok (.invokevirtual 124, 3) := by decide +kernel
theorem d_C_codewords_7 : decode b_C_codewords 7 = .ok (.ireturn, 1) := by decide +kernel
theorem d_C_plain_0 : decode b_C_plain 0 = .ok (.aload_n 0, 1) := by decide +kernel
theorem d_C_plain_1 : decode b_C_plain 1 = .ok (.getfield 49, 3) := by decide +kernel
theorem d_C_plain_4 : decode b_C_plain 4 = .ok (.iload_n 1, 1) := by decide +kernel
theorem d_C_plain_5 : decode b_C_plain 5 = .ok (.invokestatic 62, 3) := by decide +kernel
theorem d_C_plain_8 : decode b_C_plain 8 = .ok (.invokevirtual 127, 3) := by decide +kernel
theorem d_C_plain_11 : decode b_C_plain 11 = .ok (.ireturn, 1) := by decide +kernel
theorem d_C_shifted_0 : decode b_C_shifted 0 = .ok (.aload_n 0, 1) := by decide +kernel
theorem d_C_shifted_1 : decode b_C_shifted 1 = .ok (.getfield 49, 3) := by decide +kernel
theorem d_C_shifted_4 : decode b_C_shifted 4 = .ok (.iload_n 2, 1) := by decide +kernel
theorem d_C_shifted_5 : decode b_C_shifted 5 = .ok (.invokevirtual 128, 3) := by decide +kernel
theorem d_C_shifted_8 : decode b_C_shifted 8 = .ok (.iload_n 1, 1) := by decide +kernel
theorem d_C_shifted_9 : decode b_C_shifted 9 = .ok (.bipush 26, 2) := by decide +kernel
theorem d_C_shifted_11 : decode b_C_shifted 11 = .ok (.invokestatic 131, 3) := by decide +kernel
theorem d_C_shifted_14 : decode b_C_shifted 14 = .ok (.invokestatic 136, 3) := by decide +kernel
theorem d_C_shifted_17 : decode b_C_shifted 17 = .ok (.ireturn, 1) := by decide +kernel
theorem d_C_bestShift_0 : decode b_C_bestShift 0 = .ok (.iconst 0, 1) := by decide +kernel
theorem d_C_bestShift_1 : decode b_C_bestShift 1 = .ok (.istore_n 1, 1) := by decide +kernel
theorem d_C_bestShift_2 : decode b_C_bestShift 2 = .ok (.aload_n 0, 1) := by decide +kernel
theorem d_C_bestShift_3 : decode b_C_bestShift 3 = .ok (.iconst 0, 1) := by decide +kernel
theorem d_C_bestShift_4 : decode b_C_bestShift 4 = .ok (.invokevirtual 139, 3) := by decide +kernel
theorem d_C_bestShift_7 : decode b_C_bestShift 7 = .ok (.lstore_n 2, 1) := by decide +kernel
theorem d_C_bestShift_8 : decode b_C_bestShift 8 = .ok (.iconst 1, 1) := by decide +kernel
theorem d_C_bestShift_9 : decode b_C_bestShift 9 = .ok (.istore 4, 2) := by decide +kernel
theorem d_C_bestShift_11 : decode b_C_bestShift 11 = .ok (.iload 4, 2) := by decide +kernel
theorem d_C_bestShift_13 : decode b_C_bestShift 13 = .ok (.bipush 26, 2) := by decide +kernel
theorem d_C_bestShift_15 : decode b_C_bestShift 15 = .ok (.if_icmp .ge 30, 3) := by decide +kernel
theorem d_C_bestShift_18 : decode b_C_bestShift 18 = .ok (.aload_n 0, 1) := by decide +kernel
theorem d_C_bestShift_19 : decode b_C_bestShift 19 = .ok (.iload 4, 2) := by decide +kernel
theorem d_C_bestShift_21 : decode b_C_bestShift 21 = .ok (.invokevirtual 139, 3) := by decide +kernel
theorem d_C_bestShift_24 : decode b_C_bestShift 24 = .ok (.lstore 5, 2) := by decide +kernel
theorem d_C_bestShift_26 : decode b_C_bestShift 26 = .ok (.lload 5, 2) := by decide +kernel
theorem d_C_bestShift_28 : decode b_C_bestShift 28 = .ok (.lload_n 2, 1) := by decide +kernel
theorem d_C_bestShift_29 : decode b_C_bestShift 29 = .ok (.lcmp, 1) := by decide +kernel
theorem d_C_bestShift_30 : decode b_C_bestShift 30 = .ok (.ifCond .le 9, 3) := by decide +kernel
theorem d_C_bestShift_33 : decode b_C_bestShift 33 = .ok (.iload 4, 2) := by decide +kernel
theorem d_C_bestShift_35 : decode b_C_bestShift 35 = .ok (.istore_n 1, 1) := by decide +kernel
theorem d_C_bestShift_36 : decode b_C_bestShift 36 = .ok (.lload 5, 2) := by decide +kernel
theorem d_C_bestShift_38 : decode b_C_bestShift 38 = .ok (.lstore_n 2, 1) := by decide +kernel
theorem d_C_bestShift_39 : decode b_C_bestShift 39 = .ok (.iinc 4 1, 3) := by decide +kernel
theorem d_C_bestShift_42 : decode b_C_bestShift 42 = .ok (.goto (-31), 3) := by decide +kernel
theorem d_C_bestShift_45 : decode b_C_bestShift 45 = .ok (.iload_n 1, 1) := by decide +kernel
theorem d_C_bestShift_46 : decode b_C_bestShift 46 = .ok (.ireturn, 1) := by decide +kernel
theorem d_C_keyed_0 : decode b_C_keyed 0 = .ok (.aload_n 0, 1) := by decide +kernel
theorem d_C_keyed_1 : decode b_C_keyed 1 = .ok (.getfield 12, 3) := by decide +kernel
theorem d_C_keyed_4 : decode b_C_keyed 4 = .ok (.iload_n 1, 1) := by decide +kernel
theorem d_C_keyed_5 : decode b_C_keyed 5 = .ok (.invokevirtual 142, 3) := by decide +kernel
theorem d_C_keyed_8 : decode b_C_keyed 8 = .ok (.istore_n 3, 1) := by decide +kernel
theorem d_C_keyed_9 : decode b_C_keyed 9 = .ok (.iload_n 3, 1) := by decide +kernel
theorem d_C_keyed_10 : decode b_C_keyed 10 = .ok (.ifCond .le 7, 3) := by decide +kernel
theorem d_C_keyed_13 : decode b_C_keyed 13 = .ok (.iload_n 2, 1) := by decide +kernel
theorem d_C_keyed_14 : decode b_C_keyed 14 = .ok (.ifCond .ge 5, 3) := by decide +kernel
theorem d_C_keyed_17 : decode b_C_keyed 17 = .ok (.iconst (-1), 1) := by decide +kernel
theorem d_C_keyed_18 : decode b_C_keyed 18 = .ok (.ireturn, 1) := by decide +kernel
theorem d_C_keyed_19 : decode b_C_keyed 19 = .ok (.aload_n 0, 1) := by decide +kernel
theorem d_C_keyed_20 : decode b_C_keyed 20 = .ok (.getfield 49, 3) := by decide +kernel
theorem d_C_keyed_23 : decode b_C_keyed 23 = .ok (.iload_n 2, 1) := by decide +kernel
theorem d_C_keyed_24 : decode b_C_keyed 24 = .ok (.invokevirtual 128, 3) := by decide +kernel
theorem d_C_keyed_27 : decode b_C_keyed 27 = .ok (.aload_n 0, 1) := by decide +kernel
theorem d_C_keyed_28 : decode b_C_keyed 28 = .ok (.getfield 12, 3) := by decide +kernel
theorem d_C_keyed_31 : decode b_C_keyed 31 = .ok (.iload_n 1, 1) := by decide +kernel
theorem d_C_keyed_32 : decode b_C_keyed 32 = .ok (.iload_n 2, 1) := by decide +kernel
theorem d_C_keyed_33 : decode b_C_keyed 33 = .ok (.iload_n 3, 1) := by decide +kernel
theorem d_C_keyed_34 : decode b_C_keyed 34 = .ok (.irem, 1) := by decide +kernel
theorem d_C_keyed_35 : decode b_C_keyed 35 = .ok (.invokevirtual 145, 3) := by decide +kernel
theorem d_C_keyed_38 : decode b_C_keyed 38 = .ok (.invokestatic 136, 3) := by decide +kernel
theorem d_C_keyed_41 : decode b_C_keyed 41 = .ok (.ireturn, 1) := by decide +kernel
theorem d_C_breaks_0 : decode b_C_breaks 0 = .ok (.aload_n 0, 1) := by decide +kernel
theorem d_C_breaks_1 : decode b_C_breaks 1 = .ok (.getfield 58, 3) := by decide +kernel
theorem d_C_breaks_4 : decode b_C_breaks 4 = .ok (.invokevirtual 147, 3) := by decide +kernel
theorem d_C_breaks_7 : decode b_C_breaks 7 = .ok (.ireturn, 1) := by decide +kernel
theorem d_C_breakAt_0 : decode b_C_breakAt 0 = .ok (.aload_n 0, 1) := by decide +kernel
theorem d_C_breakAt_1 : decode b_C_breakAt 1 = .ok (.getfield 58, 3) := by decide +kernel
theorem d_C_breakAt_4 : decode b_C_breakAt 4 = .ok (.iload_n 1, 1) := by decide +kernel
theorem d_C_breakAt_5 : decode b_C_breakAt 5 = .ok (.invokevirtual 150, 3) := by decide +kernel
theorem d_C_breakAt_8 : decode b_C_breakAt 8 = .ok (.ireturn, 1) := by decide +kernel
theorem d_C_clear_0 : decode b_C_clear 0 = .ok (.aload_n 0, 1) := by decide +kernel
theorem d_C_clear_1 : decode b_C_clear 1 = .ok (.getfield 19, 3) := by decide +kernel
theorem d_C_clear_4 : decode b_C_clear 4 = .ok (.invokevirtual 153, 3) := by decide +kernel
theorem d_C_clear_7 : decode b_C_clear 7 = .ok (.aload_n 0, 1) := by decide +kernel
theorem d_C_clear_8 : decode b_C_clear 8 = .ok (.getfield 33, 3) := by decide +kernel
theorem d_C_clear_11 : decode b_C_clear 11 = .ok (.invokevirtual 77, 3) := by decide +kernel
theorem d_C_clear_14 : decode b_C_clear 14 = .ok (.aload_n 0, 1) := by decide +kernel
theorem d_C_clear_15 : decode b_C_clear 15 = .ok (.getfield 49, 3) := by decide +kernel
theorem d_C_clear_18 : decode b_C_clear 18 = .ok (.invokevirtual 156, 3) := by decide +kernel
theorem d_C_clear_21 : decode b_C_clear 21 = .ok (.return_, 1) := by decide +kernel
theorem d_C_rankOfKept_0 : decode b_C_rankOfKept 0 = .ok (.lconst 0, 1) := by decide +kernel
theorem d_C_rankOfKept_1 : decode b_C_rankOfKept 1 = .ok (.lstore_n 2, 1) := by decide +kernel
theorem d_C_rankOfKept_2 : decode b_C_rankOfKept 2 = .ok (.iconst 1, 1) := by decide +kernel
theorem d_C_rankOfKept_3 : decode b_C_rankOfKept 3 = .ok (.istore 4, 2) := by decide +kernel
theorem d_C_rankOfKept_5 : decode b_C_rankOfKept 5 = .ok (.iload 4, 2) := by decide +kernel
theorem d_C_rankOfKept_7 : decode b_C_rankOfKept 7 = .ok (.aload_n 0, 1) := by decide +kernel
theorem d_C_rankOfKept_8 : decode b_C_rankOfKept 8 = .ok (.getfield 19, 3) := by decide +kernel
theorem d_C_rankOfKept_11 : decode b_C_rankOfKept 11 = .ok (.invokevirtual 157, 3) := by decide +kernel
theorem d_C_rankOfKept_14 : decode b_C_rankOfKept 14 = .ok (.if_icmp .ge 64, 3) := by decide +kernel
theorem d_C_rankOfKept_17 : decode b_C_rankOfKept 17 = .ok (.aload_n 0, 1) := by decide +kernel
theorem d_C_rankOfKept_18 : decode b_C_rankOfKept 18 = .ok (.getfield 33, 3) := by decide +kernel
theorem d_C_rankOfKept_21 : decode b_C_rankOfKept 21 = .ok (.iload_n 1, 1) := by decide +kernel
theorem d_C_rankOfKept_22 : decode b_C_rankOfKept 22 = .ok (.aload_n 0, 1) := by decide +kernel
theorem d_C_rankOfKept_23 : decode b_C_rankOfKept 23 = .ok (.getfield 19, 3) := by decide +kernel
theorem d_C_rankOfKept_26 : decode b_C_rankOfKept 26 = .ok (.iload 4, 2) := by decide +kernel
theorem d_C_rankOfKept_28 : decode b_C_rankOfKept 28 = .ok (.iconst 1, 1) := by decide +kernel
theorem d_C_rankOfKept_29 : decode b_C_rankOfKept 29 = .ok (.isub, 1) := by decide +kernel
theorem d_C_rankOfKept_30 : decode b_C_rankOfKept 30 = .ok (.invokevirtual 158, 3) := by decide +kernel
theorem d_C_rankOfKept_33 : decode b_C_rankOfKept 33 = .ok (.invokevirtual 98, 3) := by decide +kernel
theorem d_C_rankOfKept_36 : decode b_C_rankOfKept 36 = .ok (.istore 5, 2) := by decide +kernel
theorem d_C_rankOfKept_38 : decode b_C_rankOfKept 38 = .ok (.aload_n 0, 1) := by decide +kernel
theorem d_C_rankOfKept_39 : decode b_C_rankOfKept 39 = .ok (.getfield 33, 3) := by decide +kernel
theorem d_C_rankOfKept_42 : decode b_C_rankOfKept 42 = .ok (.iload_n 1, 1) := by decide +kernel
theorem d_C_rankOfKept_43 : decode b_C_rankOfKept 43 = .ok (.aload_n 0, 1) := by decide +kernel
theorem d_C_rankOfKept_44 : decode b_C_rankOfKept 44 = .ok (.getfield 19, 3) := by decide +kernel
theorem d_C_rankOfKept_47 : decode b_C_rankOfKept 47 = .ok (.iload 4, 2) := by decide +kernel
theorem d_C_rankOfKept_49 : decode b_C_rankOfKept 49 = .ok (.invokevirtual 158, 3) := by decide +kernel
theorem d_C_rankOfKept_52 : decode b_C_rankOfKept 52 = .ok (.invokevirtual 98, 3) := by decide +kernel
theorem d_C_rankOfKept_55 : decode b_C_rankOfKept 55 = .ok (.istore 6, 2) := by decide +kernel
theorem d_C_rankOfKept_57 : decode b_C_rankOfKept 57 = .ok (.lload_n 2, 1) := by decide +kernel
theorem d_C_rankOfKept_58 : decode b_C_rankOfKept 58 = .ok (.aload_n 0, 1) := by decide +kernel
theorem d_C_rankOfKept_59 : decode b_C_rankOfKept 59 = .ok (.getfield 26, 3) := by decide +kernel
theorem d_C_rankOfKept_62 : decode b_C_rankOfKept 62 = .ok (.iload 5, 2) := by decide +kernel
theorem d_C_rankOfKept_64 : decode b_C_rankOfKept 64 = .ok (.iload 6, 2) := by decide +kernel
theorem d_C_rankOfKept_66 : decode b_C_rankOfKept 66 = .ok (.invokevirtual 161, 3) := by decide +kernel
theorem d_C_rankOfKept_69 : decode b_C_rankOfKept 69 = .ok (.i2l, 1) := by decide +kernel
theorem d_C_rankOfKept_70 : decode b_C_rankOfKept 70 = .ok (.ladd, 1) := by decide +kernel
theorem d_C_rankOfKept_71 : decode b_C_rankOfKept 71 = .ok (.lstore_n 2, 1) := by decide +kernel
theorem d_C_rankOfKept_72 : decode b_C_rankOfKept 72 = .ok (.iinc 4 1, 3) := by decide +kernel
theorem d_C_rankOfKept_75 : decode b_C_rankOfKept 75 = .ok (.goto (-70), 3) := by decide +kernel
theorem d_C_rankOfKept_78 : decode b_C_rankOfKept 78 = .ok (.lload_n 2, 1) := by decide +kernel
theorem d_C_rankOfKept_79 : decode b_C_rankOfKept 79 = .ok (.lreturn, 1) := by decide +kernel
theorem d_C_shiftedSum_0 : decode b_C_shiftedSum 0 = .ok (.lconst 0, 1) := by decide +kernel
theorem d_C_shiftedSum_1 : decode b_C_shiftedSum 1 = .ok (.lstore_n 2, 1) := by decide +kernel
theorem d_C_shiftedSum_2 : decode b_C_shiftedSum 2 = .ok (.iconst 1, 1) := by decide +kernel
theorem d_C_shiftedSum_3 : decode b_C_shiftedSum 3 = .ok (.istore 4, 2) := by decide +kernel
theorem d_C_shiftedSum_5 : decode b_C_shiftedSum 5 = .ok (.iload 4, 2) := by decide +kernel
theorem d_C_shiftedSum_7 : decode b_C_shiftedSum 7 = .ok (.aload_n 0, 1) := by decide +kernel
theorem d_C_shiftedSum_8 : decode b_C_shiftedSum 8 = .ok (.getfield 49, 3) := by decide +kernel
theorem d_C_shiftedSum_11 : decode b_C_shiftedSum 11 = .ok (.invokevirtual 164, 3) := by decide +kernel
theorem d_C_shiftedSum_14 : decode b_C_shiftedSum 14 = .ok (.if_icmp .ge 56, 3) := by decide +kernel
theorem d_C_shiftedSum_17 : decode b_C_shiftedSum 17 = .ok (.aload_n 0, 1) := by decide +kernel
theorem d_C_shiftedSum_18 : decode b_C_shiftedSum 18 = .ok (.getfield 49, 3) := by decide +kernel
theorem d_C_shiftedSum_21 : decode b_C_shiftedSum 21 = .ok (.iload 4, 2) := by decide +kernel
theorem d_C_shiftedSum_23 : decode b_C_shiftedSum 23 = .ok (.iconst 1, 1) := by decide +kernel
theorem d_C_shiftedSum_24 : decode b_C_shiftedSum 24 = .ok (.isub, 1) := by decide +kernel
theorem d_C_shiftedSum_25 : decode b_C_shiftedSum 25 = .ok (.invokevirtual 128, 3) := by decide +kernel
theorem d_C_shiftedSum_28 : decode b_C_shiftedSum 28 = .ok (.iload_n 1, 1) := by decide +kernel
theorem d_C_shiftedSum_29 : decode b_C_shiftedSum 29 = .ok (.invokestatic 165, 3) := by decide +kernel
theorem d_C_shiftedSum_32 : decode b_C_shiftedSum 32 = .ok (.istore 5, 2) := by decide +kernel
theorem d_C_shiftedSum_34 : decode b_C_shiftedSum 34 = .ok (.aload_n 0, 1) := by decide +kernel
theorem d_C_shiftedSum_35 : decode b_C_shiftedSum 35 = .ok (.getfield 49, 3) := by decide +kernel
theorem d_C_shiftedSum_38 : decode b_C_shiftedSum 38 = .ok (.iload 4, 2) := by decide +kernel
theorem d_C_shiftedSum_40 : decode b_C_shiftedSum 40 = .ok (.invokevirtual 128, 3) := by decide +kernel
theorem d_C_shiftedSum_43 : decode b_C_shiftedSum 43 = .ok (.iload_n 1, 1) := by decide +kernel
theorem d_C_shiftedSum_44 : decode b_C_shiftedSum 44 = .ok (.invokestatic 165, 3) := by decide +kernel
theorem d_C_shiftedSum_47 : decode b_C_shiftedSum 47 = .ok (.istore 6, 2) := by decide +kernel
theorem d_C_shiftedSum_49 : decode b_C_shiftedSum 49 = .ok (.lload_n 2, 1) := by decide +kernel
theorem d_C_shiftedSum_50 : decode b_C_shiftedSum 50 = .ok (.aload_n 0, 1) := by decide +kernel
theorem d_C_shiftedSum_51 : decode b_C_shiftedSum 51 = .ok (.getfield 26, 3) := by decide +kernel
theorem d_C_shiftedSum_54 : decode b_C_shiftedSum 54 = .ok (.iload 5, 2) := by decide +kernel
theorem d_C_shiftedSum_56 : decode b_C_shiftedSum 56 = .ok (.iload 6, 2) := by decide +kernel
theorem d_C_shiftedSum_58 : decode b_C_shiftedSum 58 = .ok (.invokevirtual 161, 3) := by decide +kernel
theorem d_C_shiftedSum_61 : decode b_C_shiftedSum 61 = .ok (.i2l, 1) := by decide +kernel
theorem d_C_shiftedSum_62 : decode b_C_shiftedSum 62 = .ok (.ladd, 1) := by decide +kernel
theorem d_C_shiftedSum_63 : decode b_C_shiftedSum 63 = .ok (.lstore_n 2, 1) := by decide +kernel
theorem d_C_shiftedSum_64 : decode b_C_shiftedSum 64 = .ok (.iinc 4 1, 3) := by decide +kernel
theorem d_C_shiftedSum_67 : decode b_C_shiftedSum 67 = .ok (.goto (-62), 3) := by decide +kernel
theorem d_C_shiftedSum_70 : decode b_C_shiftedSum 70 = .ok (.lload_n 2, 1) := by decide +kernel
theorem d_C_shiftedSum_71 : decode b_C_shiftedSum 71 = .ok (.lreturn, 1) := by decide +kernel
theorem d_C_shiftedPlace_0 : decode b_C_shiftedPlace 0 = .ok (.iload_n 0, 1) := by decide +kernel
theorem d_C_shiftedPlace_1 : decode b_C_shiftedPlace 1 = .ok (.iload_n 1, 1) := by decide +kernel
theorem d_C_shiftedPlace_2 : decode b_C_shiftedPlace 2 = .ok (.iadd, 1) := by decide +kernel
theorem d_C_shiftedPlace_3 : decode b_C_shiftedPlace 3 = .ok (.bipush 26, 2) := by decide +kernel
theorem d_C_shiftedPlace_5 : decode b_C_shiftedPlace 5 = .ok (.irem, 1) := by decide +kernel
theorem d_C_shiftedPlace_6 : decode b_C_shiftedPlace 6 = .ok (.ireturn, 1) := by decide +kernel
theorem d_C_shiftedLetter_0 : decode b_C_shiftedLetter 0 = .ok (.iload_n 0, 1) := by decide +kernel
theorem d_C_shiftedLetter_1 : decode b_C_shiftedLetter 1 = .ok (.iconst (-1), 1) := by decide +kernel
theorem d_C_shiftedLetter_2 : decode b_C_shiftedLetter 2 = .ok (.if_icmp .ne 7, 3) := by decide +kernel
theorem d_C_shiftedLetter_5 : decode b_C_shiftedLetter 5 = .ok (.iconst (-1), 1) := by decide +kernel
theorem d_C_shiftedLetter_6 : decode b_C_shiftedLetter 6 = .ok (.goto 11, 3) := by decide +kernel
theorem d_C_shiftedLetter_9 : decode b_C_shiftedLetter 9 = .ok (.iload_n 0, 1) := by decide +kernel
theorem d_C_shiftedLetter_10 : decode b_C_shiftedLetter 10 = .ok (.iload_n 1, 1) := by decide +kernel
theorem d_C_shiftedLetter_11 : decode b_C_shiftedLetter 11 = .ok (.invokestatic 165, 3) := by decide +kernel
theorem d_C_shiftedLetter_14 : decode b_C_shiftedLetter 14 = .ok (.invokestatic 102, 3) := by decide +kernel
theorem d_C_shiftedLetter_17 : decode b_C_shiftedLetter 17 = .ok (.ireturn, 1) := by decide +kernel
theorem d_C_placeOf_0 : decode b_C_placeOf 0 = .ok (.iload_n 0, 1) := by decide +kernel
theorem d_C_placeOf_1 : decode b_C_placeOf 1 = .ok (.bipush 97, 2) := by decide +kernel
theorem d_C_placeOf_3 : decode b_C_placeOf 3 = .ok (.if_icmp .lt 13, 3) := by decide +kernel
theorem d_C_placeOf_6 : decode b_C_placeOf 6 = .ok (.iload_n 0, 1) := by decide +kernel
theorem d_C_placeOf_7 : decode b_C_placeOf 7 = .ok (.bipush 123, 2) := by decide +kernel
theorem d_C_placeOf_9 : decode b_C_placeOf 9 = .ok (.if_icmp .ge 7, 3) := by decide +kernel
theorem d_C_placeOf_12 : decode b_C_placeOf 12 = .ok (.iconst 1, 1) := by decide +kernel
theorem d_C_placeOf_13 : decode b_C_placeOf 13 = .ok (.goto 4, 3) := by decide +kernel
theorem d_C_placeOf_16 : decode b_C_placeOf 16 = .ok (.iconst 0, 1) := by decide +kernel
theorem d_C_placeOf_17 : decode b_C_placeOf 17 = .ok (.istore_n 1, 1) := by decide +kernel
theorem d_C_placeOf_18 : decode b_C_placeOf 18 = .ok (.iload_n 1, 1) := by decide +kernel
theorem d_C_placeOf_19 : decode b_C_placeOf 19 = .ok (.ifCond .eq 10, 3) := by decide +kernel
theorem d_C_placeOf_22 : decode b_C_placeOf 22 = .ok (.iload_n 0, 1) := by decide +kernel
theorem d_C_placeOf_23 : decode b_C_placeOf 23 = .ok (.bipush 97, 2) := by decide +kernel
theorem d_C_placeOf_25 : decode b_C_placeOf 25 = .ok (.isub, 1) := by decide +kernel
theorem d_C_placeOf_26 : decode b_C_placeOf 26 = .ok (.goto 4, 3) := by decide +kernel
theorem d_C_placeOf_29 : decode b_C_placeOf 29 = .ok (.iconst (-1), 1) := by decide +kernel
theorem d_C_placeOf_30 : decode b_C_placeOf 30 = .ok (.ireturn, 1) := by decide +kernel
theorem d_C_letterOf_0 : decode b_C_letterOf 0 = .ok (.iload_n 0, 1) := by decide +kernel
theorem d_C_letterOf_1 : decode b_C_letterOf 1 = .ok (.invokestatic 168, 3) := by decide +kernel
theorem d_C_letterOf_4 : decode b_C_letterOf 4 = .ok (.ifCond .eq 10, 3) := by decide +kernel
theorem d_C_letterOf_7 : decode b_C_letterOf 7 = .ok (.iload_n 0, 1) := by decide +kernel
theorem d_C_letterOf_8 : decode b_C_letterOf 8 = .ok (.bipush 97, 2) := by decide +kernel
theorem d_C_letterOf_10 : decode b_C_letterOf 10 = .ok (.iadd, 1) := by decide +kernel
theorem d_C_letterOf_11 : decode b_C_letterOf 11 = .ok (.goto 4, 3) := by decide +kernel
theorem d_C_letterOf_14 : decode b_C_letterOf 14 = .ok (.iconst (-1), 1) := by decide +kernel
theorem d_C_letterOf_15 : decode b_C_letterOf 15 = .ok (.ireturn, 1) := by decide +kernel
theorem d_C_isPlace_0 : decode b_C_isPlace 0 = .ok (.iload_n 0, 1) := by decide +kernel
theorem d_C_isPlace_1 : decode b_C_isPlace 1 = .ok (.ifCond .lt 13, 3) := by decide +kernel
theorem d_C_isPlace_4 : decode b_C_isPlace 4 = .ok (.iload_n 0, 1) := by decide +kernel
theorem d_C_isPlace_5 : decode b_C_isPlace 5 = .ok (.bipush 26, 2) := by decide +kernel
theorem d_C_isPlace_7 : decode b_C_isPlace 7 = .ok (.if_icmp .ge 7, 3) := by decide +kernel
theorem d_C_isPlace_10 : decode b_C_isPlace 10 = .ok (.iconst 1, 1) := by decide +kernel
theorem d_C_isPlace_11 : decode b_C_isPlace 11 = .ok (.goto 4, 3) := by decide +kernel
theorem d_C_isPlace_14 : decode b_C_isPlace 14 = .ok (.iconst 0, 1) := by decide +kernel
theorem d_C_isPlace_15 : decode b_C_isPlace 15 = .ok (.ireturn, 1) := by decide +kernel
theorem d_C_isNumber_0 : decode b_C_isNumber 0 = .ok (.iload_n 0, 1) := by decide +kernel
theorem d_C_isNumber_1 : decode b_C_isNumber 1 = .ok (.ifCond .lt 13, 3) := by decide +kernel
theorem d_C_isNumber_4 : decode b_C_isNumber 4 = .ok (.iload_n 0, 1) := by decide +kernel
theorem d_C_isNumber_5 : decode b_C_isNumber 5 = .ok (.bipush 26, 2) := by decide +kernel
theorem d_C_isNumber_7 : decode b_C_isNumber 7 = .ok (.if_icmp .ge 7, 3) := by decide +kernel
theorem d_C_isNumber_10 : decode b_C_isNumber 10 = .ok (.iconst 1, 1) := by decide +kernel
theorem d_C_isNumber_11 : decode b_C_isNumber 11 = .ok (.goto 4, 3) := by decide +kernel
theorem d_C_isNumber_14 : decode b_C_isNumber 14 = .ok (.iconst 0, 1) := by decide +kernel
theorem d_C_isNumber_15 : decode b_C_isNumber 15 = .ok (.ireturn, 1) := by decide +kernel
end
section
theorem d_H_floorMod_0 : decode b_H_floorMod 0 = .ok (.iload_n 0, 1) := by decide +kernel
theorem d_H_floorMod_1 : decode b_H_floorMod 1 = .ok (.iload_n 1, 1) := by decide +kernel
theorem d_H_floorMod_2 : decode b_H_floorMod 2 = .ok (.irem, 1) := by decide +kernel
theorem d_H_floorMod_3 : decode b_H_floorMod 3 = .ok (.istore_n 2, 1) := by decide +kernel
theorem d_H_floorMod_4 : decode b_H_floorMod 4 = .ok (.iload_n 0, 1) := by decide +kernel
theorem d_H_floorMod_5 : decode b_H_floorMod 5 = .ok (.iload_n 1, 1) := by decide +kernel
theorem d_H_floorMod_6 : decode b_H_floorMod 6 = .ok (.ixor, 1) := by decide +kernel
theorem d_H_floorMod_7 : decode b_H_floorMod 7 = .ok (.ifCond .ge 11, 3) := by decide +kernel
theorem d_H_floorMod_10 : decode b_H_floorMod 10 = .ok (.iload_n 2, 1) := by decide +kernel
theorem d_H_floorMod_11 : decode b_H_floorMod 11 = .ok (.ifCond .eq 7, 3) := by decide +kernel
theorem d_H_floorMod_14 : decode b_H_floorMod 14 = .ok (.iload_n 2, 1) := by decide +kernel
theorem d_H_floorMod_15 : decode b_H_floorMod 15 = .ok (.iload_n 1, 1) := by decide +kernel
theorem d_H_floorMod_16 : decode b_H_floorMod 16 = .ok (.iadd, 1) := by decide +kernel
theorem d_H_floorMod_17 : decode b_H_floorMod 17 = .ok (.ireturn, 1) := by decide +kernel
theorem d_H_floorMod_18 : decode b_H_floorMod 18 = .ok (.iload_n 2, 1) := by decide +kernel
theorem d_H_floorMod_19 : decode b_H_floorMod 19 = .ok (.ireturn, 1) := by decide +kernel
end
section
theorem d_K_init_0 : decode b_K_init 0 = .ok (.aload_n 0, 1) := by decide +kernel
theorem d_K_init_1 : decode b_K_init 1 = .ok (.invokespecial 3, 3) := by decide +kernel
theorem d_K_init_4 : decode b_K_init 4 = .ok (.aload_n 0, 1) := by decide +kernel
theorem d_K_init_5 : decode b_K_init 5 = .ok (.bipush 60, 2) := by decide +kernel
theorem d_K_init_7 : decode b_K_init 7 = .ok (.newarray .int, 2) := by decide +kernel
theorem d_K_init_9 : decode b_K_init 9 = .ok (.putfield 9, 3) := by decide +kernel
theorem d_K_init_12 : decode b_K_init 12 = .ok (.aload_n 0, 1) := by decide +kernel
theorem d_K_init_13 : decode b_K_init 13 = .ok (.bipush 30, 2) := by decide +kernel
theorem d_K_init_15 : decode b_K_init 15 = .ok (.newarray .int, 2) := by decide +kernel
theorem d_K_init_17 : decode b_K_init 17 = .ok (.putfield 15, 3) := by decide +kernel
theorem d_K_init_20 : decode b_K_init 20 = .ok (.aload_n 0, 1) := by decide +kernel
theorem d_K_init_21 : decode b_K_init 21 = .ok (.bipush 30, 2) := by decide +kernel
theorem d_K_init_23 : decode b_K_init 23 = .ok (.newarray .int, 2) := by decide +kernel
theorem d_K_init_25 : decode b_K_init 25 = .ok (.putfield 18, 3) := by decide +kernel
theorem d_K_init_28 : decode b_K_init 28 = .ok (.aload_n 0, 1) := by decide +kernel
theorem d_K_init_29 : decode b_K_init 29 = .ok (.bipush 26, 2) := by decide +kernel
theorem d_K_init_31 : decode b_K_init 31 = .ok (.newarray .boolean, 2) := by decide +kernel
theorem d_K_init_33 : decode b_K_init 33 = .ok (.putfield 21, 3) := by decide +kernel
theorem d_K_init_36 : decode b_K_init 36 = .ok (.aload_n 0, 1) := by decide +kernel
theorem d_K_init_37 : decode b_K_init 37 = .ok (.bipush 26, 2) := by decide +kernel
theorem d_K_init_39 : decode b_K_init 39 = .ok (.newarray .int, 2) := by decide +kernel
theorem d_K_init_41 : decode b_K_init 41 = .ok (.putfield 25, 3) := by decide +kernel
theorem d_K_init_44 : decode b_K_init 44 = .ok (.aload_n 0, 1) := by decide +kernel
theorem d_K_init_45 : decode b_K_init 45 = .ok (.iconst 0, 1) := by decide +kernel
theorem d_K_init_46 : decode b_K_init 46 = .ok (.putfield 28, 3) := by decide +kernel
theorem d_K_init_49 : decode b_K_init 49 = .ok (.aload_n 0, 1) := by decide +kernel
theorem d_K_init_50 : decode b_K_init 50 = .ok (.iconst 0, 1) := by decide +kernel
theorem d_K_init_51 : decode b_K_init 51 = .ok (.putfield 32, 3) := by decide +kernel
theorem d_K_init_54 : decode b_K_init 54 = .ok (.aload_n 0, 1) := by decide +kernel
theorem d_K_init_55 : decode b_K_init 55 = .ok (.getfield 25, 3) := by decide +kernel
theorem d_K_init_58 : decode b_K_init 58 = .ok (.iconst (-1), 1) := by decide +kernel
theorem d_K_init_59 : decode b_K_init 59 = .ok (.invokestatic 35, 3) := by decide +kernel
theorem d_K_init_62 : decode b_K_init 62 = .ok (.return_, 1) := by decide +kernel
theorem d_K_append_0 : decode b_K_append 0 = .ok (.aload_n 0, 1) := by decide +kernel
theorem d_K_append_1 : decode b_K_append 1 = .ok (.getfield 28, 3) := by decide +kernel
theorem d_K_append_4 : decode b_K_append 4 = .ok (.bipush 60, 2) := by decide +kernel
theorem d_K_append_6 : decode b_K_append 6 = .ok (.if_icmp .ge 15, 3) := by decide +kernel
theorem d_K_append_9 : decode b_K_append 9 = .ok (.iload_n 1, 1) := by decide +kernel
theorem d_K_append_10 : decode b_K_append 10 = .ok (.iconst (-1), 1) := by decide +kernel
theorem d_K_append_11 : decode b_K_append 11 = .ok (.if_icmp .eq 12, 3) := by decide +kernel
theorem d_K_append_14 : decode b_K_append 14 = .ok (.iload_n 1, 1) := by decide +kernel
theorem d_K_append_15 : decode b_K_append 15 = .ok (.invokestatic 41, 3) := by decide +kernel
theorem d_K_append_18 : decode b_K_append 18 = .ok (.ifCond .ne 5, 3) := by decide +kernel
theorem d_K_append_21 : decode b_K_append 21 = .ok (.iconst 0, 1) := by decide +kernel
theorem d_K_append_22 : decode b_K_append 22 = .ok (.ireturn, 1) := by decide +kernel
theorem d_K_append_23 : decode b_K_append 23 = .ok (.iload_n 1, 1) := by decide +kernel
theorem d_K_append_24 : decode b_K_append 24 = .ok (.iconst (-1), 1) := by decide +kernel
theorem d_K_append_25 : decode b_K_append 25 = .ok (.if_icmp .eq 14, 3) := by decide +kernel
theorem d_K_append_28 : decode b_K_append 28 = .ok (.aload_n 0, 1) := by decide +kernel
theorem d_K_append_29 : decode b_K_append 29 = .ok (.getfield 21, 3) := by decide +kernel
theorem d_K_append_32 : decode b_K_append 32 = .ok (.iload_n 1, 1) := by decide +kernel
theorem d_K_append_33 : decode b_K_append 33 = .ok (.iconst 1, 1) := by decide +kernel
theorem d_K_append_34 : decode b_K_append 34 = .ok (.bastore, 1) := by decide +kernel
theorem d_K_append_35 : decode b_K_append 35 = .ok (.aload_n 0, 1) := by decide +kernel
theorem d_K_append_36 : decode b_K_append 36 = .ok (.invokevirtual 45, 3) := by decide +kernel
theorem d_K_append_39 : decode b_K_append 39 = .ok (.aload_n 0, 1) := by decide +kernel
theorem d_K_append_40 : decode b_K_append 40 = .ok (.getfield 9, 3) := by decide +kernel
theorem d_K_append_43 : decode b_K_append 43 = .ok (.aload_n 0, 1) := by decide +kernel
theorem d_K_append_44 : decode b_K_append 44 = .ok (.getfield 28, 3) := by decide +kernel
theorem d_K_append_47 : decode b_K_append 47 = .ok (.iload_n 1, 1) := by decide +kernel
theorem d_K_append_48 : decode b_K_append 48 = .ok (.iastore, 1) := by decide +kernel
theorem d_K_append_49 : decode b_K_append 49 = .ok (.aload_n 0, 1) := by decide +kernel
theorem d_K_append_50 : decode b_K_append 50 = .ok (.dup, 1) := by decide +kernel
theorem d_K_append_51 : decode b_K_append 51 = .ok (.getfield 28, 3) := by decide +kernel
theorem d_K_append_54 : decode b_K_append 54 = .ok (.iconst 1, 1) := by decide +kernel
theorem d_K_append_55 : decode b_K_append 55 = .ok (.iadd, 1) := by decide +kernel
theorem d_K_append_56 : decode b_K_append 56 = .ok (.putfield 28, 3) := by decide +kernel
theorem d_K_append_59 : decode b_K_append 59 = .ok (.iconst 1, 1) := by decide +kernel
theorem d_K_append_60 : decode b_K_append 60 = .ok (.ireturn, 1) := by decide +kernel
theorem d_K_empty_0 : decode b_K_empty 0 = .ok (.aload_n 0, 1) := by decide +kernel
theorem d_K_empty_1 : decode b_K_empty 1 = .ok (.iconst 0, 1) := by decide +kernel
theorem d_K_empty_2 : decode b_K_empty 2 = .ok (.putfield 28, 3) := by decide +kernel
theorem d_K_empty_5 : decode b_K_empty 5 = .ok (.aload_n 0, 1) := by decide +kernel
theorem d_K_empty_6 : decode b_K_empty 6 = .ok (.iconst 0, 1) := by decide +kernel
theorem d_K_empty_7 : decode b_K_empty 7 = .ok (.putfield 32, 3) := by decide +kernel
theorem d_K_empty_10 : decode b_K_empty 10 = .ok (.iconst 0, 1) := by decide +kernel
theorem d_K_empty_11 : decode b_K_empty 11 = .ok (.istore_n 1, 1) := by decide +kernel
theorem d_K_empty_12 : decode b_K_empty 12 = .ok (.iload_n 1, 1) := by decide +kernel
theorem d_K_empty_13 : decode b_K_empty 13 = .ok (.bipush 26, 2) := by decide +kernel
theorem d_K_empty_15 : decode b_K_empty 15 = .ok (.if_icmp .ge 23, 3) := by decide +kernel
theorem d_K_empty_18 : decode b_K_empty 18 = .ok (.aload_n 0, 1) := by decide +kernel
theorem d_K_empty_19 : decode b_K_empty 19 = .ok (.getfield 21, 3) := by decide +kernel
theorem d_K_empty_22 : decode b_K_empty 22 = .ok (.iload_n 1, 1) := by decide +kernel
theorem d_K_empty_23 : decode b_K_empty 23 = .ok (.iconst 0, 1) := by decide +kernel
theorem d_K_empty_24 : decode b_K_empty 24 = .ok (.bastore, 1) := by decide +kernel
theorem d_K_empty_25 : decode b_K_empty 25 = .ok (.aload_n 0, 1) := by decide +kernel
theorem d_K_empty_26 : decode b_K_empty 26 = .ok (.getfield 25, 3) := by decide +kernel
theorem d_K_empty_29 : decode b_K_empty 29 = .ok (.iload_n 1, 1) := by decide +kernel
theorem d_K_empty_30 : decode b_K_empty 30 = .ok (.iconst (-1), 1) := by decide +kernel
theorem d_K_empty_31 : decode b_K_empty 31 = .ok (.iastore, 1) := by decide +kernel
theorem d_K_empty_32 : decode b_K_empty 32 = .ok (.iinc 1 1, 3) := by decide +kernel
theorem d_K_empty_35 : decode b_K_empty 35 = .ok (.goto (-23), 3) := by decide +kernel
theorem d_K_empty_38 : decode b_K_empty 38 = .ok (.return_, 1) := by decide +kernel
theorem d_K_size_0 : decode b_K_size 0 = .ok (.aload_n 0, 1) := by decide +kernel
theorem d_K_size_1 : decode b_K_size 1 = .ok (.getfield 28, 3) := by decide +kernel
theorem d_K_size_4 : decode b_K_size 4 = .ok (.ireturn, 1) := by decide +kernel
theorem d_K_signAt_0 : decode b_K_signAt 0 = .ok (.iload_n 1, 1) := by decide +kernel
theorem d_K_signAt_1 : decode b_K_signAt 1 = .ok (.ifCond .lt 20, 3) := by decide +kernel
theorem d_K_signAt_4 : decode b_K_signAt 4 = .ok (.iload_n 1, 1) := by decide +kernel
theorem d_K_signAt_5 : decode b_K_signAt 5 = .ok (.aload_n 0, 1) := by decide +kernel
theorem d_K_signAt_6 : decode b_K_signAt 6 = .ok (.getfield 28, 3) := by decide +kernel
theorem d_K_signAt_9 : decode b_K_signAt 9 = .ok (.if_icmp .ge 12, 3) := by decide +kernel
theorem d_K_signAt_12 : decode b_K_signAt 12 = .ok (.aload_n 0, 1) := by decide +kernel
theorem d_K_signAt_13 : decode b_K_signAt 13 = .ok (.getfield 9, 3) := by decide +kernel
theorem d_K_signAt_16 : decode b_K_signAt 16 = .ok (.iload_n 1, 1) := by decide +kernel
theorem d_K_signAt_17 : decode b_K_signAt 17 = .ok (.iaload, 1) := by decide +kernel
theorem d_K_signAt_18 : decode b_K_signAt 18 = .ok (.goto 4, 3) := by decide +kernel
theorem d_K_signAt_21 : decode b_K_signAt 21 = .ok (.iconst (-1), 1) := by decide +kernel
theorem d_K_signAt_22 : decode b_K_signAt 22 = .ok (.ireturn, 1) := by decide +kernel
theorem d_K_contains_0 : decode b_K_contains 0 = .ok (.iload_n 1, 1) := by decide +kernel
theorem d_K_contains_1 : decode b_K_contains 1 = .ok (.invokestatic 41, 3) := by decide +kernel
theorem d_K_contains_4 : decode b_K_contains 4 = .ok (.ifCond .eq 16, 3) := by decide +kernel
theorem d_K_contains_7 : decode b_K_contains 7 = .ok (.aload_n 0, 1) := by decide +kernel
theorem d_K_contains_8 : decode b_K_contains 8 = .ok (.getfield 21, 3) := by decide +kernel
theorem d_K_contains_11 : decode b_K_contains 11 = .ok (.iload_n 1, 1) := by decide +kernel
theorem d_K_contains_12 : decode b_K_contains 12 = .ok (.baload, 1) := by decide +kernel
theorem d_K_contains_13 : decode b_K_contains 13 = .ok (.ifCond .eq 7, 3) := by decide +kernel
theorem d_K_contains_16 : decode b_K_contains 16 = .ok (.iconst 1, 1) := by decide +kernel
theorem d_K_contains_17 : decode b_K_contains 17 = .ok (.goto 4, 3) := by decide +kernel
theorem d_K_contains_20 : decode b_K_contains 20 = .ok (.iconst 0, 1) := by decide +kernel
theorem d_K_contains_21 : decode b_K_contains 21 = .ok (.ireturn, 1) := by decide +kernel
theorem d_K_codewordCount_0 : decode b_K_codewordCount 0 = .ok (.aload_n 0, 1) := by decide +kernel
theorem d_K_codewordCount_1 : decode b_K_codewordCount 1 = .ok (.getfield 32, 3) := by decide +kernel
theorem d_K_codewordCount_4 : decode b_K_codewordCount 4 = .ok (.ireturn, 1) := by decide +kernel
theorem d_K_codewordLength_0 : decode b_K_codewordLength 0 = .ok (.iload_n 1, 1) := by decide +kernel
theorem d_K_codewordLength_1 : decode b_K_codewordLength 1 = .ok (.ifCond .lt 20, 3) := by decide +kernel
theorem d_K_codewordLength_4 : decode b_K_codewordLength 4 = .ok (.iload_n 1, 1) := by decide +kernel
theorem d_K_codewordLength_5 : decode b_K_codewordLength 5 = .ok (.aload_n 0, 1) := by decide +kernel
theorem d_K_codewordLength_6 : decode b_K_codewordLength 6 = .ok (.getfield 32, 3) := by decide +kernel
theorem d_K_codewordLength_9 : decode b_K_codewordLength 9 = .ok (.if_icmp .ge 12, 3) := by decide +kernel
theorem d_K_codewordLength_12 : decode b_K_codewordLength 12 = .ok (.aload_n 0, 1) := by decide +kernel
theorem d_K_codewordLength_13 : decode b_K_codewordLength 13 = .ok (.getfield 18, 3) := by decide +kernel
theorem d_K_codewordLength_16 : decode b_K_codewordLength 16 = .ok (.iload_n 1, 1) := by decide +kernel
theorem d_K_codewordLength_17 : decode b_K_codewordLength 17 = .ok (.iaload, 1) := by decide +kernel
theorem d_K_codewordLength_18 : decode b_K_codewordLength 18 = .ok (.goto 4, 3) := by decide +kernel
theorem d_K_codewordLength_21 : decode b_K_codewordLength 21 = .ok (.iconst 0, 1) := by decide +kernel
theorem d_K_codewordLength_22 : decode b_K_codewordLength 22 = .ok (.ireturn, 1) := by decide +kernel
theorem d_K_numberAt_0 : decode b_K_numberAt 0 = .ok (.iload_n 2, 1) := by decide +kernel
theorem d_K_numberAt_1 : decode b_K_numberAt 1 = .ok (.ifCond .lt 27, 3) := by decide +kernel
theorem d_K_numberAt_4 : decode b_K_numberAt 4 = .ok (.iload_n 2, 1) := by decide +kernel
theorem d_K_numberAt_5 : decode b_K_numberAt 5 = .ok (.aload_n 0, 1) := by decide +kernel
theorem d_K_numberAt_6 : decode b_K_numberAt 6 = .ok (.iload_n 1, 1) := by decide +kernel
theorem d_K_numberAt_7 : decode b_K_numberAt 7 = .ok (.invokevirtual 48, 3) := by decide +kernel
theorem d_K_numberAt_10 : decode b_K_numberAt 10 = .ok (.if_icmp .ge 18, 3) := by decide +kernel
theorem d_K_numberAt_13 : decode b_K_numberAt 13 = .ok (.aload_n 0, 1) := by decide +kernel
theorem d_K_numberAt_14 : decode b_K_numberAt 14 = .ok (.aload_n 0, 1) := by decide +kernel
theorem d_K_numberAt_15 : decode b_K_numberAt 15 = .ok (.getfield 15, 3) := by decide +kernel
theorem d_K_numberAt_18 : decode b_K_numberAt 18 = .ok (.iload_n 1, 1) := by decide +kernel
theorem d_K_numberAt_19 : decode b_K_numberAt 19 = .ok (.iaload, 1) := by decide +kernel
theorem d_K_numberAt_20 : decode b_K_numberAt 20 = .ok (.iload_n 2, 1) := by decide +kernel
theorem d_K_numberAt_21 : decode b_K_numberAt 21 = .ok (.iadd, 1) := by decide +kernel
theorem d_K_numberAt_22 : decode b_K_numberAt 22 = .ok (.invokevirtual 52, 3) := by decide +kernel
theorem d_K_numberAt_25 : decode b_K_numberAt 25 = .ok (.goto 4, 3) := by decide +kernel
theorem d_K_numberAt_28 : decode b_K_numberAt 28 = .ok (.iconst (-1), 1) := by decide +kernel
theorem d_K_numberAt_29 : decode b_K_numberAt 29 = .ok (.ireturn, 1) := by decide +kernel
theorem d_K_keepPlace_0 : decode b_K_keepPlace 0 = .ok (.iload_n 1, 1) := by decide +kernel
theorem d_K_keepPlace_1 : decode b_K_keepPlace 1 = .ok (.invokestatic 41, 3) := by decide +kernel
theorem d_K_keepPlace_4 : decode b_K_keepPlace 4 = .ok (.ifCond .eq 10, 3) := by decide +kernel
theorem d_K_keepPlace_7 : decode b_K_keepPlace 7 = .ok (.aload_n 0, 1) := by decide +kernel
theorem d_K_keepPlace_8 : decode b_K_keepPlace 8 = .ok (.getfield 25, 3) := by decide +kernel
theorem d_K_keepPlace_11 : decode b_K_keepPlace 11 = .ok (.iload_n 1, 1) := by decide +kernel
theorem d_K_keepPlace_12 : decode b_K_keepPlace 12 = .ok (.iload_n 2, 1) := by decide +kernel
theorem d_K_keepPlace_13 : decode b_K_keepPlace 13 = .ok (.iastore, 1) := by decide +kernel
theorem d_K_keepPlace_14 : decode b_K_keepPlace 14 = .ok (.return_, 1) := by decide +kernel
theorem d_K_keptPlace_0 : decode b_K_keptPlace 0 = .ok (.iload_n 1, 1) := by decide +kernel
theorem d_K_keptPlace_1 : decode b_K_keptPlace 1 = .ok (.invokestatic 41, 3) := by decide +kernel
theorem d_K_keptPlace_4 : decode b_K_keptPlace 4 = .ok (.ifCond .eq 12, 3) := by decide +kernel
theorem d_K_keptPlace_7 : decode b_K_keptPlace 7 = .ok (.aload_n 0, 1) := by decide +kernel
theorem d_K_keptPlace_8 : decode b_K_keptPlace 8 = .ok (.getfield 25, 3) := by decide +kernel
theorem d_K_keptPlace_11 : decode b_K_keptPlace 11 = .ok (.iload_n 1, 1) := by decide +kernel
theorem d_K_keptPlace_12 : decode b_K_keptPlace 12 = .ok (.iaload, 1) := by decide +kernel
theorem d_K_keptPlace_13 : decode b_K_keptPlace 13 = .ok (.goto 4, 3) := by decide +kernel
theorem d_K_keptPlace_16 : decode b_K_keptPlace 16 = .ok (.iconst (-1), 1) := by decide +kernel
theorem d_K_keptPlace_17 : decode b_K_keptPlace 17 = .ok (.ireturn, 1) := by decide +kernel
theorem d_K_growCodeword_0 : decode b_K_growCodeword 0 = .ok (.aload_n 0, 1) := by decide +kernel
theorem d_K_growCodeword_1 : decode b_K_growCodeword 1 = .ok (.aload_n 0, 1) := by decide +kernel
theorem d_K_growCodeword_2 : decode b_K_growCodeword 2 = .ok (.getfield 28, 3) := by decide +kernel
theorem d_K_growCodeword_5 : decode b_K_growCodeword 5 = .ok (.iconst 1, 1) := by decide +kernel
theorem d_K_growCodeword_6 : decode b_K_growCodeword 6 = .ok (.isub, 1) := by decide +kernel
theorem d_K_growCodeword_7 : decode b_K_growCodeword 7 = .ok (.invokevirtual 52, 3) := by decide +kernel
theorem d_K_growCodeword_10 : decode b_K_growCodeword 10 = .ok (.iconst (-1), 1) := by decide +kernel
theorem d_K_growCodeword_11 : decode b_K_growCodeword 11 = .ok (.if_icmp .ne 7, 3) := by decide +kernel
theorem d_K_growCodeword_14 : decode b_K_growCodeword 14 = .ok (.iconst 1, 1) := by decide +kernel
theorem d_K_growCodeword_15 : decode b_K_growCodeword 15 = .ok (.goto 4, 3) := by decide +kernel
theorem d_K_growCodeword_18 : decode b_K_growCodeword 18 = .ok (.iconst 0, 1) := by decide +kernel
theorem d_K_growCodeword_19 : decode b_K_growCodeword 19 = .ok (.istore_n 1, 1) := by decide +kernel
theorem d_K_growCodeword_20 : decode b_K_growCodeword 20 = .ok (.iload_n 1, 1) := by decide +kernel
theorem d_K_growCodeword_21 : decode b_K_growCodeword 21 = .ok (.ifCond .eq 45, 3) := by decide +kernel
theorem d_K_growCodeword_24 : decode b_K_growCodeword 24 = .ok (.aload_n 0, 1) := by decide +kernel
theorem d_K_growCodeword_25 : decode b_K_growCodeword 25 = .ok (.getfield 32, 3) := by decide +kernel
theorem d_K_growCodeword_28 : decode b_K_growCodeword 28 = .ok (.bipush 30, 2) := by decide +kernel
theorem d_K_growCodeword_30 : decode b_K_growCodeword 30 = .ok (.if_icmp .ge 36, 3) := by decide +kernel
theorem d_K_growCodeword_33 : decode b_K_growCodeword 33 = .ok (.aload_n 0, 1) := by decide +kernel
theorem d_K_growCodeword_34 : decode b_K_growCodeword 34 = .ok (.getfield 15, 3) := by decide +kernel
theorem d_K_growCodeword_37 : decode b_K_growCodeword 37 = .ok (.aload_n 0, 1) := by decide +kernel
theorem d_K_growCodeword_38 : decode b_K_growCodeword 38 = .ok (.getfield 32, 3) := by decide +kernel
theorem d_K_growCodeword_41 : decode b_K_growCodeword 41 = .ok (.aload_n 0, 1) := by decide +kernel
theorem d_K_growCodeword_42 : decode b_K_growCodeword 42 = .ok (.getfield 28, 3) := by decide +kernel
theorem d_K_growCodeword_45 : decode b_K_growCodeword 45 = .ok (.iastore, 1) := by decide +kernel
theorem d_K_growCodeword_46 : decode b_K_growCodeword 46 = .ok (.aload_n 0, 1) := by decide +kernel
theorem d_K_growCodeword_47 : decode b_K_growCodeword 47 = .ok (.getfield 18, 3) := by decide +kernel
theorem d_K_growCodeword_50 : decode b_K_growCodeword 50 = .ok (.aload_n 0, 1) := by decide +kernel
theorem d_K_growCodeword_51 : decode b_K_growCodeword 51 = .ok (.getfield 32, 3) := by decide +kernel
theorem d_K_growCodeword_54 : decode b_K_growCodeword 54 = .ok (.iconst 0, 1) := by decide +kernel
theorem d_K_growCodeword_55 : decode b_K_growCodeword 55 = .ok (.iastore, 1) := by decide +kernel
theorem d_K_growCodeword_56 : decode b_K_growCodeword 56 = .ok (.aload_n 0, 1) := by decide +kernel
theorem d_K_growCodeword_57 : decode b_K_growCodeword 57 = .ok (.dup, 1) := by decide +kernel
theorem d_K_growCodeword_58 : decode b_K_growCodeword 58 = .ok (.getfield 32, 3) := by decide +kernel
theorem d_K_growCodeword_61 : decode b_K_growCodeword 61 = .ok (.iconst 1, 1) := by decide +kernel
theorem d_K_growCodeword_62 : decode b_K_growCodeword 62 = .ok (.iadd, 1) := by decide +kernel
theorem d_K_growCodeword_63 : decode b_K_growCodeword 63 = .ok (.putfield 32, 3) := by decide +kernel
theorem d_K_growCodeword_66 : decode b_K_growCodeword 66 = .ok (.aload_n 0, 1) := by decide +kernel
theorem d_K_growCodeword_67 : decode b_K_growCodeword 67 = .ok (.getfield 32, 3) := by decide +kernel
theorem d_K_growCodeword_70 : decode b_K_growCodeword 70 = .ok (.ifCond .le 18, 3) := by decide +kernel
theorem d_K_growCodeword_73 : decode b_K_growCodeword 73 = .ok (.aload_n 0, 1) := by decide +kernel
theorem d_K_growCodeword_74 : decode b_K_growCodeword 74 = .ok (.getfield 18, 3) := by decide +kernel
theorem d_K_growCodeword_77 : decode b_K_growCodeword 77 = .ok (.aload_n 0, 1) := by decide +kernel
theorem d_K_growCodeword_78 : decode b_K_growCodeword 78 = .ok (.getfield 32, 3) := by decide +kernel
theorem d_K_growCodeword_81 : decode b_K_growCodeword 81 = .ok (.iconst 1, 1) := by decide +kernel
theorem d_K_growCodeword_82 : decode b_K_growCodeword 82 = .ok (.isub, 1) := by decide +kernel
theorem d_K_growCodeword_83 : decode b_K_growCodeword 83 = .ok (.dup2, 1) := by decide +kernel
theorem d_K_growCodeword_84 : decode b_K_growCodeword 84 = .ok (.iaload, 1) := by decide +kernel
theorem d_K_growCodeword_85 : decode b_K_growCodeword 85 = .ok (.iconst 1, 1) := by decide +kernel
theorem d_K_growCodeword_86 : decode b_K_growCodeword 86 = .ok (.iadd, 1) := by decide +kernel
theorem d_K_growCodeword_87 : decode b_K_growCodeword 87 = .ok (.iastore, 1) := by decide +kernel
theorem d_K_growCodeword_88 : decode b_K_growCodeword 88 = .ok (.return_, 1) := by decide +kernel
end
section
theorem d_L_law_0 : decode code 0 = .ok (.new 7, 3) := by decide +kernel
theorem d_L_law_3 : decode code 3 = .ok (.dup, 1) := by decide +kernel
theorem d_L_law_4 : decode code 4 = .ok (.invokespecial 9, 3) := by decide +kernel
theorem d_L_law_7 : decode code 7 = .ok (.astore_n 1, 1) := by decide +kernel
theorem d_L_law_8 : decode code 8 = .ok (.new 10, 3) := by decide +kernel
theorem d_L_law_11 : decode code 11 = .ok (.dup, 1) := by decide +kernel
theorem d_L_law_12 : decode code 12 = .ok (.invokespecial 12, 3) := by decide +kernel
theorem d_L_law_15 : decode code 15 = .ok (.astore_n 2, 1) := by decide +kernel
theorem d_L_law_16 : decode code 16 = .ok (.iconst 0, 1) := by decide +kernel
theorem d_L_law_17 : decode code 17 = .ok (.istore_n 3, 1) := by decide +kernel
theorem d_L_law_18 : decode code 18 = .ok (.iload_n 3, 1) := by decide +kernel
theorem d_L_law_19 : decode code 19 = .ok (.aload_n 0, 1) := by decide +kernel
theorem d_L_law_20 : decode code 20 = .ok (.arraylength, 1) := by decide +kernel
theorem d_L_law_21 : decode code 21 = .ok (.iconst 4, 1) := by decide +kernel
theorem d_L_law_22 : decode code 22 = .ok (.isub, 1) := by decide +kernel
theorem d_L_law_23 : decode code 23 = .ok (.if_icmp .gt 523, 3) := by decide +kernel
theorem d_L_law_26 : decode code 26 = .ok (.aload_n 0, 1) := by decide +kernel
theorem d_L_law_27 : decode code 27 = .ok (.iload_n 3, 1) := by decide +kernel
theorem d_L_law_28 : decode code 28 = .ok (.iaload, 1) := by decide +kernel
theorem d_L_law_29 : decode code 29 = .ok (.bipush 31, 2) := by decide +kernel
theorem d_L_law_31 : decode code 31 = .ok (.iand, 1) := by decide +kernel
theorem d_L_law_32 : decode code 32 = .ok (.tableswitch 508 0 18 #[92, 115, 128, 151, 184, 227, 250, 263, 296, 320, 333, 346, 359, 382, 415, 428, 461, 474, 497], 92) := by decide +kernel
theorem d_L_law_124 : decode code 124 = .ok (.aload_n 1, 1) := by decide +kernel
theorem d_L_law_125 : decode code 125 = .ok (.aload_n 0, 1) := by decide +kernel
theorem d_L_law_126 : decode code 126 = .ok (.iload_n 3, 1) := by decide +kernel
theorem d_L_law_127 : decode code 127 = .ok (.iconst 1, 1) := by decide +kernel
theorem d_L_law_128 : decode code 128 = .ok (.iadd, 1) := by decide +kernel
theorem d_L_law_129 : decode code 129 = .ok (.iaload, 1) := by decide +kernel
theorem d_L_law_130 : decode code 130 = .ok (.invokevirtual 13, 3) := by decide +kernel
theorem d_L_law_133 : decode code 133 = .ok (.aload_n 2, 1) := by decide +kernel
theorem d_L_law_134 : decode code 134 = .ok (.aload_n 0, 1) := by decide +kernel
theorem d_L_law_135 : decode code 135 = .ok (.iload_n 3, 1) := by decide +kernel
theorem d_L_law_136 : decode code 136 = .ok (.iconst 1, 1) := by decide +kernel
theorem d_L_law_137 : decode code 137 = .ok (.iadd, 1) := by decide +kernel
theorem d_L_law_138 : decode code 138 = .ok (.iaload, 1) := by decide +kernel
theorem d_L_law_139 : decode code 139 = .ok (.invokevirtual 17, 3) := by decide +kernel
theorem d_L_law_142 : decode code 142 = .ok (.if_icmp .eq 398, 3) := by decide +kernel
theorem d_L_law_145 : decode code 145 = .ok (.iconst 0, 1) := by decide +kernel
theorem d_L_law_146 : decode code 146 = .ok (.ireturn, 1) := by decide +kernel
theorem d_L_law_147 : decode code 147 = .ok (.aload_n 1, 1) := by decide +kernel
theorem d_L_law_148 : decode code 148 = .ok (.invokevirtual 18, 3) := by decide +kernel
theorem d_L_law_151 : decode code 151 = .ok (.aload_n 2, 1) := by decide +kernel
theorem d_L_law_152 : decode code 152 = .ok (.invokevirtual 22, 3) := by decide +kernel
theorem d_L_law_155 : decode code 155 = .ok (.if_icmp .eq 385, 3) := by decide +kernel
theorem d_L_law_158 : decode code 158 = .ok (.iconst 0, 1) := by decide +kernel
theorem d_L_law_159 : decode code 159 = .ok (.ireturn, 1) := by decide +kernel
theorem d_L_law_160 : decode code 160 = .ok (.aload_n 1, 1) := by decide +kernel
theorem d_L_law_161 : decode code 161 = .ok (.aload_n 0, 1) := by decide +kernel
theorem d_L_law_162 : decode code 162 = .ok (.iload_n 3, 1) := by decide +kernel
theorem d_L_law_163 : decode code 163 = .ok (.iconst 1, 1) := by decide +kernel
theorem d_L_law_164 : decode code 164 = .ok (.iadd, 1) := by decide +kernel
theorem d_L_law_165 : decode code 165 = .ok (.iaload, 1) := by decide +kernel
theorem d_L_law_166 : decode code 166 = .ok (.invokevirtual 23, 3) := by decide +kernel
theorem d_L_law_169 : decode code 169 = .ok (.aload_n 2, 1) := by decide +kernel
theorem d_L_law_170 : decode code 170 = .ok (.aload_n 0, 1) := by decide +kernel
theorem d_L_law_171 : decode code 171 = .ok (.iload_n 3, 1) := by decide +kernel
theorem d_L_law_172 : decode code 172 = .ok (.iconst 1, 1) := by decide +kernel
theorem d_L_law_173 : decode code 173 = .ok (.iadd, 1) := by decide +kernel
theorem d_L_law_174 : decode code 174 = .ok (.iaload, 1) := by decide +kernel
theorem d_L_law_175 : decode code 175 = .ok (.invokevirtual 26, 3) := by decide +kernel
theorem d_L_law_178 : decode code 178 = .ok (.if_icmp .eq 362, 3) := by decide +kernel
theorem d_L_law_181 : decode code 181 = .ok (.iconst 0, 1) := by decide +kernel
theorem d_L_law_182 : decode code 182 = .ok (.ireturn, 1) := by decide +kernel
theorem d_L_law_183 : decode code 183 = .ok (.aload_n 1, 1) := by decide +kernel
theorem d_L_law_184 : decode code 184 = .ok (.aload_n 0, 1) := by decide +kernel
theorem d_L_law_185 : decode code 185 = .ok (.iload_n 3, 1) := by decide +kernel
theorem d_L_law_186 : decode code 186 = .ok (.iconst 1, 1) := by decide +kernel
theorem d_L_law_187 : decode code 187 = .ok (.iadd, 1) := by decide +kernel
theorem d_L_law_188 : decode code 188 = .ok (.iaload, 1) := by decide +kernel
theorem d_L_law_189 : decode code 189 = .ok (.aload_n 0, 1) := by decide +kernel
theorem d_L_law_190 : decode code 190 = .ok (.iload_n 3, 1) := by decide +kernel
theorem d_L_law_191 : decode code 191 = .ok (.iconst 2, 1) := by decide +kernel
theorem d_L_law_192 : decode code 192 = .ok (.iadd, 1) := by decide +kernel
theorem d_L_law_193 : decode code 193 = .ok (.iaload, 1) := by decide +kernel
theorem d_L_law_194 : decode code 194 = .ok (.invokevirtual 27, 3) := by decide +kernel
theorem d_L_law_197 : decode code 197 = .ok (.aload_n 2, 1) := by decide +kernel
theorem d_L_law_198 : decode code 198 = .ok (.aload_n 0, 1) := by decide +kernel
theorem d_L_law_199 : decode code 199 = .ok (.iload_n 3, 1) := by decide +kernel
theorem d_L_law_200 : decode code 200 = .ok (.iconst 1, 1) := by decide +kernel
theorem d_L_law_201 : decode code 201 = .ok (.iadd, 1) := by decide +kernel
theorem d_L_law_202 : decode code 202 = .ok (.iaload, 1) := by decide +kernel
theorem d_L_law_203 : decode code 203 = .ok (.aload_n 0, 1) := by decide +kernel
theorem d_L_law_204 : decode code 204 = .ok (.iload_n 3, 1) := by decide +kernel
theorem d_L_law_205 : decode code 205 = .ok (.iconst 2, 1) := by decide +kernel
theorem d_L_law_206 : decode code 206 = .ok (.iadd, 1) := by decide +kernel
theorem d_L_law_207 : decode code 207 = .ok (.iaload, 1) := by decide +kernel
theorem d_L_law_208 : decode code 208 = .ok (.invokevirtual 31, 3) := by decide +kernel
theorem d_L_law_211 : decode code 211 = .ok (.if_icmp .eq 329, 3) := by decide +kernel
theorem d_L_law_214 : decode code 214 = .ok (.iconst 0, 1) := by decide +kernel
theorem d_L_law_215 : decode code 215 = .ok (.ireturn, 1) := by decide +kernel
theorem d_L_law_216 : decode code 216 = .ok (.aload_n 1, 1) := by decide +kernel
theorem d_L_law_217 : decode code 217 = .ok (.aload_n 0, 1) := by decide +kernel
theorem d_L_law_218 : decode code 218 = .ok (.iload_n 3, 1) := by decide +kernel
theorem d_L_law_219 : decode code 219 = .ok (.iconst 1, 1) := by decide +kernel
theorem d_L_law_220 : decode code 220 = .ok (.iadd, 1) := by decide +kernel
theorem d_L_law_221 : decode code 221 = .ok (.iaload, 1) := by decide +kernel
theorem d_L_law_222 : decode code 222 = .ok (.aload_n 0, 1) := by decide +kernel
theorem d_L_law_223 : decode code 223 = .ok (.iload_n 3, 1) := by decide +kernel
theorem d_L_law_224 : decode code 224 = .ok (.iconst 2, 1) := by decide +kernel
theorem d_L_law_225 : decode code 225 = .ok (.iadd, 1) := by decide +kernel
theorem d_L_law_226 : decode code 226 = .ok (.iaload, 1) := by decide +kernel
theorem d_L_law_227 : decode code 227 = .ok (.aload_n 0, 1) := by decide +kernel
theorem d_L_law_228 : decode code 228 = .ok (.iload_n 3, 1) := by decide +kernel
theorem d_L_law_229 : decode code 229 = .ok (.iconst 3, 1) := by decide +kernel
theorem d_L_law_230 : decode code 230 = .ok (.iadd, 1) := by decide +kernel
theorem d_L_law_231 : decode code 231 = .ok (.iaload, 1) := by decide +kernel
theorem d_L_law_232 : decode code 232 = .ok (.invokevirtual 32, 3) := by decide +kernel
theorem d_L_law_235 : decode code 235 = .ok (.aload_n 2, 1) := by decide +kernel
theorem d_L_law_236 : decode code 236 = .ok (.aload_n 0, 1) := by decide +kernel
theorem d_L_law_237 : decode code 237 = .ok (.iload_n 3, 1) := by decide +kernel
theorem d_L_law_238 : decode code 238 = .ok (.iconst 1, 1) := by decide +kernel
theorem d_L_law_239 : decode code 239 = .ok (.iadd, 1) := by decide +kernel
theorem d_L_law_240 : decode code 240 = .ok (.iaload, 1) := by decide +kernel
theorem d_L_law_241 : decode code 241 = .ok (.aload_n 0, 1) := by decide +kernel
theorem d_L_law_242 : decode code 242 = .ok (.iload_n 3, 1) := by decide +kernel
theorem d_L_law_243 : decode code 243 = .ok (.iconst 2, 1) := by decide +kernel
theorem d_L_law_244 : decode code 244 = .ok (.iadd, 1) := by decide +kernel
theorem d_L_law_245 : decode code 245 = .ok (.iaload, 1) := by decide +kernel
theorem d_L_law_246 : decode code 246 = .ok (.aload_n 0, 1) := by decide +kernel
theorem d_L_law_247 : decode code 247 = .ok (.iload_n 3, 1) := by decide +kernel
theorem d_L_law_248 : decode code 248 = .ok (.iconst 3, 1) := by decide +kernel
theorem d_L_law_249 : decode code 249 = .ok (.iadd, 1) := by decide +kernel
theorem d_L_law_250 : decode code 250 = .ok (.iaload, 1) := by decide +kernel
theorem d_L_law_251 : decode code 251 = .ok (.invokevirtual 36, 3) := by decide +kernel
theorem d_L_law_254 : decode code 254 = .ok (.if_icmp .eq 286, 3) := by decide +kernel
theorem d_L_law_257 : decode code 257 = .ok (.iconst 0, 1) := by decide +kernel
theorem d_L_law_258 : decode code 258 = .ok (.ireturn, 1) := by decide +kernel
theorem d_L_law_259 : decode code 259 = .ok (.aload_n 1, 1) := by decide +kernel
theorem d_L_law_260 : decode code 260 = .ok (.aload_n 0, 1) := by decide +kernel
theorem d_L_law_261 : decode code 261 = .ok (.iload_n 3, 1) := by decide +kernel
theorem d_L_law_262 : decode code 262 = .ok (.iconst 1, 1) := by decide +kernel
theorem d_L_law_263 : decode code 263 = .ok (.iadd, 1) := by decide +kernel
theorem d_L_law_264 : decode code 264 = .ok (.iaload, 1) := by decide +kernel
theorem d_L_law_265 : decode code 265 = .ok (.invokevirtual 37, 3) := by decide +kernel
theorem d_L_law_268 : decode code 268 = .ok (.aload_n 2, 1) := by decide +kernel
theorem d_L_law_269 : decode code 269 = .ok (.aload_n 0, 1) := by decide +kernel
theorem d_L_law_270 : decode code 270 = .ok (.iload_n 3, 1) := by decide +kernel
theorem d_L_law_271 : decode code 271 = .ok (.iconst 1, 1) := by decide +kernel
theorem d_L_law_272 : decode code 272 = .ok (.iadd, 1) := by decide +kernel
theorem d_L_law_273 : decode code 273 = .ok (.iaload, 1) := by decide +kernel
theorem d_L_law_274 : decode code 274 = .ok (.invokevirtual 41, 3) := by decide +kernel
theorem d_L_law_277 : decode code 277 = .ok (.if_icmp .eq 263, 3) := by decide +kernel
theorem d_L_law_280 : decode code 280 = .ok (.iconst 0, 1) := by decide +kernel
theorem d_L_law_281 : decode code 281 = .ok (.ireturn, 1) := by decide +kernel
theorem d_L_law_282 : decode code 282 = .ok (.aload_n 1, 1) := by decide +kernel
theorem d_L_law_283 : decode code 283 = .ok (.invokevirtual 42, 3) := by decide +kernel
theorem d_L_law_286 : decode code 286 = .ok (.aload_n 2, 1) := by decide +kernel
theorem d_L_law_287 : decode code 287 = .ok (.invokevirtual 45, 3) := by decide +kernel
theorem d_L_law_290 : decode code 290 = .ok (.if_icmp .eq 250, 3) := by decide +kernel
theorem d_L_law_293 : decode code 293 = .ok (.iconst 0, 1) := by decide +kernel
theorem d_L_law_294 : decode code 294 = .ok (.ireturn, 1) := by decide +kernel
theorem d_L_law_295 : decode code 295 = .ok (.aload_n 1, 1) := by decide +kernel
theorem d_L_law_296 : decode code 296 = .ok (.aload_n 0, 1) := by decide +kernel
theorem d_L_law_297 : decode code 297 = .ok (.iload_n 3, 1) := by decide +kernel
theorem d_L_law_298 : decode code 298 = .ok (.iconst 1, 1) := by decide +kernel
theorem d_L_law_299 : decode code 299 = .ok (.iadd, 1) := by decide +kernel
theorem d_L_law_300 : decode code 300 = .ok (.iaload, 1) := by decide +kernel
theorem d_L_law_301 : decode code 301 = .ok (.aload_n 0, 1) := by decide +kernel
theorem d_L_law_302 : decode code 302 = .ok (.iload_n 3, 1) := by decide +kernel
theorem d_L_law_303 : decode code 303 = .ok (.iconst 2, 1) := by decide +kernel
theorem d_L_law_304 : decode code 304 = .ok (.iadd, 1) := by decide +kernel
theorem d_L_law_305 : decode code 305 = .ok (.iaload, 1) := by decide +kernel
theorem d_L_law_306 : decode code 306 = .ok (.invokevirtual 46, 3) := by decide +kernel
theorem d_L_law_309 : decode code 309 = .ok (.aload_n 2, 1) := by decide +kernel
theorem d_L_law_310 : decode code 310 = .ok (.aload_n 0, 1) := by decide +kernel
theorem d_L_law_311 : decode code 311 = .ok (.iload_n 3, 1) := by decide +kernel
theorem d_L_law_312 : decode code 312 = .ok (.iconst 1, 1) := by decide +kernel
theorem d_L_law_313 : decode code 313 = .ok (.iadd, 1) := by decide +kernel
theorem d_L_law_314 : decode code 314 = .ok (.iaload, 1) := by decide +kernel
theorem d_L_law_315 : decode code 315 = .ok (.aload_n 0, 1) := by decide +kernel
theorem d_L_law_316 : decode code 316 = .ok (.iload_n 3, 1) := by decide +kernel
theorem d_L_law_317 : decode code 317 = .ok (.iconst 2, 1) := by decide +kernel
theorem d_L_law_318 : decode code 318 = .ok (.iadd, 1) := by decide +kernel
theorem d_L_law_319 : decode code 319 = .ok (.iaload, 1) := by decide +kernel
theorem d_L_law_320 : decode code 320 = .ok (.invokevirtual 50, 3) := by decide +kernel
theorem d_L_law_323 : decode code 323 = .ok (.if_icmp .eq 217, 3) := by decide +kernel
theorem d_L_law_326 : decode code 326 = .ok (.iconst 0, 1) := by decide +kernel
theorem d_L_law_327 : decode code 327 = .ok (.ireturn, 1) := by decide +kernel
theorem d_L_law_328 : decode code 328 = .ok (.aload_n 1, 1) := by decide +kernel
theorem d_L_law_329 : decode code 329 = .ok (.aload_n 0, 1) := by decide +kernel
theorem d_L_law_330 : decode code 330 = .ok (.iload_n 3, 1) := by decide +kernel
theorem d_L_law_331 : decode code 331 = .ok (.iconst 1, 1) := by decide +kernel
theorem d_L_law_332 : decode code 332 = .ok (.iadd, 1) := by decide +kernel
theorem d_L_law_333 : decode code 333 = .ok (.iaload, 1) := by decide +kernel
theorem d_L_law_334 : decode code 334 = .ok (.invokevirtual 51, 3) := by decide +kernel
theorem d_L_law_337 : decode code 337 = .ok (.aload_n 2, 1) := by decide +kernel
theorem d_L_law_338 : decode code 338 = .ok (.aload_n 0, 1) := by decide +kernel
theorem d_L_law_339 : decode code 339 = .ok (.iload_n 3, 1) := by decide +kernel
theorem d_L_law_340 : decode code 340 = .ok (.iconst 1, 1) := by decide +kernel
theorem d_L_law_341 : decode code 341 = .ok (.iadd, 1) := by decide +kernel
theorem d_L_law_342 : decode code 342 = .ok (.iaload, 1) := by decide +kernel
theorem d_L_law_343 : decode code 343 = .ok (.invokevirtual 55, 3) := by decide +kernel
theorem d_L_law_346 : decode code 346 = .ok (.lcmp, 1) := by decide +kernel
theorem d_L_law_347 : decode code 347 = .ok (.ifCond .eq 193, 3) := by decide +kernel
theorem d_L_law_350 : decode code 350 = .ok (.iconst 0, 1) := by decide +kernel
theorem d_L_law_351 : decode code 351 = .ok (.ireturn, 1) := by decide +kernel
theorem d_L_law_352 : decode code 352 = .ok (.aload_n 1, 1) := by decide +kernel
theorem d_L_law_353 : decode code 353 = .ok (.invokevirtual 56, 3) := by decide +kernel
theorem d_L_law_356 : decode code 356 = .ok (.aload_n 2, 1) := by decide +kernel
theorem d_L_law_357 : decode code 357 = .ok (.invokevirtual 59, 3) := by decide +kernel
theorem d_L_law_360 : decode code 360 = .ok (.if_icmp .eq 180, 3) := by decide +kernel
theorem d_L_law_363 : decode code 363 = .ok (.iconst 0, 1) := by decide +kernel
theorem d_L_law_364 : decode code 364 = .ok (.ireturn, 1) := by decide +kernel
theorem d_L_law_365 : decode code 365 = .ok (.aload_n 1, 1) := by decide +kernel
theorem d_L_law_366 : decode code 366 = .ok (.invokevirtual 60, 3) := by decide +kernel
theorem d_L_law_369 : decode code 369 = .ok (.aload_n 2, 1) := by decide +kernel
theorem d_L_law_370 : decode code 370 = .ok (.invokevirtual 63, 3) := by decide +kernel
theorem d_L_law_373 : decode code 373 = .ok (.if_icmp .eq 167, 3) := by decide +kernel
theorem d_L_law_376 : decode code 376 = .ok (.iconst 0, 1) := by decide +kernel
theorem d_L_law_377 : decode code 377 = .ok (.ireturn, 1) := by decide +kernel
theorem d_L_law_378 : decode code 378 = .ok (.aload_n 1, 1) := by decide +kernel
theorem d_L_law_379 : decode code 379 = .ok (.invokevirtual 64, 3) := by decide +kernel
theorem d_L_law_382 : decode code 382 = .ok (.aload_n 2, 1) := by decide +kernel
theorem d_L_law_383 : decode code 383 = .ok (.invokevirtual 67, 3) := by decide +kernel
theorem d_L_law_386 : decode code 386 = .ok (.if_icmp .eq 154, 3) := by decide +kernel
theorem d_L_law_389 : decode code 389 = .ok (.iconst 0, 1) := by decide +kernel
theorem d_L_law_390 : decode code 390 = .ok (.ireturn, 1) := by decide +kernel
theorem d_L_law_391 : decode code 391 = .ok (.aload_n 1, 1) := by decide +kernel
theorem d_L_law_392 : decode code 392 = .ok (.aload_n 0, 1) := by decide +kernel
theorem d_L_law_393 : decode code 393 = .ok (.iload_n 3, 1) := by decide +kernel
theorem d_L_law_394 : decode code 394 = .ok (.iconst 1, 1) := by decide +kernel
theorem d_L_law_395 : decode code 395 = .ok (.iadd, 1) := by decide +kernel
theorem d_L_law_396 : decode code 396 = .ok (.iaload, 1) := by decide +kernel
theorem d_L_law_397 : decode code 397 = .ok (.invokevirtual 68, 3) := by decide +kernel
theorem d_L_law_400 : decode code 400 = .ok (.aload_n 2, 1) := by decide +kernel
theorem d_L_law_401 : decode code 401 = .ok (.aload_n 0, 1) := by decide +kernel
theorem d_L_law_402 : decode code 402 = .ok (.iload_n 3, 1) := by decide +kernel
theorem d_L_law_403 : decode code 403 = .ok (.iconst 1, 1) := by decide +kernel
theorem d_L_law_404 : decode code 404 = .ok (.iadd, 1) := by decide +kernel
theorem d_L_law_405 : decode code 405 = .ok (.iaload, 1) := by decide +kernel
theorem d_L_law_406 : decode code 406 = .ok (.invokevirtual 71, 3) := by decide +kernel
theorem d_L_law_409 : decode code 409 = .ok (.if_icmp .eq 131, 3) := by decide +kernel
theorem d_L_law_412 : decode code 412 = .ok (.iconst 0, 1) := by decide +kernel
theorem d_L_law_413 : decode code 413 = .ok (.ireturn, 1) := by decide +kernel
theorem d_L_law_414 : decode code 414 = .ok (.aload_n 1, 1) := by decide +kernel
theorem d_L_law_415 : decode code 415 = .ok (.aload_n 0, 1) := by decide +kernel
theorem d_L_law_416 : decode code 416 = .ok (.iload_n 3, 1) := by decide +kernel
theorem d_L_law_417 : decode code 417 = .ok (.iconst 1, 1) := by decide +kernel
theorem d_L_law_418 : decode code 418 = .ok (.iadd, 1) := by decide +kernel
theorem d_L_law_419 : decode code 419 = .ok (.iaload, 1) := by decide +kernel
theorem d_L_law_420 : decode code 420 = .ok (.aload_n 0, 1) := by decide +kernel
theorem d_L_law_421 : decode code 421 = .ok (.iload_n 3, 1) := by decide +kernel
theorem d_L_law_422 : decode code 422 = .ok (.iconst 2, 1) := by decide +kernel
theorem d_L_law_423 : decode code 423 = .ok (.iadd, 1) := by decide +kernel
theorem d_L_law_424 : decode code 424 = .ok (.iaload, 1) := by decide +kernel
theorem d_L_law_425 : decode code 425 = .ok (.invokevirtual 72, 3) := by decide +kernel
theorem d_L_law_428 : decode code 428 = .ok (.aload_n 2, 1) := by decide +kernel
theorem d_L_law_429 : decode code 429 = .ok (.aload_n 0, 1) := by decide +kernel
theorem d_L_law_430 : decode code 430 = .ok (.iload_n 3, 1) := by decide +kernel
theorem d_L_law_431 : decode code 431 = .ok (.iconst 1, 1) := by decide +kernel
theorem d_L_law_432 : decode code 432 = .ok (.iadd, 1) := by decide +kernel
theorem d_L_law_433 : decode code 433 = .ok (.iaload, 1) := by decide +kernel
theorem d_L_law_434 : decode code 434 = .ok (.aload_n 0, 1) := by decide +kernel
theorem d_L_law_435 : decode code 435 = .ok (.iload_n 3, 1) := by decide +kernel
theorem d_L_law_436 : decode code 436 = .ok (.iconst 2, 1) := by decide +kernel
theorem d_L_law_437 : decode code 437 = .ok (.iadd, 1) := by decide +kernel
theorem d_L_law_438 : decode code 438 = .ok (.iaload, 1) := by decide +kernel
theorem d_L_law_439 : decode code 439 = .ok (.invokevirtual 75, 3) := by decide +kernel
theorem d_L_law_442 : decode code 442 = .ok (.if_icmp .eq 98, 3) := by decide +kernel
theorem d_L_law_445 : decode code 445 = .ok (.iconst 0, 1) := by decide +kernel
theorem d_L_law_446 : decode code 446 = .ok (.ireturn, 1) := by decide +kernel
theorem d_L_law_447 : decode code 447 = .ok (.aload_n 1, 1) := by decide +kernel
theorem d_L_law_448 : decode code 448 = .ok (.invokevirtual 76, 3) := by decide +kernel
theorem d_L_law_451 : decode code 451 = .ok (.aload_n 2, 1) := by decide +kernel
theorem d_L_law_452 : decode code 452 = .ok (.invokevirtual 79, 3) := by decide +kernel
theorem d_L_law_455 : decode code 455 = .ok (.if_icmp .eq 85, 3) := by decide +kernel
theorem d_L_law_458 : decode code 458 = .ok (.iconst 0, 1) := by decide +kernel
theorem d_L_law_459 : decode code 459 = .ok (.ireturn, 1) := by decide +kernel
theorem d_L_law_460 : decode code 460 = .ok (.aload_n 1, 1) := by decide +kernel
theorem d_L_law_461 : decode code 461 = .ok (.aload_n 0, 1) := by decide +kernel
theorem d_L_law_462 : decode code 462 = .ok (.iload_n 3, 1) := by decide +kernel
theorem d_L_law_463 : decode code 463 = .ok (.iconst 1, 1) := by decide +kernel
theorem d_L_law_464 : decode code 464 = .ok (.iadd, 1) := by decide +kernel
theorem d_L_law_465 : decode code 465 = .ok (.iaload, 1) := by decide +kernel
theorem d_L_law_466 : decode code 466 = .ok (.aload_n 0, 1) := by decide +kernel
theorem d_L_law_467 : decode code 467 = .ok (.iload_n 3, 1) := by decide +kernel
theorem d_L_law_468 : decode code 468 = .ok (.iconst 2, 1) := by decide +kernel
theorem d_L_law_469 : decode code 469 = .ok (.iadd, 1) := by decide +kernel
theorem d_L_law_470 : decode code 470 = .ok (.iaload, 1) := by decide +kernel
theorem d_L_law_471 : decode code 471 = .ok (.invokevirtual 80, 3) := by decide +kernel
theorem d_L_law_474 : decode code 474 = .ok (.aload_n 2, 1) := by decide +kernel
theorem d_L_law_475 : decode code 475 = .ok (.aload_n 0, 1) := by decide +kernel
theorem d_L_law_476 : decode code 476 = .ok (.iload_n 3, 1) := by decide +kernel
theorem d_L_law_477 : decode code 477 = .ok (.iconst 1, 1) := by decide +kernel
theorem d_L_law_478 : decode code 478 = .ok (.iadd, 1) := by decide +kernel
theorem d_L_law_479 : decode code 479 = .ok (.iaload, 1) := by decide +kernel
theorem d_L_law_480 : decode code 480 = .ok (.aload_n 0, 1) := by decide +kernel
theorem d_L_law_481 : decode code 481 = .ok (.iload_n 3, 1) := by decide +kernel
theorem d_L_law_482 : decode code 482 = .ok (.iconst 2, 1) := by decide +kernel
theorem d_L_law_483 : decode code 483 = .ok (.iadd, 1) := by decide +kernel
theorem d_L_law_484 : decode code 484 = .ok (.iaload, 1) := by decide +kernel
theorem d_L_law_485 : decode code 485 = .ok (.invokevirtual 83, 3) := by decide +kernel
theorem d_L_law_488 : decode code 488 = .ok (.if_icmp .eq 52, 3) := by decide +kernel
theorem d_L_law_491 : decode code 491 = .ok (.iconst 0, 1) := by decide +kernel
theorem d_L_law_492 : decode code 492 = .ok (.ireturn, 1) := by decide +kernel
theorem d_L_law_493 : decode code 493 = .ok (.aload_n 1, 1) := by decide +kernel
theorem d_L_law_494 : decode code 494 = .ok (.invokevirtual 84, 3) := by decide +kernel
theorem d_L_law_497 : decode code 497 = .ok (.aload_n 2, 1) := by decide +kernel
theorem d_L_law_498 : decode code 498 = .ok (.invokevirtual 87, 3) := by decide +kernel
theorem d_L_law_501 : decode code 501 = .ok (.if_icmp .eq 39, 3) := by decide +kernel
theorem d_L_law_504 : decode code 504 = .ok (.iconst 0, 1) := by decide +kernel
theorem d_L_law_505 : decode code 505 = .ok (.ireturn, 1) := by decide +kernel
theorem d_L_law_506 : decode code 506 = .ok (.aload_n 1, 1) := by decide +kernel
theorem d_L_law_507 : decode code 507 = .ok (.aload_n 0, 1) := by decide +kernel
theorem d_L_law_508 : decode code 508 = .ok (.iload_n 3, 1) := by decide +kernel
theorem d_L_law_509 : decode code 509 = .ok (.iconst 1, 1) := by decide +kernel
theorem d_L_law_510 : decode code 510 = .ok (.iadd, 1) := by decide +kernel
theorem d_L_law_511 : decode code 511 = .ok (.iaload, 1) := by decide +kernel
theorem d_L_law_512 : decode code 512 = .ok (.invokevirtual 88, 3) := by decide +kernel
theorem d_L_law_515 : decode code 515 = .ok (.aload_n 2, 1) := by decide +kernel
theorem d_L_law_516 : decode code 516 = .ok (.aload_n 0, 1) := by decide +kernel
theorem d_L_law_517 : decode code 517 = .ok (.iload_n 3, 1) := by decide +kernel
theorem d_L_law_518 : decode code 518 = .ok (.iconst 1, 1) := by decide +kernel
theorem d_L_law_519 : decode code 519 = .ok (.iadd, 1) := by decide +kernel
theorem d_L_law_520 : decode code 520 = .ok (.iaload, 1) := by decide +kernel
theorem d_L_law_521 : decode code 521 = .ok (.invokevirtual 91, 3) := by decide +kernel
theorem d_L_law_524 : decode code 524 = .ok (.if_icmp .eq 16, 3) := by decide +kernel
theorem d_L_law_527 : decode code 527 = .ok (.iconst 0, 1) := by decide +kernel
theorem d_L_law_528 : decode code 528 = .ok (.ireturn, 1) := by decide +kernel
theorem d_L_law_529 : decode code 529 = .ok (.aload_n 1, 1) := by decide +kernel
theorem d_L_law_530 : decode code 530 = .ok (.invokevirtual 92, 3) := by decide +kernel
theorem d_L_law_533 : decode code 533 = .ok (.aload_n 2, 1) := by decide +kernel
theorem d_L_law_534 : decode code 534 = .ok (.invokevirtual 95, 3) := by decide +kernel
theorem d_L_law_537 : decode code 537 = .ok (.goto 3, 3) := by decide +kernel
theorem d_L_law_540 : decode code 540 = .ok (.iinc 3 4, 3) := by decide +kernel
theorem d_L_law_543 : decode code 543 = .ok (.goto (-525), 3) := by decide +kernel
theorem d_L_law_546 : decode code 546 = .ok (.iconst 1, 1) := by decide +kernel
theorem d_L_law_547 : decode code 547 = .ok (.ireturn, 1) := by decide +kernel
end
section
theorem d_M_init_0 : decode b_M_init 0 = .ok (.aload_n 0, 1) := by decide +kernel
theorem d_M_init_1 : decode b_M_init 1 = .ok (.invokespecial 1, 3) := by decide +kernel
theorem d_M_init_4 : decode b_M_init 4 = .ok (.aload_n 0, 1) := by decide +kernel
theorem d_M_init_5 : decode b_M_init 5 = .ok (.bipush 8, 2) := by decide +kernel
theorem d_M_init_7 : decode b_M_init 7 = .ok (.newarray .int, 2) := by decide +kernel
theorem d_M_init_9 : decode b_M_init 9 = .ok (.putfield 7, 3) := by decide +kernel
theorem d_M_init_12 : decode b_M_init 12 = .ok (.aload_n 0, 1) := by decide +kernel
theorem d_M_init_13 : decode b_M_init 13 = .ok (.bipush 60, 2) := by decide +kernel
theorem d_M_init_15 : decode b_M_init 15 = .ok (.newarray .int, 2) := by decide +kernel
theorem d_M_init_17 : decode b_M_init 17 = .ok (.putfield 13, 3) := by decide +kernel
theorem d_M_init_20 : decode b_M_init 20 = .ok (.aload_n 0, 1) := by decide +kernel
theorem d_M_init_21 : decode b_M_init 21 = .ok (.sipush 480, 3) := by decide +kernel
theorem d_M_init_24 : decode b_M_init 24 = .ok (.newarray .int, 2) := by decide +kernel
theorem d_M_init_26 : decode b_M_init 26 = .ok (.putfield 16, 3) := by decide +kernel
theorem d_M_init_29 : decode b_M_init 29 = .ok (.aload_n 0, 1) := by decide +kernel
theorem d_M_init_30 : decode b_M_init 30 = .ok (.bipush 60, 2) := by decide +kernel
theorem d_M_init_32 : decode b_M_init 32 = .ok (.newarray .int, 2) := by decide +kernel
theorem d_M_init_34 : decode b_M_init 34 = .ok (.putfield 19, 3) := by decide +kernel
theorem d_M_init_37 : decode b_M_init 37 = .ok (.aload_n 0, 1) := by decide +kernel
theorem d_M_init_38 : decode b_M_init 38 = .ok (.bipush 26, 2) := by decide +kernel
theorem d_M_init_40 : decode b_M_init 40 = .ok (.newarray .int, 2) := by decide +kernel
theorem d_M_init_42 : decode b_M_init 42 = .ok (.putfield 22, 3) := by decide +kernel
theorem d_M_init_45 : decode b_M_init 45 = .ok (.aload_n 0, 1) := by decide +kernel
theorem d_M_init_46 : decode b_M_init 46 = .ok (.sipush 676, 3) := by decide +kernel
theorem d_M_init_49 : decode b_M_init 49 = .ok (.newarray .int, 2) := by decide +kernel
theorem d_M_init_51 : decode b_M_init 51 = .ok (.putfield 25, 3) := by decide +kernel
theorem d_M_init_54 : decode b_M_init 54 = .ok (.aload_n 0, 1) := by decide +kernel
theorem d_M_init_55 : decode b_M_init 55 = .ok (.bipush 60, 2) := by decide +kernel
theorem d_M_init_57 : decode b_M_init 57 = .ok (.newarray .int, 2) := by decide +kernel
theorem d_M_init_59 : decode b_M_init 59 = .ok (.putfield 28, 3) := by decide +kernel
theorem d_M_init_62 : decode b_M_init 62 = .ok (.aload_n 0, 1) := by decide +kernel
theorem d_M_init_63 : decode b_M_init 63 = .ok (.bipush 60, 2) := by decide +kernel
theorem d_M_init_65 : decode b_M_init 65 = .ok (.newarray .int, 2) := by decide +kernel
theorem d_M_init_67 : decode b_M_init 67 = .ok (.putfield 31, 3) := by decide +kernel
theorem d_M_init_70 : decode b_M_init 70 = .ok (.aload_n 0, 1) := by decide +kernel
theorem d_M_init_71 : decode b_M_init 71 = .ok (.bipush 61, 2) := by decide +kernel
theorem d_M_init_73 : decode b_M_init 73 = .ok (.newarray .int, 2) := by decide +kernel
theorem d_M_init_75 : decode b_M_init 75 = .ok (.putfield 34, 3) := by decide +kernel
theorem d_M_init_78 : decode b_M_init 78 = .ok (.aload_n 0, 1) := by decide +kernel
theorem d_M_init_79 : decode b_M_init 79 = .ok (.bipush 26, 2) := by decide +kernel
theorem d_M_init_81 : decode b_M_init 81 = .ok (.newarray .int, 2) := by decide +kernel
theorem d_M_init_83 : decode b_M_init 83 = .ok (.putfield 37, 3) := by decide +kernel
theorem d_M_init_86 : decode b_M_init 86 = .ok (.aload_n 0, 1) := by decide +kernel
theorem d_M_init_87 : decode b_M_init 87 = .ok (.sipush 5200, 3) := by decide +kernel
theorem d_M_init_90 : decode b_M_init 90 = .ok (.newarray .int, 2) := by decide +kernel
theorem d_M_init_92 : decode b_M_init 92 = .ok (.putfield 40, 3) := by decide +kernel
theorem d_M_init_95 : decode b_M_init 95 = .ok (.aload_n 0, 1) := by decide +kernel
theorem d_M_init_96 : decode b_M_init 96 = .ok (.bipush 60, 2) := by decide +kernel
theorem d_M_init_98 : decode b_M_init 98 = .ok (.newarray .int, 2) := by decide +kernel
theorem d_M_init_100 : decode b_M_init 100 = .ok (.putfield 43, 3) := by decide +kernel
theorem d_M_init_103 : decode b_M_init 103 = .ok (.aload_n 0, 1) := by decide +kernel
theorem d_M_init_104 : decode b_M_init 104 = .ok (.bipush 61, 2) := by decide +kernel
theorem d_M_init_106 : decode b_M_init 106 = .ok (.newarray .int, 2) := by decide +kernel
theorem d_M_init_108 : decode b_M_init 108 = .ok (.putfield 46, 3) := by decide +kernel
theorem d_M_init_111 : decode b_M_init 111 = .ok (.return_, 1) := by decide +kernel
theorem d_M_isLetter_0 : decode b_M_isLetter 0 = .ok (.iload_n 0, 1) := by decide +kernel
theorem d_M_isLetter_1 : decode b_M_isLetter 1 = .ok (.bipush 97, 2) := by decide +kernel
theorem d_M_isLetter_3 : decode b_M_isLetter 3 = .ok (.if_icmp .lt 13, 3) := by decide +kernel
theorem d_M_isLetter_6 : decode b_M_isLetter 6 = .ok (.iload_n 0, 1) := by decide +kernel
theorem d_M_isLetter_7 : decode b_M_isLetter 7 = .ok (.bipush 122, 2) := by decide +kernel
theorem d_M_isLetter_9 : decode b_M_isLetter 9 = .ok (.if_icmp .gt 7, 3) := by decide +kernel
theorem d_M_isLetter_12 : decode b_M_isLetter 12 = .ok (.iconst 1, 1) := by decide +kernel
theorem d_M_isLetter_13 : decode b_M_isLetter 13 = .ok (.goto 4, 3) := by decide +kernel
theorem d_M_isLetter_16 : decode b_M_isLetter 16 = .ok (.iconst 0, 1) := by decide +kernel
theorem d_M_isLetter_17 : decode b_M_isLetter 17 = .ok (.ireturn, 1) := by decide +kernel
theorem d_M_at_0 : decode b_M_at 0 = .ok (.aload_n 0, 1) := by decide +kernel
theorem d_M_at_1 : decode b_M_at 1 = .ok (.getfield 16, 3) := by decide +kernel
theorem d_M_at_4 : decode b_M_at 4 = .ok (.bipush 8, 2) := by decide +kernel
theorem d_M_at_6 : decode b_M_at 6 = .ok (.iload_n 1, 1) := by decide +kernel
theorem d_M_at_7 : decode b_M_at 7 = .ok (.imul, 1) := by decide +kernel
theorem d_M_at_8 : decode b_M_at 8 = .ok (.iload_n 2, 1) := by decide +kernel
theorem d_M_at_9 : decode b_M_at 9 = .ok (.iadd, 1) := by decide +kernel
theorem d_M_at_10 : decode b_M_at 10 = .ok (.iaload, 1) := by decide +kernel
theorem d_M_at_11 : decode b_M_at 11 = .ok (.ireturn, 1) := by decide +kernel
theorem d_M_unit_0 : decode b_M_unit 0 = .ok (.aload_n 0, 1) := by decide +kernel
theorem d_M_unit_1 : decode b_M_unit 1 = .ok (.iconst 0, 1) := by decide +kernel
theorem d_M_unit_2 : decode b_M_unit 2 = .ok (.putfield 49, 3) := by decide +kernel
theorem d_M_unit_5 : decode b_M_unit 5 = .ok (.iload_n 1, 1) := by decide +kernel
theorem d_M_unit_6 : decode b_M_unit 6 = .ok (.invokestatic 53, 3) := by decide +kernel
theorem d_M_unit_9 : decode b_M_unit 9 = .ok (.ifCond .eq 12, 3) := by decide +kernel
theorem d_M_unit_12 : decode b_M_unit 12 = .ok (.aload_n 0, 1) := by decide +kernel
theorem d_M_unit_13 : decode b_M_unit 13 = .ok (.getfield 57, 3) := by decide +kernel
theorem d_M_unit_16 : decode b_M_unit 16 = .ok (.bipush 8, 2) := by decide +kernel
theorem d_M_unit_18 : decode b_M_unit 18 = .ok (.if_icmp .ne 5, 3) := by decide +kernel
theorem d_M_unit_21 : decode b_M_unit 21 = .ok (.iconst 0, 1) := by decide +kernel
theorem d_M_unit_22 : decode b_M_unit 22 = .ok (.ireturn, 1) := by decide +kernel
theorem d_M_unit_23 : decode b_M_unit 23 = .ok (.aload_n 0, 1) := by decide +kernel
theorem d_M_unit_24 : decode b_M_unit 24 = .ok (.getfield 7, 3) := by decide +kernel
theorem d_M_unit_27 : decode b_M_unit 27 = .ok (.aload_n 0, 1) := by decide +kernel
theorem d_M_unit_28 : decode b_M_unit 28 = .ok (.getfield 57, 3) := by decide +kernel
theorem d_M_unit_31 : decode b_M_unit 31 = .ok (.iload_n 1, 1) := by decide +kernel
theorem d_M_unit_32 : decode b_M_unit 32 = .ok (.iastore, 1) := by decide +kernel
theorem d_M_unit_33 : decode b_M_unit 33 = .ok (.aload_n 0, 1) := by decide +kernel
theorem d_M_unit_34 : decode b_M_unit 34 = .ok (.dup, 1) := by decide +kernel
theorem d_M_unit_35 : decode b_M_unit 35 = .ok (.getfield 57, 3) := by decide +kernel
theorem d_M_unit_38 : decode b_M_unit 38 = .ok (.iconst 1, 1) := by decide +kernel
theorem d_M_unit_39 : decode b_M_unit 39 = .ok (.iadd, 1) := by decide +kernel
theorem d_M_unit_40 : decode b_M_unit 40 = .ok (.putfield 57, 3) := by decide +kernel
theorem d_M_unit_43 : decode b_M_unit 43 = .ok (.iconst 1, 1) := by decide +kernel
theorem d_M_unit_44 : decode b_M_unit 44 = .ok (.ireturn, 1) := by decide +kernel
theorem d_M_isRow_0 : decode b_M_isRow 0 = .ok (.aload_n 0, 1) := by decide +kernel
theorem d_M_isRow_1 : decode b_M_isRow 1 = .ok (.getfield 13, 3) := by decide +kernel
theorem d_M_isRow_4 : decode b_M_isRow 4 = .ok (.iload_n 1, 1) := by decide +kernel
theorem d_M_isRow_5 : decode b_M_isRow 5 = .ok (.iaload, 1) := by decide +kernel
theorem d_M_isRow_6 : decode b_M_isRow 6 = .ok (.aload_n 0, 1) := by decide +kernel
theorem d_M_isRow_7 : decode b_M_isRow 7 = .ok (.getfield 57, 3) := by decide +kernel
theorem d_M_isRow_10 : decode b_M_isRow 10 = .ok (.if_icmp .eq 5, 3) := by decide +kernel
theorem d_M_isRow_13 : decode b_M_isRow 13 = .ok (.iconst 0, 1) := by decide +kernel
theorem d_M_isRow_14 : decode b_M_isRow 14 = .ok (.ireturn, 1) := by decide +kernel
theorem d_M_isRow_15 : decode b_M_isRow 15 = .ok (.iconst 0, 1) := by decide +kernel
theorem d_M_isRow_16 : decode b_M_isRow 16 = .ok (.istore_n 2, 1) := by decide +kernel
theorem d_M_isRow_17 : decode b_M_isRow 17 = .ok (.iload_n 2, 1) := by decide +kernel
theorem d_M_isRow_18 : decode b_M_isRow 18 = .ok (.aload_n 0, 1) := by decide +kernel
theorem d_M_isRow_19 : decode b_M_isRow 19 = .ok (.getfield 57, 3) := by decide +kernel
theorem d_M_isRow_22 : decode b_M_isRow 22 = .ok (.if_icmp .ge 26, 3) := by decide +kernel
theorem d_M_isRow_25 : decode b_M_isRow 25 = .ok (.aload_n 0, 1) := by decide +kernel
theorem d_M_isRow_26 : decode b_M_isRow 26 = .ok (.iload_n 1, 1) := by decide +kernel
theorem d_M_isRow_27 : decode b_M_isRow 27 = .ok (.iload_n 2, 1) := by decide +kernel
theorem d_M_isRow_28 : decode b_M_isRow 28 = .ok (.invokevirtual 60, 3) := by decide +kernel
theorem d_M_isRow_31 : decode b_M_isRow 31 = .ok (.aload_n 0, 1) := by decide +kernel
theorem d_M_isRow_32 : decode b_M_isRow 32 = .ok (.getfield 7, 3) := by decide +kernel
theorem d_M_isRow_35 : decode b_M_isRow 35 = .ok (.iload_n 2, 1) := by decide +kernel
theorem d_M_isRow_36 : decode b_M_isRow 36 = .ok (.iaload, 1) := by decide +kernel
theorem d_M_isRow_37 : decode b_M_isRow 37 = .ok (.if_icmp .eq 5, 3) := by decide +kernel
theorem d_M_isRow_40 : decode b_M_isRow 40 = .ok (.iconst 0, 1) := by decide +kernel
theorem d_M_isRow_41 : decode b_M_isRow 41 = .ok (.ireturn, 1) := by decide +kernel
theorem d_M_isRow_42 : decode b_M_isRow 42 = .ok (.iinc 2 1, 3) := by decide +kernel
theorem d_M_isRow_45 : decode b_M_isRow 45 = .ok (.goto (-28), 3) := by decide +kernel
theorem d_M_isRow_48 : decode b_M_isRow 48 = .ok (.iconst 1, 1) := by decide +kernel
theorem d_M_isRow_49 : decode b_M_isRow 49 = .ok (.ireturn, 1) := by decide +kernel
theorem d_M_enter_0 : decode b_M_enter 0 = .ok (.aload_n 0, 1) := by decide +kernel
theorem d_M_enter_1 : decode b_M_enter 1 = .ok (.getfield 57, 3) := by decide +kernel
theorem d_M_enter_4 : decode b_M_enter 4 = .ok (.ifCond .ne 5, 3) := by decide +kernel
theorem d_M_enter_7 : decode b_M_enter 7 = .ok (.iconst (-1), 1) := by decide +kernel
theorem d_M_enter_8 : decode b_M_enter 8 = .ok (.ireturn, 1) := by decide +kernel
theorem d_M_enter_9 : decode b_M_enter 9 = .ok (.iconst 0, 1) := by decide +kernel
theorem d_M_enter_10 : decode b_M_enter 10 = .ok (.istore_n 1, 1) := by decide +kernel
theorem d_M_enter_11 : decode b_M_enter 11 = .ok (.iload_n 1, 1) := by decide +kernel
theorem d_M_enter_12 : decode b_M_enter 12 = .ok (.aload_n 0, 1) := by decide +kernel
theorem d_M_enter_13 : decode b_M_enter 13 = .ok (.getfield 64, 3) := by decide +kernel
theorem d_M_enter_16 : decode b_M_enter 16 = .ok (.if_icmp .ge 19, 3) := by decide +kernel
theorem d_M_enter_19 : decode b_M_enter 19 = .ok (.aload_n 0, 1) := by decide +kernel
theorem d_M_enter_20 : decode b_M_enter 20 = .ok (.iload_n 1, 1) := by decide +kernel
theorem d_M_enter_21 : decode b_M_enter 21 = .ok (.invokevirtual 67, 3) := by decide +kernel
theorem d_M_enter_24 : decode b_M_enter 24 = .ok (.ifCond .eq 5, 3) := by decide +kernel
theorem d_M_enter_27 : decode b_M_enter 27 = .ok (.iload_n 1, 1) := by decide +kernel
theorem d_M_enter_28 : decode b_M_enter 28 = .ok (.ireturn, 1) := by decide +kernel
theorem d_M_enter_29 : decode b_M_enter 29 = .ok (.iinc 1 1, 3) := by decide +kernel
theorem d_M_enter_32 : decode b_M_enter 32 = .ok (.goto (-21), 3) := by decide +kernel
theorem d_M_enter_35 : decode b_M_enter 35 = .ok (.aload_n 0, 1) := by decide +kernel
theorem d_M_enter_36 : decode b_M_enter 36 = .ok (.getfield 64, 3) := by decide +kernel
theorem d_M_enter_39 : decode b_M_enter 39 = .ok (.bipush 60, 2) := by decide +kernel
theorem d_M_enter_41 : decode b_M_enter 41 = .ok (.if_icmp .ne 5, 3) := by decide +kernel
theorem d_M_enter_44 : decode b_M_enter 44 = .ok (.iconst (-1), 1) := by decide +kernel
theorem d_M_enter_45 : decode b_M_enter 45 = .ok (.ireturn, 1) := by decide +kernel
theorem d_M_enter_46 : decode b_M_enter 46 = .ok (.iconst 0, 1) := by decide +kernel
theorem d_M_enter_47 : decode b_M_enter 47 = .ok (.istore_n 1, 1) := by decide +kernel
theorem d_M_enter_48 : decode b_M_enter 48 = .ok (.iload_n 1, 1) := by decide +kernel
theorem d_M_enter_49 : decode b_M_enter 49 = .ok (.aload_n 0, 1) := by decide +kernel
theorem d_M_enter_50 : decode b_M_enter 50 = .ok (.getfield 57, 3) := by decide +kernel
theorem d_M_enter_53 : decode b_M_enter 53 = .ok (.if_icmp .ge 29, 3) := by decide +kernel
theorem d_M_enter_56 : decode b_M_enter 56 = .ok (.aload_n 0, 1) := by decide +kernel
theorem d_M_enter_57 : decode b_M_enter 57 = .ok (.getfield 16, 3) := by decide +kernel
theorem d_M_enter_60 : decode b_M_enter 60 = .ok (.bipush 8, 2) := by decide +kernel
theorem d_M_enter_62 : decode b_M_enter 62 = .ok (.aload_n 0, 1) := by decide +kernel
theorem d_M_enter_63 : decode b_M_enter 63 = .ok (.getfield 64, 3) := by decide +kernel
theorem d_M_enter_66 : decode b_M_enter 66 = .ok (.imul, 1) := by decide +kernel
theorem d_M_enter_67 : decode b_M_enter 67 = .ok (.iload_n 1, 1) := by decide +kernel
theorem d_M_enter_68 : decode b_M_enter 68 = .ok (.iadd, 1) := by decide +kernel
theorem d_M_enter_69 : decode b_M_enter 69 = .ok (.aload_n 0, 1) := by decide +kernel
theorem d_M_enter_70 : decode b_M_enter 70 = .ok (.getfield 7, 3) := by decide +kernel
theorem d_M_enter_73 : decode b_M_enter 73 = .ok (.iload_n 1, 1) := by decide +kernel
theorem d_M_enter_74 : decode b_M_enter 74 = .ok (.iaload, 1) := by decide +kernel
theorem d_M_enter_75 : decode b_M_enter 75 = .ok (.iastore, 1) := by decide +kernel
theorem d_M_enter_76 : decode b_M_enter 76 = .ok (.iinc 1 1, 3) := by decide +kernel
theorem d_M_enter_79 : decode b_M_enter 79 = .ok (.goto (-31), 3) := by decide +kernel
theorem d_M_enter_82 : decode b_M_enter 82 = .ok (.aload_n 0, 1) := by decide +kernel
theorem d_M_enter_83 : decode b_M_enter 83 = .ok (.getfield 13, 3) := by decide +kernel
theorem d_M_enter_86 : decode b_M_enter 86 = .ok (.aload_n 0, 1) := by decide +kernel
theorem d_M_enter_87 : decode b_M_enter 87 = .ok (.getfield 64, 3) := by decide +kernel
theorem d_M_enter_90 : decode b_M_enter 90 = .ok (.aload_n 0, 1) := by decide +kernel
theorem d_M_enter_91 : decode b_M_enter 91 = .ok (.getfield 57, 3) := by decide +kernel
theorem d_M_enter_94 : decode b_M_enter 94 = .ok (.iastore, 1) := by decide +kernel
theorem d_M_enter_95 : decode b_M_enter 95 = .ok (.aload_n 0, 1) := by decide +kernel
theorem d_M_enter_96 : decode b_M_enter 96 = .ok (.dup, 1) := by decide +kernel
theorem d_M_enter_97 : decode b_M_enter 97 = .ok (.getfield 64, 3) := by decide +kernel
theorem d_M_enter_100 : decode b_M_enter 100 = .ok (.iconst 1, 1) := by decide +kernel
theorem d_M_enter_101 : decode b_M_enter 101 = .ok (.iadd, 1) := by decide +kernel
theorem d_M_enter_102 : decode b_M_enter 102 = .ok (.putfield 64, 3) := by decide +kernel
theorem d_M_enter_105 : decode b_M_enter 105 = .ok (.aload_n 0, 1) := by decide +kernel
theorem d_M_enter_106 : decode b_M_enter 106 = .ok (.getfield 64, 3) := by decide +kernel
theorem d_M_enter_109 : decode b_M_enter 109 = .ok (.iconst 1, 1) := by decide +kernel
theorem d_M_enter_110 : decode b_M_enter 110 = .ok (.isub, 1) := by decide +kernel
theorem d_M_enter_111 : decode b_M_enter 111 = .ok (.ireturn, 1) := by decide +kernel
theorem d_M_word_0 : decode b_M_word 0 = .ok (.aload_n 0, 1) := by decide +kernel
theorem d_M_word_1 : decode b_M_word 1 = .ok (.iconst 0, 1) := by decide +kernel
theorem d_M_word_2 : decode b_M_word 2 = .ok (.putfield 49, 3) := by decide +kernel
theorem d_M_word_5 : decode b_M_word 5 = .ok (.aload_n 0, 1) := by decide +kernel
theorem d_M_word_6 : decode b_M_word 6 = .ok (.invokevirtual 70, 3) := by decide +kernel
theorem d_M_word_9 : decode b_M_word 9 = .ok (.istore_n 1, 1) := by decide +kernel
theorem d_M_word_10 : decode b_M_word 10 = .ok (.aload_n 0, 1) := by decide +kernel
theorem d_M_word_11 : decode b_M_word 11 = .ok (.iconst 0, 1) := by decide +kernel
theorem d_M_word_12 : decode b_M_word 12 = .ok (.putfield 57, 3) := by decide +kernel
theorem d_M_word_15 : decode b_M_word 15 = .ok (.iload_n 1, 1) := by decide +kernel
theorem d_M_word_16 : decode b_M_word 16 = .ok (.ireturn, 1) := by decide +kernel
theorem d_M_sign_0 : decode b_M_sign 0 = .ok (.aload_n 0, 1) := by decide +kernel
theorem d_M_sign_1 : decode b_M_sign 1 = .ok (.iconst 0, 1) := by decide +kernel
theorem d_M_sign_2 : decode b_M_sign 2 = .ok (.putfield 49, 3) := by decide +kernel
theorem d_M_sign_5 : decode b_M_sign 5 = .ok (.iload_n 1, 1) := by decide +kernel
theorem d_M_sign_6 : decode b_M_sign 6 = .ok (.iconst (-1), 1) := by decide +kernel
theorem d_M_sign_7 : decode b_M_sign 7 = .ok (.if_icmp .lt 18, 3) := by decide +kernel
theorem d_M_sign_10 : decode b_M_sign 10 = .ok (.iload_n 1, 1) := by decide +kernel
theorem d_M_sign_11 : decode b_M_sign 11 = .ok (.bipush 25, 2) := by decide +kernel
theorem d_M_sign_13 : decode b_M_sign 13 = .ok (.if_icmp .gt 12, 3) := by decide +kernel
theorem d_M_sign_16 : decode b_M_sign 16 = .ok (.aload_n 0, 1) := by decide +kernel
theorem d_M_sign_17 : decode b_M_sign 17 = .ok (.getfield 74, 3) := by decide +kernel
theorem d_M_sign_20 : decode b_M_sign 20 = .ok (.bipush 60, 2) := by decide +kernel
theorem d_M_sign_22 : decode b_M_sign 22 = .ok (.if_icmp .ne 5, 3) := by decide +kernel
theorem d_M_sign_25 : decode b_M_sign 25 = .ok (.iconst 0, 1) := by decide +kernel
theorem d_M_sign_26 : decode b_M_sign 26 = .ok (.ireturn, 1) := by decide +kernel
theorem d_M_sign_27 : decode b_M_sign 27 = .ok (.aload_n 0, 1) := by decide +kernel
theorem d_M_sign_28 : decode b_M_sign 28 = .ok (.getfield 19, 3) := by decide +kernel
theorem d_M_sign_31 : decode b_M_sign 31 = .ok (.aload_n 0, 1) := by decide +kernel
theorem d_M_sign_32 : decode b_M_sign 32 = .ok (.getfield 74, 3) := by decide +kernel
theorem d_M_sign_35 : decode b_M_sign 35 = .ok (.iload_n 1, 1) := by decide +kernel
theorem d_M_sign_36 : decode b_M_sign 36 = .ok (.iastore, 1) := by decide +kernel
theorem d_M_sign_37 : decode b_M_sign 37 = .ok (.aload_n 0, 1) := by decide +kernel
theorem d_M_sign_38 : decode b_M_sign 38 = .ok (.dup, 1) := by decide +kernel
theorem d_M_sign_39 : decode b_M_sign 39 = .ok (.getfield 74, 3) := by decide +kernel
theorem d_M_sign_42 : decode b_M_sign 42 = .ok (.iconst 1, 1) := by decide +kernel
theorem d_M_sign_43 : decode b_M_sign 43 = .ok (.iadd, 1) := by decide +kernel
theorem d_M_sign_44 : decode b_M_sign 44 = .ok (.putfield 74, 3) := by decide +kernel
theorem d_M_sign_47 : decode b_M_sign 47 = .ok (.aload_n 0, 1) := by decide +kernel
theorem d_M_sign_48 : decode b_M_sign 48 = .ok (.iconst 0, 1) := by decide +kernel
theorem d_M_sign_49 : decode b_M_sign 49 = .ok (.putfield 77, 3) := by decide +kernel
theorem d_M_sign_52 : decode b_M_sign 52 = .ok (.iconst 1, 1) := by decide +kernel
theorem d_M_sign_53 : decode b_M_sign 53 = .ok (.ireturn, 1) := by decide +kernel
theorem d_M_keep_0 : decode b_M_keep 0 = .ok (.aload_n 0, 1) := by decide +kernel
theorem d_M_keep_1 : decode b_M_keep 1 = .ok (.iconst 0, 1) := by decide +kernel
theorem d_M_keep_2 : decode b_M_keep 2 = .ok (.putfield 49, 3) := by decide +kernel
theorem d_M_keep_5 : decode b_M_keep 5 = .ok (.iload_n 1, 1) := by decide +kernel
theorem d_M_keep_6 : decode b_M_keep 6 = .ok (.ifCond .lt 20, 3) := by decide +kernel
theorem d_M_keep_9 : decode b_M_keep 9 = .ok (.iload_n 1, 1) := by decide +kernel
theorem d_M_keep_10 : decode b_M_keep 10 = .ok (.bipush 25, 2) := by decide +kernel
theorem d_M_keep_12 : decode b_M_keep 12 = .ok (.if_icmp .gt 14, 3) := by decide +kernel
theorem d_M_keep_15 : decode b_M_keep 15 = .ok (.iload_n 2, 1) := by decide +kernel
theorem d_M_keep_16 : decode b_M_keep 16 = .ok (.ifCond .eq 12, 3) := by decide +kernel
theorem d_M_keep_19 : decode b_M_keep 19 = .ok (.iload_n 2, 1) := by decide +kernel
theorem d_M_keep_20 : decode b_M_keep 20 = .ok (.invokestatic 53, 3) := by decide +kernel
theorem d_M_keep_23 : decode b_M_keep 23 = .ok (.ifCond .ne 5, 3) := by decide +kernel
theorem d_M_keep_26 : decode b_M_keep 26 = .ok (.iconst 0, 1) := by decide +kernel
theorem d_M_keep_27 : decode b_M_keep 27 = .ok (.ireturn, 1) := by decide +kernel
theorem d_M_keep_28 : decode b_M_keep 28 = .ok (.aload_n 0, 1) := by decide +kernel
theorem d_M_keep_29 : decode b_M_keep 29 = .ok (.getfield 22, 3) := by decide +kernel
theorem d_M_keep_32 : decode b_M_keep 32 = .ok (.iload_n 1, 1) := by decide +kernel
theorem d_M_keep_33 : decode b_M_keep 33 = .ok (.iload_n 2, 1) := by decide +kernel
theorem d_M_keep_34 : decode b_M_keep 34 = .ok (.iastore, 1) := by decide +kernel
theorem d_M_keep_35 : decode b_M_keep 35 = .ok (.aload_n 0, 1) := by decide +kernel
theorem d_M_keep_36 : decode b_M_keep 36 = .ok (.iconst 0, 1) := by decide +kernel
theorem d_M_keep_37 : decode b_M_keep 37 = .ok (.putfield 77, 3) := by decide +kernel
theorem d_M_keep_40 : decode b_M_keep 40 = .ok (.iconst 1, 1) := by decide +kernel
theorem d_M_keep_41 : decode b_M_keep 41 = .ok (.ireturn, 1) := by decide +kernel
theorem d_M_pair_0 : decode b_M_pair 0 = .ok (.aload_n 0, 1) := by decide +kernel
theorem d_M_pair_1 : decode b_M_pair 1 = .ok (.iconst 0, 1) := by decide +kernel
theorem d_M_pair_2 : decode b_M_pair 2 = .ok (.putfield 49, 3) := by decide +kernel
theorem d_M_pair_5 : decode b_M_pair 5 = .ok (.iload_n 1, 1) := by decide +kernel
theorem d_M_pair_6 : decode b_M_pair 6 = .ok (.invokestatic 53, 3) := by decide +kernel
theorem d_M_pair_9 : decode b_M_pair 9 = .ok (.ifCond .eq 24, 3) := by decide +kernel
theorem d_M_pair_12 : decode b_M_pair 12 = .ok (.iload_n 2, 1) := by decide +kernel
theorem d_M_pair_13 : decode b_M_pair 13 = .ok (.invokestatic 53, 3) := by decide +kernel
theorem d_M_pair_16 : decode b_M_pair 16 = .ok (.ifCond .eq 17, 3) := by decide +kernel
theorem d_M_pair_19 : decode b_M_pair 19 = .ok (.iload_n 3, 1) := by decide +kernel
theorem d_M_pair_20 : decode b_M_pair 20 = .ok (.sipush (-1000), 3) := by decide +kernel
theorem d_M_pair_23 : decode b_M_pair 23 = .ok (.if_icmp .lt 10, 3) := by decide +kernel
theorem d_M_pair_26 : decode b_M_pair 26 = .ok (.iload_n 3, 1) := by decide +kernel
theorem d_M_pair_27 : decode b_M_pair 27 = .ok (.sipush 1000, 3) := by decide +kernel
theorem d_M_pair_30 : decode b_M_pair 30 = .ok (.if_icmp .le 5, 3) := by decide +kernel
theorem d_M_pair_33 : decode b_M_pair 33 = .ok (.iconst 0, 1) := by decide +kernel
theorem d_M_pair_34 : decode b_M_pair 34 = .ok (.ireturn, 1) := by decide +kernel
theorem d_M_pair_35 : decode b_M_pair 35 = .ok (.aload_n 0, 1) := by decide +kernel
theorem d_M_pair_36 : decode b_M_pair 36 = .ok (.getfield 25, 3) := by decide +kernel
theorem d_M_pair_39 : decode b_M_pair 39 = .ok (.bipush 26, 2) := by decide +kernel
theorem d_M_pair_41 : decode b_M_pair 41 = .ok (.iload_n 1, 1) := by decide +kernel
theorem d_M_pair_42 : decode b_M_pair 42 = .ok (.bipush 97, 2) := by decide +kernel
theorem d_M_pair_44 : decode b_M_pair 44 = .ok (.isub, 1) := by decide +kernel
theorem d_M_pair_45 : decode b_M_pair 45 = .ok (.imul, 1) := by decide +kernel
theorem d_M_pair_46 : decode b_M_pair 46 = .ok (.iload_n 2, 1) := by decide +kernel
theorem d_M_pair_47 : decode b_M_pair 47 = .ok (.iadd, 1) := by decide +kernel
theorem d_M_pair_48 : decode b_M_pair 48 = .ok (.bipush 97, 2) := by decide +kernel
theorem d_M_pair_50 : decode b_M_pair 50 = .ok (.isub, 1) := by decide +kernel
theorem d_M_pair_51 : decode b_M_pair 51 = .ok (.iload_n 3, 1) := by decide +kernel
theorem d_M_pair_52 : decode b_M_pair 52 = .ok (.iastore, 1) := by decide +kernel
theorem d_M_pair_53 : decode b_M_pair 53 = .ok (.iconst 1, 1) := by decide +kernel
theorem d_M_pair_54 : decode b_M_pair 54 = .ok (.ireturn, 1) := by decide +kernel
theorem d_M_weight_0 : decode b_M_weight 0 = .ok (.aload_n 0, 1) := by decide +kernel
theorem d_M_weight_1 : decode b_M_weight 1 = .ok (.getfield 25, 3) := by decide +kernel
theorem d_M_weight_4 : decode b_M_weight 4 = .ok (.bipush 26, 2) := by decide +kernel
theorem d_M_weight_6 : decode b_M_weight 6 = .ok (.iload_n 1, 1) := by decide +kernel
theorem d_M_weight_7 : decode b_M_weight 7 = .ok (.bipush 97, 2) := by decide +kernel
theorem d_M_weight_9 : decode b_M_weight 9 = .ok (.isub, 1) := by decide +kernel
theorem d_M_weight_10 : decode b_M_weight 10 = .ok (.imul, 1) := by decide +kernel
theorem d_M_weight_11 : decode b_M_weight 11 = .ok (.iload_n 2, 1) := by decide +kernel
theorem d_M_weight_12 : decode b_M_weight 12 = .ok (.iadd, 1) := by decide +kernel
theorem d_M_weight_13 : decode b_M_weight 13 = .ok (.bipush 97, 2) := by decide +kernel
theorem d_M_weight_15 : decode b_M_weight 15 = .ok (.isub, 1) := by decide +kernel
theorem d_M_weight_16 : decode b_M_weight 16 = .ok (.iaload, 1) := by decide +kernel
theorem d_M_weight_17 : decode b_M_weight 17 = .ok (.ireturn, 1) := by decide +kernel
theorem d_M_isIn_0 : decode b_M_isIn 0 = .ok (.iconst 0, 1) := by decide +kernel
theorem d_M_isIn_1 : decode b_M_isIn 1 = .ok (.istore_n 2, 1) := by decide +kernel
theorem d_M_isIn_2 : decode b_M_isIn 2 = .ok (.iload_n 2, 1) := by decide +kernel
theorem d_M_isIn_3 : decode b_M_isIn 3 = .ok (.aload_n 0, 1) := by decide +kernel
theorem d_M_isIn_4 : decode b_M_isIn 4 = .ok (.getfield 74, 3) := by decide +kernel
theorem d_M_isIn_7 : decode b_M_isIn 7 = .ok (.if_icmp .ge 21, 3) := by decide +kernel
theorem d_M_isIn_10 : decode b_M_isIn 10 = .ok (.aload_n 0, 1) := by decide +kernel
theorem d_M_isIn_11 : decode b_M_isIn 11 = .ok (.getfield 19, 3) := by decide +kernel
theorem d_M_isIn_14 : decode b_M_isIn 14 = .ok (.iload_n 2, 1) := by decide +kernel
theorem d_M_isIn_15 : decode b_M_isIn 15 = .ok (.iaload, 1) := by decide +kernel
theorem d_M_isIn_16 : decode b_M_isIn 16 = .ok (.iload_n 1, 1) := by decide +kernel
theorem d_M_isIn_17 : decode b_M_isIn 17 = .ok (.if_icmp .ne 5, 3) := by decide +kernel
theorem d_M_isIn_20 : decode b_M_isIn 20 = .ok (.iconst 1, 1) := by decide +kernel
theorem d_M_isIn_21 : decode b_M_isIn 21 = .ok (.ireturn, 1) := by decide +kernel
theorem d_M_isIn_22 : decode b_M_isIn 22 = .ok (.iinc 2 1, 3) := by decide +kernel
theorem d_M_isIn_25 : decode b_M_isIn 25 = .ok (.goto (-23), 3) := by decide +kernel
theorem d_M_isIn_28 : decode b_M_isIn 28 = .ok (.iconst 0, 1) := by decide +kernel
theorem d_M_isIn_29 : decode b_M_isIn 29 = .ok (.ireturn, 1) := by decide +kernel
theorem d_M_part_0 : decode b_M_part 0 = .ok (.aload_n 0, 1) := by decide +kernel
theorem d_M_part_1 : decode b_M_part 1 = .ok (.iconst 0, 1) := by decide +kernel
theorem d_M_part_2 : decode b_M_part 2 = .ok (.putfield 80, 3) := by decide +kernel
theorem d_M_part_5 : decode b_M_part 5 = .ok (.iconst 0, 1) := by decide +kernel
theorem d_M_part_6 : decode b_M_part 6 = .ok (.istore_n 1, 1) := by decide +kernel
theorem d_M_part_7 : decode b_M_part 7 = .ok (.iload_n 1, 1) := by decide +kernel
theorem d_M_part_8 : decode b_M_part 8 = .ok (.aload_n 0, 1) := by decide +kernel
theorem d_M_part_9 : decode b_M_part 9 = .ok (.getfield 74, 3) := by decide +kernel
theorem d_M_part_12 : decode b_M_part 12 = .ok (.if_icmp .ge 81, 3) := by decide +kernel
theorem d_M_part_15 : decode b_M_part 15 = .ok (.aload_n 0, 1) := by decide +kernel
theorem d_M_part_16 : decode b_M_part 16 = .ok (.getfield 19, 3) := by decide +kernel
theorem d_M_part_19 : decode b_M_part 19 = .ok (.iload_n 1, 1) := by decide +kernel
theorem d_M_part_20 : decode b_M_part 20 = .ok (.iaload, 1) := by decide +kernel
theorem d_M_part_21 : decode b_M_part 21 = .ok (.ifCond .ge 6, 3) := by decide +kernel
theorem d_M_part_24 : decode b_M_part 24 = .ok (.goto 63, 3) := by decide +kernel
theorem d_M_part_27 : decode b_M_part 27 = .ok (.iload_n 1, 1) := by decide +kernel
theorem d_M_part_28 : decode b_M_part 28 = .ok (.ifCond .eq 14, 3) := by decide +kernel
theorem d_M_part_31 : decode b_M_part 31 = .ok (.aload_n 0, 1) := by decide +kernel
theorem d_M_part_32 : decode b_M_part 32 = .ok (.getfield 19, 3) := by decide +kernel
theorem d_M_part_35 : decode b_M_part 35 = .ok (.iload_n 1, 1) := by decide +kernel
theorem d_M_part_36 : decode b_M_part 36 = .ok (.iconst 1, 1) := by decide +kernel
theorem d_M_part_37 : decode b_M_part 37 = .ok (.isub, 1) := by decide +kernel
theorem d_M_part_38 : decode b_M_part 38 = .ok (.iaload, 1) := by decide +kernel
theorem d_M_part_39 : decode b_M_part 39 = .ok (.ifCond .ge 33, 3) := by decide +kernel
theorem d_M_part_42 : decode b_M_part 42 = .ok (.aload_n 0, 1) := by decide +kernel
theorem d_M_part_43 : decode b_M_part 43 = .ok (.getfield 28, 3) := by decide +kernel
theorem d_M_part_46 : decode b_M_part 46 = .ok (.aload_n 0, 1) := by decide +kernel
theorem d_M_part_47 : decode b_M_part 47 = .ok (.getfield 80, 3) := by decide +kernel
theorem d_M_part_50 : decode b_M_part 50 = .ok (.iload_n 1, 1) := by decide +kernel
theorem d_M_part_51 : decode b_M_part 51 = .ok (.iastore, 1) := by decide +kernel
theorem d_M_part_52 : decode b_M_part 52 = .ok (.aload_n 0, 1) := by decide +kernel
theorem d_M_part_53 : decode b_M_part 53 = .ok (.getfield 31, 3) := by decide +kernel
theorem d_M_part_56 : decode b_M_part 56 = .ok (.aload_n 0, 1) := by decide +kernel
theorem d_M_part_57 : decode b_M_part 57 = .ok (.getfield 80, 3) := by decide +kernel
theorem d_M_part_60 : decode b_M_part 60 = .ok (.iconst 0, 1) := by decide +kernel
theorem d_M_part_61 : decode b_M_part 61 = .ok (.iastore, 1) := by decide +kernel
theorem d_M_part_62 : decode b_M_part 62 = .ok (.aload_n 0, 1) := by decide +kernel
theorem d_M_part_63 : decode b_M_part 63 = .ok (.dup, 1) := by decide +kernel
theorem d_M_part_64 : decode b_M_part 64 = .ok (.getfield 80, 3) := by decide +kernel
theorem d_M_part_67 : decode b_M_part 67 = .ok (.iconst 1, 1) := by decide +kernel
theorem d_M_part_68 : decode b_M_part 68 = .ok (.iadd, 1) := by decide +kernel
theorem d_M_part_69 : decode b_M_part 69 = .ok (.putfield 80, 3) := by decide +kernel
theorem d_M_part_72 : decode b_M_part 72 = .ok (.aload_n 0, 1) := by decide +kernel
theorem d_M_part_73 : decode b_M_part 73 = .ok (.getfield 31, 3) := by decide +kernel
theorem d_M_part_76 : decode b_M_part 76 = .ok (.aload_n 0, 1) := by decide +kernel
theorem d_M_part_77 : decode b_M_part 77 = .ok (.getfield 80, 3) := by decide +kernel
theorem d_M_part_80 : decode b_M_part 80 = .ok (.iconst 1, 1) := by decide +kernel
theorem d_M_part_81 : decode b_M_part 81 = .ok (.isub, 1) := by decide +kernel
theorem d_M_part_82 : decode b_M_part 82 = .ok (.dup2, 1) := by decide +kernel
theorem d_M_part_83 : decode b_M_part 83 = .ok (.iaload, 1) := by decide +kernel
theorem d_M_part_84 : decode b_M_part 84 = .ok (.iconst 1, 1) := by decide +kernel
theorem d_M_part_85 : decode b_M_part 85 = .ok (.iadd, 1) := by decide +kernel
theorem d_M_part_86 : decode b_M_part 86 = .ok (.iastore, 1) := by decide +kernel
theorem d_M_part_87 : decode b_M_part 87 = .ok (.iinc 1 1, 3) := by decide +kernel
theorem d_M_part_90 : decode b_M_part 90 = .ok (.goto (-83), 3) := by decide +kernel
theorem d_M_part_93 : decode b_M_part 93 = .ok (.return_, 1) := by decide +kernel
theorem d_M_codewords_0 : decode b_M_codewords 0 = .ok (.aload_n 0, 1) := by decide +kernel
theorem d_M_codewords_1 : decode b_M_codewords 1 = .ok (.iconst 0, 1) := by decide +kernel
theorem d_M_codewords_2 : decode b_M_codewords 2 = .ok (.putfield 49, 3) := by decide +kernel
theorem d_M_codewords_5 : decode b_M_codewords 5 = .ok (.aload_n 0, 1) := by decide +kernel
theorem d_M_codewords_6 : decode b_M_codewords 6 = .ok (.invokevirtual 83, 3) := by decide +kernel
theorem d_M_codewords_9 : decode b_M_codewords 9 = .ok (.aload_n 0, 1) := by decide +kernel
theorem d_M_codewords_10 : decode b_M_codewords 10 = .ok (.getfield 80, 3) := by decide +kernel
theorem d_M_codewords_13 : decode b_M_codewords 13 = .ok (.ireturn, 1) := by decide +kernel
theorem d_M_tell_0 : decode b_M_tell 0 = .ok (.aload_n 0, 1) := by decide +kernel
theorem d_M_tell_1 : decode b_M_tell 1 = .ok (.getfield 37, 3) := by decide +kernel
theorem d_M_tell_4 : decode b_M_tell 4 = .ok (.iload_n 1, 1) := by decide +kernel
theorem d_M_tell_5 : decode b_M_tell 5 = .ok (.iaload, 1) := by decide +kernel
theorem d_M_tell_6 : decode b_M_tell 6 = .ok (.ifCond .eq 19, 3) := by decide +kernel
theorem d_M_tell_9 : decode b_M_tell 9 = .ok (.aload_n 0, 1) := by decide +kernel
theorem d_M_tell_10 : decode b_M_tell 10 = .ok (.getfield 37, 3) := by decide +kernel
theorem d_M_tell_13 : decode b_M_tell 13 = .ok (.iload_n 1, 1) := by decide +kernel
theorem d_M_tell_14 : decode b_M_tell 14 = .ok (.iaload, 1) := by decide +kernel
theorem d_M_tell_15 : decode b_M_tell 15 = .ok (.iload_n 2, 1) := by decide +kernel
theorem d_M_tell_16 : decode b_M_tell 16 = .ok (.if_icmp .ne 7, 3) := by decide +kernel
theorem d_M_tell_19 : decode b_M_tell 19 = .ok (.iconst 1, 1) := by decide +kernel
theorem d_M_tell_20 : decode b_M_tell 20 = .ok (.goto 4, 3) := by decide +kernel
theorem d_M_tell_23 : decode b_M_tell 23 = .ok (.iconst 0, 1) := by decide +kernel
theorem d_M_tell_24 : decode b_M_tell 24 = .ok (.ireturn, 1) := by decide +kernel
theorem d_M_tell_25 : decode b_M_tell 25 = .ok (.iconst 0, 1) := by decide +kernel
theorem d_M_tell_26 : decode b_M_tell 26 = .ok (.istore_n 3, 1) := by decide +kernel
theorem d_M_tell_27 : decode b_M_tell 27 = .ok (.iload_n 3, 1) := by decide +kernel
theorem d_M_tell_28 : decode b_M_tell 28 = .ok (.bipush 26, 2) := by decide +kernel
theorem d_M_tell_30 : decode b_M_tell 30 = .ok (.if_icmp .ge 21, 3) := by decide +kernel
theorem d_M_tell_33 : decode b_M_tell 33 = .ok (.aload_n 0, 1) := by decide +kernel
theorem d_M_tell_34 : decode b_M_tell 34 = .ok (.getfield 37, 3) := by decide +kernel
theorem d_M_tell_37 : decode b_M_tell 37 = .ok (.iload_n 3, 1) := by decide +kernel
theorem d_M_tell_38 : decode b_M_tell 38 = .ok (.iaload, 1) := by decide +kernel
theorem d_M_tell_39 : decode b_M_tell 39 = .ok (.iload_n 2, 1) := by decide +kernel
theorem d_M_tell_40 : decode b_M_tell 40 = .ok (.if_icmp .ne 5, 3) := by decide +kernel
theorem d_M_tell_43 : decode b_M_tell 43 = .ok (.iconst 0, 1) := by decide +kernel
theorem d_M_tell_44 : decode b_M_tell 44 = .ok (.ireturn, 1) := by decide +kernel
theorem d_M_tell_45 : decode b_M_tell 45 = .ok (.iinc 3 1, 3) := by decide +kernel
theorem d_M_tell_48 : decode b_M_tell 48 = .ok (.goto (-21), 3) := by decide +kernel
theorem d_M_tell_51 : decode b_M_tell 51 = .ok (.aload_n 0, 1) := by decide +kernel
theorem d_M_tell_52 : decode b_M_tell 52 = .ok (.getfield 37, 3) := by decide +kernel
theorem d_M_tell_55 : decode b_M_tell 55 = .ok (.iload_n 1, 1) := by decide +kernel
theorem d_M_tell_56 : decode b_M_tell 56 = .ok (.iload_n 2, 1) := by decide +kernel
theorem d_M_tell_57 : decode b_M_tell 57 = .ok (.iastore, 1) := by decide +kernel
theorem d_M_tell_58 : decode b_M_tell 58 = .ok (.iconst 1, 1) := by decide +kernel
theorem d_M_tell_59 : decode b_M_tell 59 = .ok (.ireturn, 1) := by decide +kernel
theorem d_M_fits_0 : decode b_M_fits 0 = .ok (.iconst 0, 1) := by decide +kernel
theorem d_M_fits_1 : decode b_M_fits 1 = .ok (.istore_n 2, 1) := by decide +kernel
theorem d_M_fits_2 : decode b_M_fits 2 = .ok (.iload_n 2, 1) := by decide +kernel
theorem d_M_fits_3 : decode b_M_fits 3 = .ok (.bipush 26, 2) := by decide +kernel
theorem d_M_fits_5 : decode b_M_fits 5 = .ok (.if_icmp .ge 16, 3) := by decide +kernel
theorem d_M_fits_8 : decode b_M_fits 8 = .ok (.aload_n 0, 1) := by decide +kernel
theorem d_M_fits_9 : decode b_M_fits 9 = .ok (.getfield 37, 3) := by decide +kernel
theorem d_M_fits_12 : decode b_M_fits 12 = .ok (.iload_n 2, 1) := by decide +kernel
theorem d_M_fits_13 : decode b_M_fits 13 = .ok (.iconst 0, 1) := by decide +kernel
theorem d_M_fits_14 : decode b_M_fits 14 = .ok (.iastore, 1) := by decide +kernel
theorem d_M_fits_15 : decode b_M_fits 15 = .ok (.iinc 2 1, 3) := by decide +kernel
theorem d_M_fits_18 : decode b_M_fits 18 = .ok (.goto (-16), 3) := by decide +kernel
theorem d_M_fits_21 : decode b_M_fits 21 = .ok (.iconst 0, 1) := by decide +kernel
theorem d_M_fits_22 : decode b_M_fits 22 = .ok (.istore_n 2, 1) := by decide +kernel
end
section
theorem d_M_fits_23 : decode b_M_fits 23 = .ok (.iload_n 2, 1) := by decide +kernel
theorem d_M_fits_24 : decode b_M_fits 24 = .ok (.bipush 26, 2) := by decide +kernel
theorem d_M_fits_26 : decode b_M_fits 26 = .ok (.if_icmp .ge 42, 3) := by decide +kernel
theorem d_M_fits_29 : decode b_M_fits 29 = .ok (.aload_n 0, 1) := by decide +kernel
theorem d_M_fits_30 : decode b_M_fits 30 = .ok (.getfield 22, 3) := by decide +kernel
theorem d_M_fits_33 : decode b_M_fits 33 = .ok (.iload_n 2, 1) := by decide +kernel
theorem d_M_fits_34 : decode b_M_fits 34 = .ok (.iaload, 1) := by decide +kernel
theorem d_M_fits_35 : decode b_M_fits 35 = .ok (.ifCond .eq 27, 3) := by decide +kernel
theorem d_M_fits_38 : decode b_M_fits 38 = .ok (.aload_n 0, 1) := by decide +kernel
theorem d_M_fits_39 : decode b_M_fits 39 = .ok (.iload_n 2, 1) := by decide +kernel
theorem d_M_fits_40 : decode b_M_fits 40 = .ok (.invokevirtual 86, 3) := by decide +kernel
theorem d_M_fits_43 : decode b_M_fits 43 = .ok (.ifCond .eq 19, 3) := by decide +kernel
theorem d_M_fits_46 : decode b_M_fits 46 = .ok (.aload_n 0, 1) := by decide +kernel
theorem d_M_fits_47 : decode b_M_fits 47 = .ok (.iload_n 2, 1) := by decide +kernel
theorem d_M_fits_48 : decode b_M_fits 48 = .ok (.aload_n 0, 1) := by decide +kernel
theorem d_M_fits_49 : decode b_M_fits 49 = .ok (.getfield 22, 3) := by decide +kernel
theorem d_M_fits_52 : decode b_M_fits 52 = .ok (.iload_n 2, 1) := by decide +kernel
theorem d_M_fits_53 : decode b_M_fits 53 = .ok (.iaload, 1) := by decide +kernel
theorem d_M_fits_54 : decode b_M_fits 54 = .ok (.invokevirtual 89, 3) := by decide +kernel
theorem d_M_fits_57 : decode b_M_fits 57 = .ok (.ifCond .ne 5, 3) := by decide +kernel
theorem d_M_fits_60 : decode b_M_fits 60 = .ok (.iconst 0, 1) := by decide +kernel
theorem d_M_fits_61 : decode b_M_fits 61 = .ok (.ireturn, 1) := by decide +kernel
theorem d_M_fits_62 : decode b_M_fits 62 = .ok (.iinc 2 1, 3) := by decide +kernel
theorem d_M_fits_65 : decode b_M_fits 65 = .ok (.goto (-42), 3) := by decide +kernel
theorem d_M_fits_68 : decode b_M_fits 68 = .ok (.iconst 0, 1) := by decide +kernel
theorem d_M_fits_69 : decode b_M_fits 69 = .ok (.istore_n 2, 1) := by decide +kernel
theorem d_M_fits_70 : decode b_M_fits 70 = .ok (.iload_n 2, 1) := by decide +kernel
theorem d_M_fits_71 : decode b_M_fits 71 = .ok (.iload_n 1, 1) := by decide +kernel
theorem d_M_fits_72 : decode b_M_fits 72 = .ok (.if_icmp .ge 60, 3) := by decide +kernel
theorem d_M_fits_75 : decode b_M_fits 75 = .ok (.iconst 0, 1) := by decide +kernel
theorem d_M_fits_76 : decode b_M_fits 76 = .ok (.istore_n 3, 1) := by decide +kernel
theorem d_M_fits_77 : decode b_M_fits 77 = .ok (.iload_n 3, 1) := by decide +kernel
theorem d_M_fits_78 : decode b_M_fits 78 = .ok (.aload_n 0, 1) := by decide +kernel
theorem d_M_fits_79 : decode b_M_fits 79 = .ok (.getfield 31, 3) := by decide +kernel
theorem d_M_fits_82 : decode b_M_fits 82 = .ok (.iload_n 2, 1) := by decide +kernel
theorem d_M_fits_83 : decode b_M_fits 83 = .ok (.iaload, 1) := by decide +kernel
theorem d_M_fits_84 : decode b_M_fits 84 = .ok (.if_icmp .ge 42, 3) := by decide +kernel
theorem d_M_fits_87 : decode b_M_fits 87 = .ok (.aload_n 0, 1) := by decide +kernel
theorem d_M_fits_88 : decode b_M_fits 88 = .ok (.aload_n 0, 1) := by decide +kernel
theorem d_M_fits_89 : decode b_M_fits 89 = .ok (.getfield 19, 3) := by decide +kernel
theorem d_M_fits_92 : decode b_M_fits 92 = .ok (.aload_n 0, 1) := by decide +kernel
theorem d_M_fits_93 : decode b_M_fits 93 = .ok (.getfield 28, 3) := by decide +kernel
theorem d_M_fits_96 : decode b_M_fits 96 = .ok (.iload_n 2, 1) := by decide +kernel
theorem d_M_fits_97 : decode b_M_fits 97 = .ok (.iaload, 1) := by decide +kernel
theorem d_M_fits_98 : decode b_M_fits 98 = .ok (.iload_n 3, 1) := by decide +kernel
theorem d_M_fits_99 : decode b_M_fits 99 = .ok (.iadd, 1) := by decide +kernel
theorem d_M_fits_100 : decode b_M_fits 100 = .ok (.iaload, 1) := by decide +kernel
theorem d_M_fits_101 : decode b_M_fits 101 = .ok (.aload_n 0, 1) := by decide +kernel
theorem d_M_fits_102 : decode b_M_fits 102 = .ok (.aload_n 0, 1) := by decide +kernel
theorem d_M_fits_103 : decode b_M_fits 103 = .ok (.getfield 34, 3) := by decide +kernel
theorem d_M_fits_106 : decode b_M_fits 106 = .ok (.iload_n 2, 1) := by decide +kernel
theorem d_M_fits_107 : decode b_M_fits 107 = .ok (.iaload, 1) := by decide +kernel
theorem d_M_fits_108 : decode b_M_fits 108 = .ok (.iload_n 3, 1) := by decide +kernel
theorem d_M_fits_109 : decode b_M_fits 109 = .ok (.invokevirtual 60, 3) := by decide +kernel
theorem d_M_fits_112 : decode b_M_fits 112 = .ok (.invokevirtual 89, 3) := by decide +kernel
theorem d_M_fits_115 : decode b_M_fits 115 = .ok (.ifCond .ne 5, 3) := by decide +kernel
theorem d_M_fits_118 : decode b_M_fits 118 = .ok (.iconst 0, 1) := by decide +kernel
theorem d_M_fits_119 : decode b_M_fits 119 = .ok (.ireturn, 1) := by decide +kernel
theorem d_M_fits_120 : decode b_M_fits 120 = .ok (.iinc 3 1, 3) := by decide +kernel
theorem d_M_fits_123 : decode b_M_fits 123 = .ok (.goto (-46), 3) := by decide +kernel
theorem d_M_fits_126 : decode b_M_fits 126 = .ok (.iinc 2 1, 3) := by decide +kernel
theorem d_M_fits_129 : decode b_M_fits 129 = .ok (.goto (-59), 3) := by decide +kernel
theorem d_M_fits_132 : decode b_M_fits 132 = .ok (.iconst 1, 1) := by decide +kernel
theorem d_M_fits_133 : decode b_M_fits 133 = .ok (.ireturn, 1) := by decide +kernel
theorem d_M_isAhead_0 : decode b_M_isAhead 0 = .ok (.iconst 0, 1) := by decide +kernel
theorem d_M_isAhead_1 : decode b_M_isAhead 1 = .ok (.istore_n 2, 1) := by decide +kernel
theorem d_M_isAhead_2 : decode b_M_isAhead 2 = .ok (.iload_n 2, 1) := by decide +kernel
theorem d_M_isAhead_3 : decode b_M_isAhead 3 = .ok (.bipush 26, 2) := by decide +kernel
theorem d_M_isAhead_5 : decode b_M_isAhead 5 = .ok (.if_icmp .ge 55, 3) := by decide +kernel
theorem d_M_isAhead_8 : decode b_M_isAhead 8 = .ok (.aload_n 0, 1) := by decide +kernel
theorem d_M_isAhead_9 : decode b_M_isAhead 9 = .ok (.getfield 37, 3) := by decide +kernel
theorem d_M_isAhead_12 : decode b_M_isAhead 12 = .ok (.iload_n 2, 1) := by decide +kernel
theorem d_M_isAhead_13 : decode b_M_isAhead 13 = .ok (.iaload, 1) := by decide +kernel
theorem d_M_isAhead_14 : decode b_M_isAhead 14 = .ok (.aload_n 0, 1) := by decide +kernel
theorem d_M_isAhead_15 : decode b_M_isAhead 15 = .ok (.getfield 40, 3) := by decide +kernel
theorem d_M_isAhead_18 : decode b_M_isAhead 18 = .ok (.bipush 26, 2) := by decide +kernel
theorem d_M_isAhead_20 : decode b_M_isAhead 20 = .ok (.iload_n 1, 1) := by decide +kernel
theorem d_M_isAhead_21 : decode b_M_isAhead 21 = .ok (.imul, 1) := by decide +kernel
theorem d_M_isAhead_22 : decode b_M_isAhead 22 = .ok (.iload_n 2, 1) := by decide +kernel
theorem d_M_isAhead_23 : decode b_M_isAhead 23 = .ok (.iadd, 1) := by decide +kernel
theorem d_M_isAhead_24 : decode b_M_isAhead 24 = .ok (.iaload, 1) := by decide +kernel
theorem d_M_isAhead_25 : decode b_M_isAhead 25 = .ok (.if_icmp .eq 29, 3) := by decide +kernel
theorem d_M_isAhead_28 : decode b_M_isAhead 28 = .ok (.aload_n 0, 1) := by decide +kernel
theorem d_M_isAhead_29 : decode b_M_isAhead 29 = .ok (.getfield 37, 3) := by decide +kernel
theorem d_M_isAhead_32 : decode b_M_isAhead 32 = .ok (.iload_n 2, 1) := by decide +kernel
theorem d_M_isAhead_33 : decode b_M_isAhead 33 = .ok (.iaload, 1) := by decide +kernel
theorem d_M_isAhead_34 : decode b_M_isAhead 34 = .ok (.aload_n 0, 1) := by decide +kernel
theorem d_M_isAhead_35 : decode b_M_isAhead 35 = .ok (.getfield 40, 3) := by decide +kernel
theorem d_M_isAhead_38 : decode b_M_isAhead 38 = .ok (.bipush 26, 2) := by decide +kernel
theorem d_M_isAhead_40 : decode b_M_isAhead 40 = .ok (.iload_n 1, 1) := by decide +kernel
theorem d_M_isAhead_41 : decode b_M_isAhead 41 = .ok (.imul, 1) := by decide +kernel
theorem d_M_isAhead_42 : decode b_M_isAhead 42 = .ok (.iload_n 2, 1) := by decide +kernel
theorem d_M_isAhead_43 : decode b_M_isAhead 43 = .ok (.iadd, 1) := by decide +kernel
theorem d_M_isAhead_44 : decode b_M_isAhead 44 = .ok (.iaload, 1) := by decide +kernel
theorem d_M_isAhead_45 : decode b_M_isAhead 45 = .ok (.if_icmp .ge 7, 3) := by decide +kernel
theorem d_M_isAhead_48 : decode b_M_isAhead 48 = .ok (.iconst 1, 1) := by decide +kernel
theorem d_M_isAhead_49 : decode b_M_isAhead 49 = .ok (.goto 4, 3) := by decide +kernel
theorem d_M_isAhead_52 : decode b_M_isAhead 52 = .ok (.iconst 0, 1) := by decide +kernel
theorem d_M_isAhead_53 : decode b_M_isAhead 53 = .ok (.ireturn, 1) := by decide +kernel
theorem d_M_isAhead_54 : decode b_M_isAhead 54 = .ok (.iinc 2 1, 3) := by decide +kernel
theorem d_M_isAhead_57 : decode b_M_isAhead 57 = .ok (.goto (-55), 3) := by decide +kernel
theorem d_M_isAhead_60 : decode b_M_isAhead 60 = .ok (.iconst 0, 1) := by decide +kernel
theorem d_M_isAhead_61 : decode b_M_isAhead 61 = .ok (.ireturn, 1) := by decide +kernel
theorem d_M_enterReading_0 : decode b_M_enterReading 0 = .ok (.aload_n 0, 1) := by decide +kernel
theorem d_M_enterReading_1 : decode b_M_enterReading 1 = .ok (.getfield 77, 3) := by decide +kernel
theorem d_M_enterReading_4 : decode b_M_enterReading 4 = .ok (.istore_n 1, 1) := by decide +kernel
theorem d_M_enterReading_5 : decode b_M_enterReading 5 = .ok (.iload_n 1, 1) := by decide +kernel
theorem d_M_enterReading_6 : decode b_M_enterReading 6 = .ok (.ifCond .le 19, 3) := by decide +kernel
theorem d_M_enterReading_9 : decode b_M_enterReading 9 = .ok (.aload_n 0, 1) := by decide +kernel
theorem d_M_enterReading_10 : decode b_M_enterReading 10 = .ok (.iload_n 1, 1) := by decide +kernel
theorem d_M_enterReading_11 : decode b_M_enterReading 11 = .ok (.iconst 1, 1) := by decide +kernel
theorem d_M_enterReading_12 : decode b_M_enterReading 12 = .ok (.isub, 1) := by decide +kernel
theorem d_M_enterReading_13 : decode b_M_enterReading 13 = .ok (.invokevirtual 93, 3) := by decide +kernel
theorem d_M_enterReading_16 : decode b_M_enterReading 16 = .ok (.ifCond .eq 9, 3) := by decide +kernel
theorem d_M_enterReading_19 : decode b_M_enterReading 19 = .ok (.iinc 1 (-1), 3) := by decide +kernel
theorem d_M_enterReading_22 : decode b_M_enterReading 22 = .ok (.goto (-17), 3) := by decide +kernel
theorem d_M_enterReading_25 : decode b_M_enterReading 25 = .ok (.iload_n 1, 1) := by decide +kernel
theorem d_M_enterReading_26 : decode b_M_enterReading 26 = .ok (.sipush 200, 3) := by decide +kernel
theorem d_M_enterReading_29 : decode b_M_enterReading 29 = .ok (.if_icmp .ne 4, 3) := by decide +kernel
theorem d_M_enterReading_32 : decode b_M_enterReading 32 = .ok (.return_, 1) := by decide +kernel
theorem d_M_enterReading_33 : decode b_M_enterReading 33 = .ok (.aload_n 0, 1) := by decide +kernel
theorem d_M_enterReading_34 : decode b_M_enterReading 34 = .ok (.getfield 77, 3) := by decide +kernel
theorem d_M_enterReading_37 : decode b_M_enterReading 37 = .ok (.sipush 200, 3) := by decide +kernel
theorem d_M_enterReading_40 : decode b_M_enterReading 40 = .ok (.if_icmp .ge 10, 3) := by decide +kernel
theorem d_M_enterReading_43 : decode b_M_enterReading 43 = .ok (.aload_n 0, 1) := by decide +kernel
theorem d_M_enterReading_44 : decode b_M_enterReading 44 = .ok (.getfield 77, 3) := by decide +kernel
theorem d_M_enterReading_47 : decode b_M_enterReading 47 = .ok (.goto 6, 3) := by decide +kernel
theorem d_M_enterReading_50 : decode b_M_enterReading 50 = .ok (.sipush 199, 3) := by decide +kernel
theorem d_M_enterReading_53 : decode b_M_enterReading 53 = .ok (.istore_n 2, 1) := by decide +kernel
theorem d_M_enterReading_54 : decode b_M_enterReading 54 = .ok (.bipush 26, 2) := by decide +kernel
theorem d_M_enterReading_56 : decode b_M_enterReading 56 = .ok (.iload_n 2, 1) := by decide +kernel
theorem d_M_enterReading_57 : decode b_M_enterReading 57 = .ok (.iconst 1, 1) := by decide +kernel
theorem d_M_enterReading_58 : decode b_M_enterReading 58 = .ok (.iadd, 1) := by decide +kernel
theorem d_M_enterReading_59 : decode b_M_enterReading 59 = .ok (.imul, 1) := by decide +kernel
theorem d_M_enterReading_60 : decode b_M_enterReading 60 = .ok (.iconst 1, 1) := by decide +kernel
theorem d_M_enterReading_61 : decode b_M_enterReading 61 = .ok (.isub, 1) := by decide +kernel
theorem d_M_enterReading_62 : decode b_M_enterReading 62 = .ok (.istore_n 3, 1) := by decide +kernel
theorem d_M_enterReading_63 : decode b_M_enterReading 63 = .ok (.iload_n 3, 1) := by decide +kernel
theorem d_M_enterReading_64 : decode b_M_enterReading 64 = .ok (.bipush 26, 2) := by decide +kernel
theorem d_M_enterReading_66 : decode b_M_enterReading 66 = .ok (.iload_n 1, 1) := by decide +kernel
theorem d_M_enterReading_67 : decode b_M_enterReading 67 = .ok (.iconst 1, 1) := by decide +kernel
theorem d_M_enterReading_68 : decode b_M_enterReading 68 = .ok (.iadd, 1) := by decide +kernel
theorem d_M_enterReading_69 : decode b_M_enterReading 69 = .ok (.imul, 1) := by decide +kernel
theorem d_M_enterReading_70 : decode b_M_enterReading 70 = .ok (.if_icmp .lt 24, 3) := by decide +kernel
theorem d_M_enterReading_73 : decode b_M_enterReading 73 = .ok (.aload_n 0, 1) := by decide +kernel
theorem d_M_enterReading_74 : decode b_M_enterReading 74 = .ok (.getfield 40, 3) := by decide +kernel
theorem d_M_enterReading_77 : decode b_M_enterReading 77 = .ok (.iload_n 3, 1) := by decide +kernel
theorem d_M_enterReading_78 : decode b_M_enterReading 78 = .ok (.aload_n 0, 1) := by decide +kernel
theorem d_M_enterReading_79 : decode b_M_enterReading 79 = .ok (.getfield 40, 3) := by decide +kernel
theorem d_M_enterReading_82 : decode b_M_enterReading 82 = .ok (.iload_n 3, 1) := by decide +kernel
theorem d_M_enterReading_83 : decode b_M_enterReading 83 = .ok (.bipush 26, 2) := by decide +kernel
theorem d_M_enterReading_85 : decode b_M_enterReading 85 = .ok (.isub, 1) := by decide +kernel
theorem d_M_enterReading_86 : decode b_M_enterReading 86 = .ok (.iaload, 1) := by decide +kernel
theorem d_M_enterReading_87 : decode b_M_enterReading 87 = .ok (.iastore, 1) := by decide +kernel
theorem d_M_enterReading_88 : decode b_M_enterReading 88 = .ok (.iinc 3 (-1), 3) := by decide +kernel
theorem d_M_enterReading_91 : decode b_M_enterReading 91 = .ok (.goto (-28), 3) := by decide +kernel
theorem d_M_enterReading_94 : decode b_M_enterReading 94 = .ok (.iconst 0, 1) := by decide +kernel
theorem d_M_enterReading_95 : decode b_M_enterReading 95 = .ok (.istore_n 3, 1) := by decide +kernel
theorem d_M_enterReading_96 : decode b_M_enterReading 96 = .ok (.iload_n 3, 1) := by decide +kernel
theorem d_M_enterReading_97 : decode b_M_enterReading 97 = .ok (.bipush 26, 2) := by decide +kernel
theorem d_M_enterReading_99 : decode b_M_enterReading 99 = .ok (.if_icmp .ge 26, 3) := by decide +kernel
theorem d_M_enterReading_102 : decode b_M_enterReading 102 = .ok (.aload_n 0, 1) := by decide +kernel
theorem d_M_enterReading_103 : decode b_M_enterReading 103 = .ok (.getfield 40, 3) := by decide +kernel
theorem d_M_enterReading_106 : decode b_M_enterReading 106 = .ok (.bipush 26, 2) := by decide +kernel
theorem d_M_enterReading_108 : decode b_M_enterReading 108 = .ok (.iload_n 1, 1) := by decide +kernel
theorem d_M_enterReading_109 : decode b_M_enterReading 109 = .ok (.imul, 1) := by decide +kernel
theorem d_M_enterReading_110 : decode b_M_enterReading 110 = .ok (.iload_n 3, 1) := by decide +kernel
theorem d_M_enterReading_111 : decode b_M_enterReading 111 = .ok (.iadd, 1) := by decide +kernel
theorem d_M_enterReading_112 : decode b_M_enterReading 112 = .ok (.aload_n 0, 1) := by decide +kernel
theorem d_M_enterReading_113 : decode b_M_enterReading 113 = .ok (.getfield 37, 3) := by decide +kernel
theorem d_M_enterReading_116 : decode b_M_enterReading 116 = .ok (.iload_n 3, 1) := by decide +kernel
theorem d_M_enterReading_117 : decode b_M_enterReading 117 = .ok (.iaload, 1) := by decide +kernel
theorem d_M_enterReading_118 : decode b_M_enterReading 118 = .ok (.iastore, 1) := by decide +kernel
theorem d_M_enterReading_119 : decode b_M_enterReading 119 = .ok (.iinc 3 1, 3) := by decide +kernel
theorem d_M_enterReading_122 : decode b_M_enterReading 122 = .ok (.goto (-26), 3) := by decide +kernel
theorem d_M_enterReading_125 : decode b_M_enterReading 125 = .ok (.aload_n 0, 1) := by decide +kernel
theorem d_M_enterReading_126 : decode b_M_enterReading 126 = .ok (.getfield 77, 3) := by decide +kernel
theorem d_M_enterReading_129 : decode b_M_enterReading 129 = .ok (.sipush 200, 3) := by decide +kernel
theorem d_M_enterReading_132 : decode b_M_enterReading 132 = .ok (.if_icmp .ge 13, 3) := by decide +kernel
theorem d_M_enterReading_135 : decode b_M_enterReading 135 = .ok (.aload_n 0, 1) := by decide +kernel
theorem d_M_enterReading_136 : decode b_M_enterReading 136 = .ok (.dup, 1) := by decide +kernel
theorem d_M_enterReading_137 : decode b_M_enterReading 137 = .ok (.getfield 77, 3) := by decide +kernel
theorem d_M_enterReading_140 : decode b_M_enterReading 140 = .ok (.iconst 1, 1) := by decide +kernel
theorem d_M_enterReading_141 : decode b_M_enterReading 141 = .ok (.iadd, 1) := by decide +kernel
theorem d_M_enterReading_142 : decode b_M_enterReading 142 = .ok (.putfield 77, 3) := by decide +kernel
theorem d_M_enterReading_145 : decode b_M_enterReading 145 = .ok (.return_, 1) := by decide +kernel
theorem d_M_run_0 : decode b_M_run 0 = .ok (.aload_n 0, 1) := by decide +kernel
theorem d_M_run_1 : decode b_M_run 1 = .ok (.iconst 0, 1) := by decide +kernel
theorem d_M_run_2 : decode b_M_run 2 = .ok (.putfield 49, 3) := by decide +kernel
theorem d_M_run_5 : decode b_M_run 5 = .ok (.iload_n 1, 1) := by decide +kernel
theorem d_M_run_6 : decode b_M_run 6 = .ok (.ifCond .lt 9, 3) := by decide +kernel
theorem d_M_run_9 : decode b_M_run 9 = .ok (.iload_n 1, 1) := by decide +kernel
theorem d_M_run_10 : decode b_M_run 10 = .ok (.ldc 96, 2) := by decide +kernel
theorem d_M_run_12 : decode b_M_run 12 = .ok (.if_icmp .le 6, 3) := by decide +kernel
theorem d_M_run_15 : decode b_M_run 15 = .ok (.bipush (-2), 2) := by decide +kernel
theorem d_M_run_17 : decode b_M_run 17 = .ok (.ireturn, 1) := by decide +kernel
theorem d_M_run_18 : decode b_M_run 18 = .ok (.aload_n 0, 1) := by decide +kernel
theorem d_M_run_19 : decode b_M_run 19 = .ok (.invokevirtual 83, 3) := by decide +kernel
theorem d_M_run_22 : decode b_M_run 22 = .ok (.aload_n 0, 1) := by decide +kernel
theorem d_M_run_23 : decode b_M_run 23 = .ok (.iconst 0, 1) := by decide +kernel
theorem d_M_run_24 : decode b_M_run 24 = .ok (.putfield 77, 3) := by decide +kernel
theorem d_M_run_27 : decode b_M_run 27 = .ok (.aload_n 0, 1) := by decide +kernel
theorem d_M_run_28 : decode b_M_run 28 = .ok (.iconst 0, 1) := by decide +kernel
theorem d_M_run_29 : decode b_M_run 29 = .ok (.putfield 97, 3) := by decide +kernel
theorem d_M_run_32 : decode b_M_run 32 = .ok (.aload_n 0, 1) := by decide +kernel
theorem d_M_run_33 : decode b_M_run 33 = .ok (.iconst 0, 1) := by decide +kernel
theorem d_M_run_34 : decode b_M_run 34 = .ok (.invokevirtual 100, 3) := by decide +kernel
theorem d_M_run_37 : decode b_M_run 37 = .ok (.ifCond .ne 5, 3) := by decide +kernel
theorem d_M_run_40 : decode b_M_run 40 = .ok (.iconst 0, 1) := by decide +kernel
theorem d_M_run_41 : decode b_M_run 41 = .ok (.ireturn, 1) := by decide +kernel
theorem d_M_run_42 : decode b_M_run 42 = .ok (.iconst 0, 1) := by decide +kernel
theorem d_M_run_43 : decode b_M_run 43 = .ok (.istore_n 2, 1) := by decide +kernel
theorem d_M_run_44 : decode b_M_run 44 = .ok (.iconst 0, 1) := by decide +kernel
theorem d_M_run_45 : decode b_M_run 45 = .ok (.istore_n 3, 1) := by decide +kernel
theorem d_M_run_46 : decode b_M_run 46 = .ok (.aload_n 0, 1) := by decide +kernel
theorem d_M_run_47 : decode b_M_run 47 = .ok (.getfield 34, 3) := by decide +kernel
theorem d_M_run_50 : decode b_M_run 50 = .ok (.iconst 0, 1) := by decide +kernel
theorem d_M_run_51 : decode b_M_run 51 = .ok (.iconst (-1), 1) := by decide +kernel
theorem d_M_run_52 : decode b_M_run 52 = .ok (.iastore, 1) := by decide +kernel
theorem d_M_run_53 : decode b_M_run 53 = .ok (.iload_n 3, 1) := by decide +kernel
theorem d_M_run_54 : decode b_M_run 54 = .ok (.ifCond .lt 167, 3) := by decide +kernel
theorem d_M_run_57 : decode b_M_run 57 = .ok (.iload_n 3, 1) := by decide +kernel
theorem d_M_run_58 : decode b_M_run 58 = .ok (.aload_n 0, 1) := by decide +kernel
theorem d_M_run_59 : decode b_M_run 59 = .ok (.getfield 80, 3) := by decide +kernel
theorem d_M_run_62 : decode b_M_run 62 = .ok (.if_icmp .ne 25, 3) := by decide +kernel
theorem d_M_run_65 : decode b_M_run 65 = .ok (.iinc 2 1, 3) := by decide +kernel
theorem d_M_run_68 : decode b_M_run 68 = .ok (.aload_n 0, 1) := by decide +kernel
theorem d_M_run_69 : decode b_M_run 69 = .ok (.aload_n 0, 1) := by decide +kernel
theorem d_M_run_70 : decode b_M_run 70 = .ok (.getfield 80, 3) := by decide +kernel
theorem d_M_run_73 : decode b_M_run 73 = .ok (.invokevirtual 100, 3) := by decide +kernel
theorem d_M_run_76 : decode b_M_run 76 = .ok (.pop, 1) := by decide +kernel
theorem d_M_run_77 : decode b_M_run 77 = .ok (.aload_n 0, 1) := by decide +kernel
theorem d_M_run_78 : decode b_M_run 78 = .ok (.invokevirtual 103, 3) := by decide +kernel
theorem d_M_run_81 : decode b_M_run 81 = .ok (.iinc 3 (-1), 3) := by decide +kernel
theorem d_M_run_84 : decode b_M_run 84 = .ok (.goto (-31), 3) := by decide +kernel
theorem d_M_run_87 : decode b_M_run 87 = .ok (.aload_n 0, 1) := by decide +kernel
theorem d_M_run_88 : decode b_M_run 88 = .ok (.getfield 34, 3) := by decide +kernel
theorem d_M_run_91 : decode b_M_run 91 = .ok (.iload_n 3, 1) := by decide +kernel
theorem d_M_run_92 : decode b_M_run 92 = .ok (.dup2, 1) := by decide +kernel
theorem d_M_run_93 : decode b_M_run 93 = .ok (.iaload, 1) := by decide +kernel
theorem d_M_run_94 : decode b_M_run 94 = .ok (.iconst 1, 1) := by decide +kernel
theorem d_M_run_95 : decode b_M_run 95 = .ok (.iadd, 1) := by decide +kernel
theorem d_M_run_96 : decode b_M_run 96 = .ok (.iastore, 1) := by decide +kernel
theorem d_M_run_97 : decode b_M_run 97 = .ok (.aload_n 0, 1) := by decide +kernel
theorem d_M_run_98 : decode b_M_run 98 = .ok (.getfield 34, 3) := by decide +kernel
theorem d_M_run_101 : decode b_M_run 101 = .ok (.iload_n 3, 1) := by decide +kernel
theorem d_M_run_102 : decode b_M_run 102 = .ok (.iaload, 1) := by decide +kernel
theorem d_M_run_103 : decode b_M_run 103 = .ok (.aload_n 0, 1) := by decide +kernel
theorem d_M_run_104 : decode b_M_run 104 = .ok (.getfield 64, 3) := by decide +kernel
theorem d_M_run_107 : decode b_M_run 107 = .ok (.if_icmp .ge 36, 3) := by decide +kernel
theorem d_M_run_110 : decode b_M_run 110 = .ok (.aload_n 0, 1) := by decide +kernel
theorem d_M_run_111 : decode b_M_run 111 = .ok (.getfield 13, 3) := by decide +kernel
theorem d_M_run_114 : decode b_M_run 114 = .ok (.aload_n 0, 1) := by decide +kernel
theorem d_M_run_115 : decode b_M_run 115 = .ok (.getfield 34, 3) := by decide +kernel
theorem d_M_run_118 : decode b_M_run 118 = .ok (.iload_n 3, 1) := by decide +kernel
theorem d_M_run_119 : decode b_M_run 119 = .ok (.iaload, 1) := by decide +kernel
theorem d_M_run_120 : decode b_M_run 120 = .ok (.iaload, 1) := by decide +kernel
theorem d_M_run_121 : decode b_M_run 121 = .ok (.aload_n 0, 1) := by decide +kernel
theorem d_M_run_122 : decode b_M_run 122 = .ok (.getfield 31, 3) := by decide +kernel
theorem d_M_run_125 : decode b_M_run 125 = .ok (.iload_n 3, 1) := by decide +kernel
theorem d_M_run_126 : decode b_M_run 126 = .ok (.iaload, 1) := by decide +kernel
theorem d_M_run_127 : decode b_M_run 127 = .ok (.if_icmp .eq 16, 3) := by decide +kernel
theorem d_M_run_130 : decode b_M_run 130 = .ok (.aload_n 0, 1) := by decide +kernel
theorem d_M_run_131 : decode b_M_run 131 = .ok (.getfield 34, 3) := by decide +kernel
theorem d_M_run_134 : decode b_M_run 134 = .ok (.iload_n 3, 1) := by decide +kernel
theorem d_M_run_135 : decode b_M_run 135 = .ok (.dup2, 1) := by decide +kernel
theorem d_M_run_136 : decode b_M_run 136 = .ok (.iaload, 1) := by decide +kernel
theorem d_M_run_137 : decode b_M_run 137 = .ok (.iconst 1, 1) := by decide +kernel
theorem d_M_run_138 : decode b_M_run 138 = .ok (.iadd, 1) := by decide +kernel
theorem d_M_run_139 : decode b_M_run 139 = .ok (.iastore, 1) := by decide +kernel
theorem d_M_run_140 : decode b_M_run 140 = .ok (.goto (-43), 3) := by decide +kernel
theorem d_M_run_143 : decode b_M_run 143 = .ok (.aload_n 0, 1) := by decide +kernel
theorem d_M_run_144 : decode b_M_run 144 = .ok (.getfield 34, 3) := by decide +kernel
theorem d_M_run_147 : decode b_M_run 147 = .ok (.iload_n 3, 1) := by decide +kernel
theorem d_M_run_148 : decode b_M_run 148 = .ok (.iaload, 1) := by decide +kernel
theorem d_M_run_149 : decode b_M_run 149 = .ok (.aload_n 0, 1) := by decide +kernel
theorem d_M_run_150 : decode b_M_run 150 = .ok (.getfield 64, 3) := by decide +kernel
theorem d_M_run_153 : decode b_M_run 153 = .ok (.if_icmp .ne 9, 3) := by decide +kernel
theorem d_M_run_156 : decode b_M_run 156 = .ok (.iinc 3 (-1), 3) := by decide +kernel
theorem d_M_run_159 : decode b_M_run 159 = .ok (.goto (-106), 3) := by decide +kernel
theorem d_M_run_162 : decode b_M_run 162 = .ok (.aload_n 0, 1) := by decide +kernel
theorem d_M_run_163 : decode b_M_run 163 = .ok (.getfield 97, 3) := by decide +kernel
theorem d_M_run_166 : decode b_M_run 166 = .ok (.iload_n 1, 1) := by decide +kernel
theorem d_M_run_167 : decode b_M_run 167 = .ok (.if_icmp .ne 10, 3) := by decide +kernel
theorem d_M_run_170 : decode b_M_run 170 = .ok (.aload_n 0, 1) := by decide +kernel
theorem d_M_run_171 : decode b_M_run 171 = .ok (.iconst 0, 1) := by decide +kernel
theorem d_M_run_172 : decode b_M_run 172 = .ok (.putfield 77, 3) := by decide +kernel
theorem d_M_run_175 : decode b_M_run 175 = .ok (.iconst (-1), 1) := by decide +kernel
theorem d_M_run_176 : decode b_M_run 176 = .ok (.ireturn, 1) := by decide +kernel
theorem d_M_run_177 : decode b_M_run 177 = .ok (.aload_n 0, 1) := by decide +kernel
theorem d_M_run_178 : decode b_M_run 178 = .ok (.dup, 1) := by decide +kernel
theorem d_M_run_179 : decode b_M_run 179 = .ok (.getfield 97, 3) := by decide +kernel
theorem d_M_run_182 : decode b_M_run 182 = .ok (.iconst 1, 1) := by decide +kernel
theorem d_M_run_183 : decode b_M_run 183 = .ok (.iadd, 1) := by decide +kernel
theorem d_M_run_184 : decode b_M_run 184 = .ok (.putfield 97, 3) := by decide +kernel
theorem d_M_run_187 : decode b_M_run 187 = .ok (.aload_n 0, 1) := by decide +kernel
theorem d_M_run_188 : decode b_M_run 188 = .ok (.iload_n 3, 1) := by decide +kernel
theorem d_M_run_189 : decode b_M_run 189 = .ok (.iconst 1, 1) := by decide +kernel
theorem d_M_run_190 : decode b_M_run 190 = .ok (.iadd, 1) := by decide +kernel
theorem d_M_run_191 : decode b_M_run 191 = .ok (.invokevirtual 100, 3) := by decide +kernel
theorem d_M_run_194 : decode b_M_run 194 = .ok (.ifCond .ne 6, 3) := by decide +kernel
theorem d_M_run_197 : decode b_M_run 197 = .ok (.goto (-144), 3) := by decide +kernel
theorem d_M_run_200 : decode b_M_run 200 = .ok (.iinc 3 1, 3) := by decide +kernel
theorem d_M_run_203 : decode b_M_run 203 = .ok (.iload_n 3, 1) := by decide +kernel
theorem d_M_run_204 : decode b_M_run 204 = .ok (.aload_n 0, 1) := by decide +kernel
theorem d_M_run_205 : decode b_M_run 205 = .ok (.getfield 80, 3) := by decide +kernel
theorem d_M_run_208 : decode b_M_run 208 = .ok (.if_icmp .ge (-155), 3) := by decide +kernel
theorem d_M_run_211 : decode b_M_run 211 = .ok (.aload_n 0, 1) := by decide +kernel
theorem d_M_run_212 : decode b_M_run 212 = .ok (.getfield 34, 3) := by decide +kernel
theorem d_M_run_215 : decode b_M_run 215 = .ok (.iload_n 3, 1) := by decide +kernel
theorem d_M_run_216 : decode b_M_run 216 = .ok (.iconst (-1), 1) := by decide +kernel
theorem d_M_run_217 : decode b_M_run 217 = .ok (.iastore, 1) := by decide +kernel
theorem d_M_run_218 : decode b_M_run 218 = .ok (.goto (-165), 3) := by decide +kernel
theorem d_M_run_221 : decode b_M_run 221 = .ok (.iload_n 2, 1) := by decide +kernel
theorem d_M_run_222 : decode b_M_run 222 = .ok (.ireturn, 1) := by decide +kernel
theorem d_M_steps_0 : decode b_M_steps 0 = .ok (.aload_n 0, 1) := by decide +kernel
theorem d_M_steps_1 : decode b_M_steps 1 = .ok (.iconst 0, 1) := by decide +kernel
theorem d_M_steps_2 : decode b_M_steps 2 = .ok (.putfield 49, 3) := by decide +kernel
theorem d_M_steps_5 : decode b_M_steps 5 = .ok (.aload_n 0, 1) := by decide +kernel
theorem d_M_steps_6 : decode b_M_steps 6 = .ok (.getfield 97, 3) := by decide +kernel
theorem d_M_steps_9 : decode b_M_steps 9 = .ok (.ireturn, 1) := by decide +kernel
theorem d_M_letter_0 : decode b_M_letter 0 = .ok (.aload_n 0, 1) := by decide +kernel
theorem d_M_letter_1 : decode b_M_letter 1 = .ok (.iconst 0, 1) := by decide +kernel
theorem d_M_letter_2 : decode b_M_letter 2 = .ok (.putfield 49, 3) := by decide +kernel
theorem d_M_letter_5 : decode b_M_letter 5 = .ok (.iload_n 1, 1) := by decide +kernel
theorem d_M_letter_6 : decode b_M_letter 6 = .ok (.ifCond .lt 35, 3) := by decide +kernel
theorem d_M_letter_9 : decode b_M_letter 9 = .ok (.iload_n 1, 1) := by decide +kernel
theorem d_M_letter_10 : decode b_M_letter 10 = .ok (.aload_n 0, 1) := by decide +kernel
theorem d_M_letter_11 : decode b_M_letter 11 = .ok (.getfield 77, 3) := by decide +kernel
theorem d_M_letter_14 : decode b_M_letter 14 = .ok (.if_icmp .ge 27, 3) := by decide +kernel
theorem d_M_letter_17 : decode b_M_letter 17 = .ok (.iload_n 2, 1) := by decide +kernel
theorem d_M_letter_18 : decode b_M_letter 18 = .ok (.ifCond .lt 23, 3) := by decide +kernel
theorem d_M_letter_21 : decode b_M_letter 21 = .ok (.iload_n 2, 1) := by decide +kernel
theorem d_M_letter_22 : decode b_M_letter 22 = .ok (.bipush 25, 2) := by decide +kernel
theorem d_M_letter_24 : decode b_M_letter 24 = .ok (.if_icmp .gt 17, 3) := by decide +kernel
theorem d_M_letter_27 : decode b_M_letter 27 = .ok (.aload_n 0, 1) := by decide +kernel
theorem d_M_letter_28 : decode b_M_letter 28 = .ok (.getfield 40, 3) := by decide +kernel
theorem d_M_letter_31 : decode b_M_letter 31 = .ok (.bipush 26, 2) := by decide +kernel
theorem d_M_letter_33 : decode b_M_letter 33 = .ok (.iload_n 1, 1) := by decide +kernel
theorem d_M_letter_34 : decode b_M_letter 34 = .ok (.imul, 1) := by decide +kernel
theorem d_M_letter_35 : decode b_M_letter 35 = .ok (.iload_n 2, 1) := by decide +kernel
theorem d_M_letter_36 : decode b_M_letter 36 = .ok (.iadd, 1) := by decide +kernel
theorem d_M_letter_37 : decode b_M_letter 37 = .ok (.iaload, 1) := by decide +kernel
theorem d_M_letter_38 : decode b_M_letter 38 = .ok (.ifCond .ne 5, 3) := by decide +kernel
theorem d_M_letter_41 : decode b_M_letter 41 = .ok (.iconst (-1), 1) := by decide +kernel
theorem d_M_letter_42 : decode b_M_letter 42 = .ok (.ireturn, 1) := by decide +kernel
theorem d_M_letter_43 : decode b_M_letter 43 = .ok (.aload_n 0, 1) := by decide +kernel
theorem d_M_letter_44 : decode b_M_letter 44 = .ok (.getfield 40, 3) := by decide +kernel
theorem d_M_letter_47 : decode b_M_letter 47 = .ok (.bipush 26, 2) := by decide +kernel
theorem d_M_letter_49 : decode b_M_letter 49 = .ok (.iload_n 1, 1) := by decide +kernel
theorem d_M_letter_50 : decode b_M_letter 50 = .ok (.imul, 1) := by decide +kernel
theorem d_M_letter_51 : decode b_M_letter 51 = .ok (.iload_n 2, 1) := by decide +kernel
theorem d_M_letter_52 : decode b_M_letter 52 = .ok (.iadd, 1) := by decide +kernel
theorem d_M_letter_53 : decode b_M_letter 53 = .ok (.iaload, 1) := by decide +kernel
theorem d_M_letter_54 : decode b_M_letter 54 = .ok (.ireturn, 1) := by decide +kernel
theorem d_M_rankOf_0 : decode b_M_rankOf 0 = .ok (.lconst 0, 1) := by decide +kernel
theorem d_M_rankOf_1 : decode b_M_rankOf 1 = .ok (.lstore_n 2, 1) := by decide +kernel
theorem d_M_rankOf_2 : decode b_M_rankOf 2 = .ok (.iconst 1, 1) := by decide +kernel
theorem d_M_rankOf_3 : decode b_M_rankOf 3 = .ok (.istore 4, 2) := by decide +kernel
theorem d_M_rankOf_5 : decode b_M_rankOf 5 = .ok (.iload 4, 2) := by decide +kernel
theorem d_M_rankOf_7 : decode b_M_rankOf 7 = .ok (.aload_n 0, 1) := by decide +kernel
theorem d_M_rankOf_8 : decode b_M_rankOf 8 = .ok (.getfield 74, 3) := by decide +kernel
theorem d_M_rankOf_11 : decode b_M_rankOf 11 = .ok (.if_icmp .ge 75, 3) := by decide +kernel
theorem d_M_rankOf_14 : decode b_M_rankOf 14 = .ok (.aload_n 0, 1) := by decide +kernel
theorem d_M_rankOf_15 : decode b_M_rankOf 15 = .ok (.getfield 19, 3) := by decide +kernel
theorem d_M_rankOf_18 : decode b_M_rankOf 18 = .ok (.iload 4, 2) := by decide +kernel
theorem d_M_rankOf_20 : decode b_M_rankOf 20 = .ok (.iaload, 1) := by decide +kernel
theorem d_M_rankOf_21 : decode b_M_rankOf 21 = .ok (.ifCond .lt 59, 3) := by decide +kernel
theorem d_M_rankOf_24 : decode b_M_rankOf 24 = .ok (.aload_n 0, 1) := by decide +kernel
theorem d_M_rankOf_25 : decode b_M_rankOf 25 = .ok (.getfield 19, 3) := by decide +kernel
theorem d_M_rankOf_28 : decode b_M_rankOf 28 = .ok (.iload 4, 2) := by decide +kernel
theorem d_M_rankOf_30 : decode b_M_rankOf 30 = .ok (.iconst 1, 1) := by decide +kernel
theorem d_M_rankOf_31 : decode b_M_rankOf 31 = .ok (.isub, 1) := by decide +kernel
theorem d_M_rankOf_32 : decode b_M_rankOf 32 = .ok (.iaload, 1) := by decide +kernel
theorem d_M_rankOf_33 : decode b_M_rankOf 33 = .ok (.ifCond .lt 47, 3) := by decide +kernel
theorem d_M_rankOf_36 : decode b_M_rankOf 36 = .ok (.lload_n 2, 1) := by decide +kernel
theorem d_M_rankOf_37 : decode b_M_rankOf 37 = .ok (.aload_n 0, 1) := by decide +kernel
theorem d_M_rankOf_38 : decode b_M_rankOf 38 = .ok (.aload_n 0, 1) := by decide +kernel
theorem d_M_rankOf_39 : decode b_M_rankOf 39 = .ok (.getfield 40, 3) := by decide +kernel
theorem d_M_rankOf_42 : decode b_M_rankOf 42 = .ok (.bipush 26, 2) := by decide +kernel
theorem d_M_rankOf_44 : decode b_M_rankOf 44 = .ok (.iload_n 1, 1) := by decide +kernel
theorem d_M_rankOf_45 : decode b_M_rankOf 45 = .ok (.imul, 1) := by decide +kernel
theorem d_M_rankOf_46 : decode b_M_rankOf 46 = .ok (.aload_n 0, 1) := by decide +kernel
theorem d_M_rankOf_47 : decode b_M_rankOf 47 = .ok (.getfield 19, 3) := by decide +kernel
theorem d_M_rankOf_50 : decode b_M_rankOf 50 = .ok (.iload 4, 2) := by decide +kernel
theorem d_M_rankOf_52 : decode b_M_rankOf 52 = .ok (.iconst 1, 1) := by decide +kernel
theorem d_M_rankOf_53 : decode b_M_rankOf 53 = .ok (.isub, 1) := by decide +kernel
theorem d_M_rankOf_54 : decode b_M_rankOf 54 = .ok (.iaload, 1) := by decide +kernel
theorem d_M_rankOf_55 : decode b_M_rankOf 55 = .ok (.iadd, 1) := by decide +kernel
theorem d_M_rankOf_56 : decode b_M_rankOf 56 = .ok (.iaload, 1) := by decide +kernel
theorem d_M_rankOf_57 : decode b_M_rankOf 57 = .ok (.aload_n 0, 1) := by decide +kernel
theorem d_M_rankOf_58 : decode b_M_rankOf 58 = .ok (.getfield 40, 3) := by decide +kernel
theorem d_M_rankOf_61 : decode b_M_rankOf 61 = .ok (.bipush 26, 2) := by decide +kernel
theorem d_M_rankOf_63 : decode b_M_rankOf 63 = .ok (.iload_n 1, 1) := by decide +kernel
theorem d_M_rankOf_64 : decode b_M_rankOf 64 = .ok (.imul, 1) := by decide +kernel
theorem d_M_rankOf_65 : decode b_M_rankOf 65 = .ok (.aload_n 0, 1) := by decide +kernel
theorem d_M_rankOf_66 : decode b_M_rankOf 66 = .ok (.getfield 19, 3) := by decide +kernel
theorem d_M_rankOf_69 : decode b_M_rankOf 69 = .ok (.iload 4, 2) := by decide +kernel
theorem d_M_rankOf_71 : decode b_M_rankOf 71 = .ok (.iaload, 1) := by decide +kernel
theorem d_M_rankOf_72 : decode b_M_rankOf 72 = .ok (.iadd, 1) := by decide +kernel
theorem d_M_rankOf_73 : decode b_M_rankOf 73 = .ok (.iaload, 1) := by decide +kernel
theorem d_M_rankOf_74 : decode b_M_rankOf 74 = .ok (.invokevirtual 106, 3) := by decide +kernel
theorem d_M_rankOf_77 : decode b_M_rankOf 77 = .ok (.i2l, 1) := by decide +kernel
theorem d_M_rankOf_78 : decode b_M_rankOf 78 = .ok (.ladd, 1) := by decide +kernel
theorem d_M_rankOf_79 : decode b_M_rankOf 79 = .ok (.lstore_n 2, 1) := by decide +kernel
theorem d_M_rankOf_80 : decode b_M_rankOf 80 = .ok (.iinc 4 1, 3) := by decide +kernel
theorem d_M_rankOf_83 : decode b_M_rankOf 83 = .ok (.goto (-78), 3) := by decide +kernel
theorem d_M_rankOf_86 : decode b_M_rankOf 86 = .ok (.lload_n 2, 1) := by decide +kernel
theorem d_M_rankOf_87 : decode b_M_rankOf 87 = .ok (.lreturn, 1) := by decide +kernel
theorem d_M_rank_0 : decode b_M_rank 0 = .ok (.aload_n 0, 1) := by decide +kernel
theorem d_M_rank_1 : decode b_M_rank 1 = .ok (.iconst 0, 1) := by decide +kernel
theorem d_M_rank_2 : decode b_M_rank 2 = .ok (.putfield 49, 3) := by decide +kernel
theorem d_M_rank_5 : decode b_M_rank 5 = .ok (.iload_n 1, 1) := by decide +kernel
theorem d_M_rank_6 : decode b_M_rank 6 = .ok (.ifCond .lt 11, 3) := by decide +kernel
theorem d_M_rank_9 : decode b_M_rank 9 = .ok (.iload_n 1, 1) := by decide +kernel
theorem d_M_rank_10 : decode b_M_rank 10 = .ok (.aload_n 0, 1) := by decide +kernel
theorem d_M_rank_11 : decode b_M_rank 11 = .ok (.getfield 77, 3) := by decide +kernel
theorem d_M_rank_14 : decode b_M_rank 14 = .ok (.if_icmp .lt 7, 3) := by decide +kernel
theorem d_M_rank_17 : decode b_M_rank 17 = .ok (.lconst 0, 1) := by decide +kernel
theorem d_M_rank_18 : decode b_M_rank 18 = .ok (.goto 8, 3) := by decide +kernel
theorem d_M_rank_21 : decode b_M_rank 21 = .ok (.aload_n 0, 1) := by decide +kernel
theorem d_M_rank_22 : decode b_M_rank 22 = .ok (.iload_n 1, 1) := by decide +kernel
theorem d_M_rank_23 : decode b_M_rank 23 = .ok (.invokevirtual 109, 3) := by decide +kernel
theorem d_M_rank_26 : decode b_M_rank 26 = .ok (.lreturn, 1) := by decide +kernel
theorem d_M_best_0 : decode b_M_best 0 = .ok (.aload_n 0, 1) := by decide +kernel
theorem d_M_best_1 : decode b_M_best 1 = .ok (.iconst 0, 1) := by decide +kernel
theorem d_M_best_2 : decode b_M_best 2 = .ok (.putfield 49, 3) := by decide +kernel
theorem d_M_best_5 : decode b_M_best 5 = .ok (.iconst (-1), 1) := by decide +kernel
theorem d_M_best_6 : decode b_M_best 6 = .ok (.istore_n 1, 1) := by decide +kernel
theorem d_M_best_7 : decode b_M_best 7 = .ok (.iconst 0, 1) := by decide +kernel
theorem d_M_best_8 : decode b_M_best 8 = .ok (.istore_n 2, 1) := by decide +kernel
theorem d_M_best_9 : decode b_M_best 9 = .ok (.iload_n 2, 1) := by decide +kernel
theorem d_M_best_10 : decode b_M_best 10 = .ok (.aload_n 0, 1) := by decide +kernel
theorem d_M_best_11 : decode b_M_best 11 = .ok (.getfield 77, 3) := by decide +kernel
theorem d_M_best_14 : decode b_M_best 14 = .ok (.if_icmp .ge 29, 3) := by decide +kernel
theorem d_M_best_17 : decode b_M_best 17 = .ok (.iload_n 1, 1) := by decide +kernel
theorem d_M_best_18 : decode b_M_best 18 = .ok (.ifCond .lt 17, 3) := by decide +kernel
theorem d_M_best_21 : decode b_M_best 21 = .ok (.aload_n 0, 1) := by decide +kernel
theorem d_M_best_22 : decode b_M_best 22 = .ok (.iload_n 2, 1) := by decide +kernel
theorem d_M_best_23 : decode b_M_best 23 = .ok (.invokevirtual 109, 3) := by decide +kernel
end
section
theorem d_M_best_26 : decode b_M_best 26 = .ok (.aload_n 0, 1) := by decide +kernel
theorem d_M_best_27 : decode b_M_best 27 = .ok (.iload_n 1, 1) := by decide +kernel
theorem d_M_best_28 : decode b_M_best 28 = .ok (.invokevirtual 109, 3) := by decide +kernel
theorem d_M_best_31 : decode b_M_best 31 = .ok (.lcmp, 1) := by decide +kernel
theorem d_M_best_32 : decode b_M_best 32 = .ok (.ifCond .le 5, 3) := by decide +kernel
theorem d_M_best_35 : decode b_M_best 35 = .ok (.iload_n 2, 1) := by decide +kernel
theorem d_M_best_36 : decode b_M_best 36 = .ok (.istore_n 1, 1) := by decide +kernel
theorem d_M_best_37 : decode b_M_best 37 = .ok (.iinc 2 1, 3) := by decide +kernel
theorem d_M_best_40 : decode b_M_best 40 = .ok (.goto (-31), 3) := by decide +kernel
theorem d_M_best_43 : decode b_M_best 43 = .ok (.iload_n 1, 1) := by decide +kernel
theorem d_M_best_44 : decode b_M_best 44 = .ok (.ireturn, 1) := by decide +kernel
theorem d_M_hint_0 : decode b_M_hint 0 = .ok (.aload_n 0, 1) := by decide +kernel
theorem d_M_hint_1 : decode b_M_hint 1 = .ok (.iconst 0, 1) := by decide +kernel
theorem d_M_hint_2 : decode b_M_hint 2 = .ok (.putfield 49, 3) := by decide +kernel
theorem d_M_hint_5 : decode b_M_hint 5 = .ok (.iconst 0, 1) := by decide +kernel
theorem d_M_hint_6 : decode b_M_hint 6 = .ok (.istore_n 1, 1) := by decide +kernel
theorem d_M_hint_7 : decode b_M_hint 7 = .ok (.iload_n 1, 1) := by decide +kernel
theorem d_M_hint_8 : decode b_M_hint 8 = .ok (.bipush 26, 2) := by decide +kernel
theorem d_M_hint_10 : decode b_M_hint 10 = .ok (.if_icmp .ge 105, 3) := by decide +kernel
theorem d_M_hint_13 : decode b_M_hint 13 = .ok (.aload_n 0, 1) := by decide +kernel
theorem d_M_hint_14 : decode b_M_hint 14 = .ok (.getfield 77, 3) := by decide +kernel
theorem d_M_hint_17 : decode b_M_hint 17 = .ok (.ifCond .le 98, 3) := by decide +kernel
theorem d_M_hint_20 : decode b_M_hint 20 = .ok (.aload_n 0, 1) := by decide +kernel
theorem d_M_hint_21 : decode b_M_hint 21 = .ok (.getfield 22, 3) := by decide +kernel
theorem d_M_hint_24 : decode b_M_hint 24 = .ok (.iload_n 1, 1) := by decide +kernel
theorem d_M_hint_25 : decode b_M_hint 25 = .ok (.iaload, 1) := by decide +kernel
theorem d_M_hint_26 : decode b_M_hint 26 = .ok (.ifCond .ne 83, 3) := by decide +kernel
theorem d_M_hint_29 : decode b_M_hint 29 = .ok (.aload_n 0, 1) := by decide +kernel
theorem d_M_hint_30 : decode b_M_hint 30 = .ok (.iload_n 1, 1) := by decide +kernel
theorem d_M_hint_31 : decode b_M_hint 31 = .ok (.invokevirtual 86, 3) := by decide +kernel
theorem d_M_hint_34 : decode b_M_hint 34 = .ok (.ifCond .ne 6, 3) := by decide +kernel
theorem d_M_hint_37 : decode b_M_hint 37 = .ok (.goto 72, 3) := by decide +kernel
theorem d_M_hint_40 : decode b_M_hint 40 = .ok (.iconst 1, 1) := by decide +kernel
theorem d_M_hint_41 : decode b_M_hint 41 = .ok (.istore_n 2, 1) := by decide +kernel
theorem d_M_hint_42 : decode b_M_hint 42 = .ok (.iconst 1, 1) := by decide +kernel
theorem d_M_hint_43 : decode b_M_hint 43 = .ok (.istore_n 3, 1) := by decide +kernel
theorem d_M_hint_44 : decode b_M_hint 44 = .ok (.iload_n 3, 1) := by decide +kernel
theorem d_M_hint_45 : decode b_M_hint 45 = .ok (.aload_n 0, 1) := by decide +kernel
theorem d_M_hint_46 : decode b_M_hint 46 = .ok (.getfield 77, 3) := by decide +kernel
theorem d_M_hint_49 : decode b_M_hint 49 = .ok (.if_icmp .ge 39, 3) := by decide +kernel
theorem d_M_hint_52 : decode b_M_hint 52 = .ok (.iload_n 2, 1) := by decide +kernel
theorem d_M_hint_53 : decode b_M_hint 53 = .ok (.ifCond .eq 27, 3) := by decide +kernel
theorem d_M_hint_56 : decode b_M_hint 56 = .ok (.aload_n 0, 1) := by decide +kernel
theorem d_M_hint_57 : decode b_M_hint 57 = .ok (.getfield 40, 3) := by decide +kernel
theorem d_M_hint_60 : decode b_M_hint 60 = .ok (.bipush 26, 2) := by decide +kernel
theorem d_M_hint_62 : decode b_M_hint 62 = .ok (.iload_n 3, 1) := by decide +kernel
theorem d_M_hint_63 : decode b_M_hint 63 = .ok (.imul, 1) := by decide +kernel
theorem d_M_hint_64 : decode b_M_hint 64 = .ok (.iload_n 1, 1) := by decide +kernel
theorem d_M_hint_65 : decode b_M_hint 65 = .ok (.iadd, 1) := by decide +kernel
theorem d_M_hint_66 : decode b_M_hint 66 = .ok (.iaload, 1) := by decide +kernel
theorem d_M_hint_67 : decode b_M_hint 67 = .ok (.aload_n 0, 1) := by decide +kernel
theorem d_M_hint_68 : decode b_M_hint 68 = .ok (.getfield 40, 3) := by decide +kernel
theorem d_M_hint_71 : decode b_M_hint 71 = .ok (.iload_n 1, 1) := by decide +kernel
theorem d_M_hint_72 : decode b_M_hint 72 = .ok (.iaload, 1) := by decide +kernel
theorem d_M_hint_73 : decode b_M_hint 73 = .ok (.if_icmp .ne 7, 3) := by decide +kernel
theorem d_M_hint_76 : decode b_M_hint 76 = .ok (.iconst 1, 1) := by decide +kernel
theorem d_M_hint_77 : decode b_M_hint 77 = .ok (.goto 4, 3) := by decide +kernel
theorem d_M_hint_80 : decode b_M_hint 80 = .ok (.iconst 0, 1) := by decide +kernel
theorem d_M_hint_81 : decode b_M_hint 81 = .ok (.istore_n 2, 1) := by decide +kernel
theorem d_M_hint_82 : decode b_M_hint 82 = .ok (.iinc 3 1, 3) := by decide +kernel
theorem d_M_hint_85 : decode b_M_hint 85 = .ok (.goto (-41), 3) := by decide +kernel
theorem d_M_hint_88 : decode b_M_hint 88 = .ok (.iload_n 2, 1) := by decide +kernel
theorem d_M_hint_89 : decode b_M_hint 89 = .ok (.ifCond .ne 6, 3) := by decide +kernel
theorem d_M_hint_92 : decode b_M_hint 92 = .ok (.goto 17, 3) := by decide +kernel
theorem d_M_hint_95 : decode b_M_hint 95 = .ok (.aload_n 0, 1) := by decide +kernel
theorem d_M_hint_96 : decode b_M_hint 96 = .ok (.getfield 22, 3) := by decide +kernel
theorem d_M_hint_99 : decode b_M_hint 99 = .ok (.iload_n 1, 1) := by decide +kernel
theorem d_M_hint_100 : decode b_M_hint 100 = .ok (.aload_n 0, 1) := by decide +kernel
theorem d_M_hint_101 : decode b_M_hint 101 = .ok (.getfield 40, 3) := by decide +kernel
theorem d_M_hint_104 : decode b_M_hint 104 = .ok (.iload_n 1, 1) := by decide +kernel
theorem d_M_hint_105 : decode b_M_hint 105 = .ok (.iaload, 1) := by decide +kernel
theorem d_M_hint_106 : decode b_M_hint 106 = .ok (.iastore, 1) := by decide +kernel
theorem d_M_hint_107 : decode b_M_hint 107 = .ok (.iload_n 1, 1) := by decide +kernel
theorem d_M_hint_108 : decode b_M_hint 108 = .ok (.ireturn, 1) := by decide +kernel
theorem d_M_hint_109 : decode b_M_hint 109 = .ok (.iinc 1 1, 3) := by decide +kernel
theorem d_M_hint_112 : decode b_M_hint 112 = .ok (.goto (-105), 3) := by decide +kernel
theorem d_M_hint_115 : decode b_M_hint 115 = .ok (.iconst (-1), 1) := by decide +kernel
theorem d_M_hint_116 : decode b_M_hint 116 = .ok (.ireturn, 1) := by decide +kernel
theorem d_M_plain_0 : decode b_M_plain 0 = .ok (.aload_n 0, 1) := by decide +kernel
theorem d_M_plain_1 : decode b_M_plain 1 = .ok (.iconst 0, 1) := by decide +kernel
theorem d_M_plain_2 : decode b_M_plain 2 = .ok (.putfield 49, 3) := by decide +kernel
theorem d_M_plain_5 : decode b_M_plain 5 = .ok (.iload_n 1, 1) := by decide +kernel
theorem d_M_plain_6 : decode b_M_plain 6 = .ok (.invokestatic 53, 3) := by decide +kernel
theorem d_M_plain_9 : decode b_M_plain 9 = .ok (.ifCond .eq 12, 3) := by decide +kernel
theorem d_M_plain_12 : decode b_M_plain 12 = .ok (.aload_n 0, 1) := by decide +kernel
theorem d_M_plain_13 : decode b_M_plain 13 = .ok (.getfield 113, 3) := by decide +kernel
theorem d_M_plain_16 : decode b_M_plain 16 = .ok (.bipush 60, 2) := by decide +kernel
theorem d_M_plain_18 : decode b_M_plain 18 = .ok (.if_icmp .ne 5, 3) := by decide +kernel
theorem d_M_plain_21 : decode b_M_plain 21 = .ok (.iconst 0, 1) := by decide +kernel
theorem d_M_plain_22 : decode b_M_plain 22 = .ok (.ireturn, 1) := by decide +kernel
theorem d_M_plain_23 : decode b_M_plain 23 = .ok (.aload_n 0, 1) := by decide +kernel
theorem d_M_plain_24 : decode b_M_plain 24 = .ok (.getfield 43, 3) := by decide +kernel
theorem d_M_plain_27 : decode b_M_plain 27 = .ok (.aload_n 0, 1) := by decide +kernel
theorem d_M_plain_28 : decode b_M_plain 28 = .ok (.getfield 113, 3) := by decide +kernel
theorem d_M_plain_31 : decode b_M_plain 31 = .ok (.iload_n 1, 1) := by decide +kernel
theorem d_M_plain_32 : decode b_M_plain 32 = .ok (.iastore, 1) := by decide +kernel
theorem d_M_plain_33 : decode b_M_plain 33 = .ok (.aload_n 0, 1) := by decide +kernel
theorem d_M_plain_34 : decode b_M_plain 34 = .ok (.dup, 1) := by decide +kernel
theorem d_M_plain_35 : decode b_M_plain 35 = .ok (.getfield 113, 3) := by decide +kernel
theorem d_M_plain_38 : decode b_M_plain 38 = .ok (.iconst 1, 1) := by decide +kernel
theorem d_M_plain_39 : decode b_M_plain 39 = .ok (.iadd, 1) := by decide +kernel
theorem d_M_plain_40 : decode b_M_plain 40 = .ok (.putfield 113, 3) := by decide +kernel
theorem d_M_plain_43 : decode b_M_plain 43 = .ok (.iconst 1, 1) := by decide +kernel
theorem d_M_plain_44 : decode b_M_plain 44 = .ok (.ireturn, 1) := by decide +kernel
theorem d_M_shift_0 : decode b_M_shift 0 = .ok (.bipush 97, 2) := by decide +kernel
theorem d_M_shift_2 : decode b_M_shift 2 = .ok (.iload_n 0, 1) := by decide +kernel
theorem d_M_shift_3 : decode b_M_shift 3 = .ok (.bipush 97, 2) := by decide +kernel
theorem d_M_shift_5 : decode b_M_shift 5 = .ok (.isub, 1) := by decide +kernel
theorem d_M_shift_6 : decode b_M_shift 6 = .ok (.iload_n 1, 1) := by decide +kernel
theorem d_M_shift_7 : decode b_M_shift 7 = .ok (.bipush 26, 2) := by decide +kernel
theorem d_M_shift_9 : decode b_M_shift 9 = .ok (.irem, 1) := by decide +kernel
theorem d_M_shift_10 : decode b_M_shift 10 = .ok (.iadd, 1) := by decide +kernel
theorem d_M_shift_11 : decode b_M_shift 11 = .ok (.bipush 26, 2) := by decide +kernel
theorem d_M_shift_13 : decode b_M_shift 13 = .ok (.irem, 1) := by decide +kernel
theorem d_M_shift_14 : decode b_M_shift 14 = .ok (.bipush 26, 2) := by decide +kernel
theorem d_M_shift_16 : decode b_M_shift 16 = .ok (.iadd, 1) := by decide +kernel
theorem d_M_shift_17 : decode b_M_shift 17 = .ok (.bipush 26, 2) := by decide +kernel
theorem d_M_shift_19 : decode b_M_shift 19 = .ok (.irem, 1) := by decide +kernel
theorem d_M_shift_20 : decode b_M_shift 20 = .ok (.iadd, 1) := by decide +kernel
theorem d_M_shift_21 : decode b_M_shift 21 = .ok (.ireturn, 1) := by decide +kernel
theorem d_M_shifted_0 : decode b_M_shifted 0 = .ok (.aload_n 0, 1) := by decide +kernel
theorem d_M_shifted_1 : decode b_M_shifted 1 = .ok (.iconst 0, 1) := by decide +kernel
theorem d_M_shifted_2 : decode b_M_shifted 2 = .ok (.putfield 49, 3) := by decide +kernel
theorem d_M_shifted_5 : decode b_M_shifted 5 = .ok (.iload_n 2, 1) := by decide +kernel
theorem d_M_shifted_6 : decode b_M_shifted 6 = .ok (.ifCond .lt 11, 3) := by decide +kernel
theorem d_M_shifted_9 : decode b_M_shifted 9 = .ok (.iload_n 2, 1) := by decide +kernel
theorem d_M_shifted_10 : decode b_M_shifted 10 = .ok (.aload_n 0, 1) := by decide +kernel
theorem d_M_shifted_11 : decode b_M_shifted 11 = .ok (.getfield 113, 3) := by decide +kernel
theorem d_M_shifted_14 : decode b_M_shifted 14 = .ok (.if_icmp .lt 7, 3) := by decide +kernel
theorem d_M_shifted_17 : decode b_M_shifted 17 = .ok (.iconst (-1), 1) := by decide +kernel
theorem d_M_shifted_18 : decode b_M_shifted 18 = .ok (.goto 13, 3) := by decide +kernel
theorem d_M_shifted_21 : decode b_M_shifted 21 = .ok (.aload_n 0, 1) := by decide +kernel
theorem d_M_shifted_22 : decode b_M_shifted 22 = .ok (.getfield 43, 3) := by decide +kernel
theorem d_M_shifted_25 : decode b_M_shifted 25 = .ok (.iload_n 2, 1) := by decide +kernel
theorem d_M_shifted_26 : decode b_M_shifted 26 = .ok (.iaload, 1) := by decide +kernel
theorem d_M_shifted_27 : decode b_M_shifted 27 = .ok (.iload_n 1, 1) := by decide +kernel
theorem d_M_shifted_28 : decode b_M_shifted 28 = .ok (.invokestatic 116, 3) := by decide +kernel
theorem d_M_shifted_31 : decode b_M_shifted 31 = .ok (.ireturn, 1) := by decide +kernel
theorem d_M_bestShift_0 : decode b_M_bestShift 0 = .ok (.aload_n 0, 1) := by decide +kernel
theorem d_M_bestShift_1 : decode b_M_bestShift 1 = .ok (.iconst 0, 1) := by decide +kernel
theorem d_M_bestShift_2 : decode b_M_bestShift 2 = .ok (.putfield 49, 3) := by decide +kernel
theorem d_M_bestShift_5 : decode b_M_bestShift 5 = .ok (.iconst 0, 1) := by decide +kernel
theorem d_M_bestShift_6 : decode b_M_bestShift 6 = .ok (.istore_n 1, 1) := by decide +kernel
theorem d_M_bestShift_7 : decode b_M_bestShift 7 = .ok (.lconst 0, 1) := by decide +kernel
theorem d_M_bestShift_8 : decode b_M_bestShift 8 = .ok (.lstore_n 2, 1) := by decide +kernel
theorem d_M_bestShift_9 : decode b_M_bestShift 9 = .ok (.iconst 0, 1) := by decide +kernel
theorem d_M_bestShift_10 : decode b_M_bestShift 10 = .ok (.istore 4, 2) := by decide +kernel
theorem d_M_bestShift_12 : decode b_M_bestShift 12 = .ok (.iload 4, 2) := by decide +kernel
theorem d_M_bestShift_14 : decode b_M_bestShift 14 = .ok (.bipush 26, 2) := by decide +kernel
theorem d_M_bestShift_16 : decode b_M_bestShift 16 = .ok (.if_icmp .ge 87, 3) := by decide +kernel
theorem d_M_bestShift_19 : decode b_M_bestShift 19 = .ok (.lconst 0, 1) := by decide +kernel
theorem d_M_bestShift_20 : decode b_M_bestShift 20 = .ok (.lstore 5, 2) := by decide +kernel
theorem d_M_bestShift_22 : decode b_M_bestShift 22 = .ok (.iconst 1, 1) := by decide +kernel
theorem d_M_bestShift_23 : decode b_M_bestShift 23 = .ok (.istore 7, 2) := by decide +kernel
theorem d_M_bestShift_25 : decode b_M_bestShift 25 = .ok (.iload 7, 2) := by decide +kernel
theorem d_M_bestShift_27 : decode b_M_bestShift 27 = .ok (.aload_n 0, 1) := by decide +kernel
theorem d_M_bestShift_28 : decode b_M_bestShift 28 = .ok (.getfield 113, 3) := by decide +kernel
theorem d_M_bestShift_31 : decode b_M_bestShift 31 = .ok (.if_icmp .ge 45, 3) := by decide +kernel
theorem d_M_bestShift_34 : decode b_M_bestShift 34 = .ok (.lload 5, 2) := by decide +kernel
theorem d_M_bestShift_36 : decode b_M_bestShift 36 = .ok (.aload_n 0, 1) := by decide +kernel
theorem d_M_bestShift_37 : decode b_M_bestShift 37 = .ok (.aload_n 0, 1) := by decide +kernel
theorem d_M_bestShift_38 : decode b_M_bestShift 38 = .ok (.getfield 43, 3) := by decide +kernel
theorem d_M_bestShift_41 : decode b_M_bestShift 41 = .ok (.iload 7, 2) := by decide +kernel
theorem d_M_bestShift_43 : decode b_M_bestShift 43 = .ok (.iconst 1, 1) := by decide +kernel
theorem d_M_bestShift_44 : decode b_M_bestShift 44 = .ok (.isub, 1) := by decide +kernel
theorem d_M_bestShift_45 : decode b_M_bestShift 45 = .ok (.iaload, 1) := by decide +kernel
theorem d_M_bestShift_46 : decode b_M_bestShift 46 = .ok (.iload 4, 2) := by decide +kernel
theorem d_M_bestShift_48 : decode b_M_bestShift 48 = .ok (.invokestatic 116, 3) := by decide +kernel
theorem d_M_bestShift_51 : decode b_M_bestShift 51 = .ok (.aload_n 0, 1) := by decide +kernel
theorem d_M_bestShift_52 : decode b_M_bestShift 52 = .ok (.getfield 43, 3) := by decide +kernel
theorem d_M_bestShift_55 : decode b_M_bestShift 55 = .ok (.iload 7, 2) := by decide +kernel
theorem d_M_bestShift_57 : decode b_M_bestShift 57 = .ok (.iaload, 1) := by decide +kernel
theorem d_M_bestShift_58 : decode b_M_bestShift 58 = .ok (.iload 4, 2) := by decide +kernel
theorem d_M_bestShift_60 : decode b_M_bestShift 60 = .ok (.invokestatic 116, 3) := by decide +kernel
theorem d_M_bestShift_63 : decode b_M_bestShift 63 = .ok (.invokevirtual 106, 3) := by decide +kernel
theorem d_M_bestShift_66 : decode b_M_bestShift 66 = .ok (.i2l, 1) := by decide +kernel
theorem d_M_bestShift_67 : decode b_M_bestShift 67 = .ok (.ladd, 1) := by decide +kernel
theorem d_M_bestShift_68 : decode b_M_bestShift 68 = .ok (.lstore 5, 2) := by decide +kernel
theorem d_M_bestShift_70 : decode b_M_bestShift 70 = .ok (.iinc 7 1, 3) := by decide +kernel
theorem d_M_bestShift_73 : decode b_M_bestShift 73 = .ok (.goto (-48), 3) := by decide +kernel
theorem d_M_bestShift_76 : decode b_M_bestShift 76 = .ok (.iload 4, 2) := by decide +kernel
theorem d_M_bestShift_78 : decode b_M_bestShift 78 = .ok (.ifCond .le 13, 3) := by decide +kernel
theorem d_M_bestShift_81 : decode b_M_bestShift 81 = .ok (.lload 5, 2) := by decide +kernel
theorem d_M_bestShift_83 : decode b_M_bestShift 83 = .ok (.lload_n 2, 1) := by decide +kernel
theorem d_M_bestShift_84 : decode b_M_bestShift 84 = .ok (.lcmp, 1) := by decide +kernel
theorem d_M_bestShift_85 : decode b_M_bestShift 85 = .ok (.ifCond .gt 6, 3) := by decide +kernel
theorem d_M_bestShift_88 : decode b_M_bestShift 88 = .ok (.goto 9, 3) := by decide +kernel
theorem d_M_bestShift_91 : decode b_M_bestShift 91 = .ok (.iload 4, 2) := by decide +kernel
theorem d_M_bestShift_93 : decode b_M_bestShift 93 = .ok (.istore_n 1, 1) := by decide +kernel
theorem d_M_bestShift_94 : decode b_M_bestShift 94 = .ok (.lload 5, 2) := by decide +kernel
theorem d_M_bestShift_96 : decode b_M_bestShift 96 = .ok (.lstore_n 2, 1) := by decide +kernel
theorem d_M_bestShift_97 : decode b_M_bestShift 97 = .ok (.iinc 4 1, 3) := by decide +kernel
theorem d_M_bestShift_100 : decode b_M_bestShift 100 = .ok (.goto (-88), 3) := by decide +kernel
theorem d_M_bestShift_103 : decode b_M_bestShift 103 = .ok (.iload_n 1, 1) := by decide +kernel
theorem d_M_bestShift_104 : decode b_M_bestShift 104 = .ok (.ireturn, 1) := by decide +kernel
theorem d_M_keyed_0 : decode b_M_keyed 0 = .ok (.aload_n 0, 1) := by decide +kernel
theorem d_M_keyed_1 : decode b_M_keyed 1 = .ok (.iconst 0, 1) := by decide +kernel
theorem d_M_keyed_2 : decode b_M_keyed 2 = .ok (.putfield 49, 3) := by decide +kernel
theorem d_M_keyed_5 : decode b_M_keyed 5 = .ok (.iload_n 1, 1) := by decide +kernel
theorem d_M_keyed_6 : decode b_M_keyed 6 = .ok (.ifCond .lt 23, 3) := by decide +kernel
theorem d_M_keyed_9 : decode b_M_keyed 9 = .ok (.iload_n 1, 1) := by decide +kernel
theorem d_M_keyed_10 : decode b_M_keyed 10 = .ok (.aload_n 0, 1) := by decide +kernel
theorem d_M_keyed_11 : decode b_M_keyed 11 = .ok (.getfield 64, 3) := by decide +kernel
theorem d_M_keyed_14 : decode b_M_keyed 14 = .ok (.if_icmp .ge 15, 3) := by decide +kernel
theorem d_M_keyed_17 : decode b_M_keyed 17 = .ok (.iload_n 2, 1) := by decide +kernel
theorem d_M_keyed_18 : decode b_M_keyed 18 = .ok (.ifCond .lt 11, 3) := by decide +kernel
theorem d_M_keyed_21 : decode b_M_keyed 21 = .ok (.iload_n 2, 1) := by decide +kernel
theorem d_M_keyed_22 : decode b_M_keyed 22 = .ok (.aload_n 0, 1) := by decide +kernel
theorem d_M_keyed_23 : decode b_M_keyed 23 = .ok (.getfield 113, 3) := by decide +kernel
theorem d_M_keyed_26 : decode b_M_keyed 26 = .ok (.if_icmp .lt 5, 3) := by decide +kernel
theorem d_M_keyed_29 : decode b_M_keyed 29 = .ok (.iconst (-1), 1) := by decide +kernel
theorem d_M_keyed_30 : decode b_M_keyed 30 = .ok (.ireturn, 1) := by decide +kernel
theorem d_M_keyed_31 : decode b_M_keyed 31 = .ok (.aload_n 0, 1) := by decide +kernel
theorem d_M_keyed_32 : decode b_M_keyed 32 = .ok (.getfield 43, 3) := by decide +kernel
theorem d_M_keyed_35 : decode b_M_keyed 35 = .ok (.iload_n 2, 1) := by decide +kernel
theorem d_M_keyed_36 : decode b_M_keyed 36 = .ok (.iaload, 1) := by decide +kernel
theorem d_M_keyed_37 : decode b_M_keyed 37 = .ok (.aload_n 0, 1) := by decide +kernel
theorem d_M_keyed_38 : decode b_M_keyed 38 = .ok (.iload_n 1, 1) := by decide +kernel
theorem d_M_keyed_39 : decode b_M_keyed 39 = .ok (.iload_n 2, 1) := by decide +kernel
theorem d_M_keyed_40 : decode b_M_keyed 40 = .ok (.aload_n 0, 1) := by decide +kernel
theorem d_M_keyed_41 : decode b_M_keyed 41 = .ok (.getfield 13, 3) := by decide +kernel
theorem d_M_keyed_44 : decode b_M_keyed 44 = .ok (.iload_n 1, 1) := by decide +kernel
theorem d_M_keyed_45 : decode b_M_keyed 45 = .ok (.iaload, 1) := by decide +kernel
theorem d_M_keyed_46 : decode b_M_keyed 46 = .ok (.irem, 1) := by decide +kernel
theorem d_M_keyed_47 : decode b_M_keyed 47 = .ok (.invokevirtual 60, 3) := by decide +kernel
theorem d_M_keyed_50 : decode b_M_keyed 50 = .ok (.bipush 97, 2) := by decide +kernel
theorem d_M_keyed_52 : decode b_M_keyed 52 = .ok (.isub, 1) := by decide +kernel
theorem d_M_keyed_53 : decode b_M_keyed 53 = .ok (.invokestatic 116, 3) := by decide +kernel
theorem d_M_keyed_56 : decode b_M_keyed 56 = .ok (.ireturn, 1) := by decide +kernel
theorem d_M_stands_0 : decode b_M_stands 0 = .ok (.iload_n 2, 1) := by decide +kernel
theorem d_M_stands_1 : decode b_M_stands 1 = .ok (.aload_n 0, 1) := by decide +kernel
theorem d_M_stands_2 : decode b_M_stands 2 = .ok (.getfield 13, 3) := by decide +kernel
theorem d_M_stands_5 : decode b_M_stands 5 = .ok (.iload_n 1, 1) := by decide +kernel
theorem d_M_stands_6 : decode b_M_stands 6 = .ok (.iaload, 1) := by decide +kernel
theorem d_M_stands_7 : decode b_M_stands 7 = .ok (.iadd, 1) := by decide +kernel
theorem d_M_stands_8 : decode b_M_stands 8 = .ok (.aload_n 0, 1) := by decide +kernel
theorem d_M_stands_9 : decode b_M_stands 9 = .ok (.getfield 113, 3) := by decide +kernel
theorem d_M_stands_12 : decode b_M_stands 12 = .ok (.if_icmp .le 5, 3) := by decide +kernel
theorem d_M_stands_15 : decode b_M_stands 15 = .ok (.iconst 0, 1) := by decide +kernel
theorem d_M_stands_16 : decode b_M_stands 16 = .ok (.ireturn, 1) := by decide +kernel
theorem d_M_stands_17 : decode b_M_stands 17 = .ok (.iconst 0, 1) := by decide +kernel
theorem d_M_stands_18 : decode b_M_stands 18 = .ok (.istore_n 3, 1) := by decide +kernel
theorem d_M_stands_19 : decode b_M_stands 19 = .ok (.iload_n 3, 1) := by decide +kernel
theorem d_M_stands_20 : decode b_M_stands 20 = .ok (.aload_n 0, 1) := by decide +kernel
theorem d_M_stands_21 : decode b_M_stands 21 = .ok (.getfield 13, 3) := by decide +kernel
theorem d_M_stands_24 : decode b_M_stands 24 = .ok (.iload_n 1, 1) := by decide +kernel
theorem d_M_stands_25 : decode b_M_stands 25 = .ok (.iaload, 1) := by decide +kernel
theorem d_M_stands_26 : decode b_M_stands 26 = .ok (.if_icmp .ge 28, 3) := by decide +kernel
theorem d_M_stands_29 : decode b_M_stands 29 = .ok (.aload_n 0, 1) := by decide +kernel
theorem d_M_stands_30 : decode b_M_stands 30 = .ok (.getfield 43, 3) := by decide +kernel
theorem d_M_stands_33 : decode b_M_stands 33 = .ok (.iload_n 2, 1) := by decide +kernel
theorem d_M_stands_34 : decode b_M_stands 34 = .ok (.iload_n 3, 1) := by decide +kernel
theorem d_M_stands_35 : decode b_M_stands 35 = .ok (.iadd, 1) := by decide +kernel
theorem d_M_stands_36 : decode b_M_stands 36 = .ok (.iaload, 1) := by decide +kernel
theorem d_M_stands_37 : decode b_M_stands 37 = .ok (.aload_n 0, 1) := by decide +kernel
theorem d_M_stands_38 : decode b_M_stands 38 = .ok (.iload_n 1, 1) := by decide +kernel
theorem d_M_stands_39 : decode b_M_stands 39 = .ok (.iload_n 3, 1) := by decide +kernel
theorem d_M_stands_40 : decode b_M_stands 40 = .ok (.invokevirtual 60, 3) := by decide +kernel
theorem d_M_stands_43 : decode b_M_stands 43 = .ok (.if_icmp .eq 5, 3) := by decide +kernel
theorem d_M_stands_46 : decode b_M_stands 46 = .ok (.iconst 0, 1) := by decide +kernel
theorem d_M_stands_47 : decode b_M_stands 47 = .ok (.ireturn, 1) := by decide +kernel
theorem d_M_stands_48 : decode b_M_stands 48 = .ok (.iinc 3 1, 3) := by decide +kernel
theorem d_M_stands_51 : decode b_M_stands 51 = .ok (.goto (-32), 3) := by decide +kernel
theorem d_M_stands_54 : decode b_M_stands 54 = .ok (.iconst 1, 1) := by decide +kernel
theorem d_M_stands_55 : decode b_M_stands 55 = .ok (.ireturn, 1) := by decide +kernel
theorem d_M_reckon_0 : decode b_M_reckon 0 = .ok (.aload_n 0, 1) := by decide +kernel
theorem d_M_reckon_1 : decode b_M_reckon 1 = .ok (.getfield 46, 3) := by decide +kernel
theorem d_M_reckon_4 : decode b_M_reckon 4 = .ok (.aload_n 0, 1) := by decide +kernel
theorem d_M_reckon_5 : decode b_M_reckon 5 = .ok (.getfield 113, 3) := by decide +kernel
theorem d_M_reckon_8 : decode b_M_reckon 8 = .ok (.iconst 0, 1) := by decide +kernel
theorem d_M_reckon_9 : decode b_M_reckon 9 = .ok (.iastore, 1) := by decide +kernel
theorem d_M_reckon_10 : decode b_M_reckon 10 = .ok (.aload_n 0, 1) := by decide +kernel
theorem d_M_reckon_11 : decode b_M_reckon 11 = .ok (.getfield 113, 3) := by decide +kernel
theorem d_M_reckon_14 : decode b_M_reckon 14 = .ok (.iconst 1, 1) := by decide +kernel
theorem d_M_reckon_15 : decode b_M_reckon 15 = .ok (.isub, 1) := by decide +kernel
theorem d_M_reckon_16 : decode b_M_reckon 16 = .ok (.istore_n 1, 1) := by decide +kernel
theorem d_M_reckon_17 : decode b_M_reckon 17 = .ok (.iload_n 1, 1) := by decide +kernel
theorem d_M_reckon_18 : decode b_M_reckon 18 = .ok (.ifCond .lt 111, 3) := by decide +kernel
theorem d_M_reckon_21 : decode b_M_reckon 21 = .ok (.aload_n 0, 1) := by decide +kernel
theorem d_M_reckon_22 : decode b_M_reckon 22 = .ok (.getfield 46, 3) := by decide +kernel
theorem d_M_reckon_25 : decode b_M_reckon 25 = .ok (.iload_n 1, 1) := by decide +kernel
theorem d_M_reckon_26 : decode b_M_reckon 26 = .ok (.iconst (-1), 1) := by decide +kernel
theorem d_M_reckon_27 : decode b_M_reckon 27 = .ok (.iastore, 1) := by decide +kernel
theorem d_M_reckon_28 : decode b_M_reckon 28 = .ok (.iconst 0, 1) := by decide +kernel
theorem d_M_reckon_29 : decode b_M_reckon 29 = .ok (.istore_n 2, 1) := by decide +kernel
theorem d_M_reckon_30 : decode b_M_reckon 30 = .ok (.iload_n 2, 1) := by decide +kernel
theorem d_M_reckon_31 : decode b_M_reckon 31 = .ok (.aload_n 0, 1) := by decide +kernel
theorem d_M_reckon_32 : decode b_M_reckon 32 = .ok (.getfield 64, 3) := by decide +kernel
theorem d_M_reckon_35 : decode b_M_reckon 35 = .ok (.if_icmp .ge 88, 3) := by decide +kernel
theorem d_M_reckon_38 : decode b_M_reckon 38 = .ok (.aload_n 0, 1) := by decide +kernel
theorem d_M_reckon_39 : decode b_M_reckon 39 = .ok (.iload_n 2, 1) := by decide +kernel
theorem d_M_reckon_40 : decode b_M_reckon 40 = .ok (.iload_n 1, 1) := by decide +kernel
theorem d_M_reckon_41 : decode b_M_reckon 41 = .ok (.invokevirtual 119, 3) := by decide +kernel
theorem d_M_reckon_44 : decode b_M_reckon 44 = .ok (.ifCond .eq 73, 3) := by decide +kernel
theorem d_M_reckon_47 : decode b_M_reckon 47 = .ok (.aload_n 0, 1) := by decide +kernel
theorem d_M_reckon_48 : decode b_M_reckon 48 = .ok (.getfield 46, 3) := by decide +kernel
theorem d_M_reckon_51 : decode b_M_reckon 51 = .ok (.iload_n 1, 1) := by decide +kernel
theorem d_M_reckon_52 : decode b_M_reckon 52 = .ok (.aload_n 0, 1) := by decide +kernel
theorem d_M_reckon_53 : decode b_M_reckon 53 = .ok (.getfield 13, 3) := by decide +kernel
theorem d_M_reckon_56 : decode b_M_reckon 56 = .ok (.iload_n 2, 1) := by decide +kernel
theorem d_M_reckon_57 : decode b_M_reckon 57 = .ok (.iaload, 1) := by decide +kernel
theorem d_M_reckon_58 : decode b_M_reckon 58 = .ok (.iadd, 1) := by decide +kernel
theorem d_M_reckon_59 : decode b_M_reckon 59 = .ok (.iaload, 1) := by decide +kernel
theorem d_M_reckon_60 : decode b_M_reckon 60 = .ok (.ifCond .ge 6, 3) := by decide +kernel
theorem d_M_reckon_63 : decode b_M_reckon 63 = .ok (.goto 54, 3) := by decide +kernel
theorem d_M_reckon_66 : decode b_M_reckon 66 = .ok (.aload_n 0, 1) := by decide +kernel
theorem d_M_reckon_67 : decode b_M_reckon 67 = .ok (.getfield 46, 3) := by decide +kernel
theorem d_M_reckon_70 : decode b_M_reckon 70 = .ok (.iload_n 1, 1) := by decide +kernel
theorem d_M_reckon_71 : decode b_M_reckon 71 = .ok (.aload_n 0, 1) := by decide +kernel
theorem d_M_reckon_72 : decode b_M_reckon 72 = .ok (.getfield 13, 3) := by decide +kernel
theorem d_M_reckon_75 : decode b_M_reckon 75 = .ok (.iload_n 2, 1) := by decide +kernel
theorem d_M_reckon_76 : decode b_M_reckon 76 = .ok (.iaload, 1) := by decide +kernel
theorem d_M_reckon_77 : decode b_M_reckon 77 = .ok (.iadd, 1) := by decide +kernel
theorem d_M_reckon_78 : decode b_M_reckon 78 = .ok (.iaload, 1) := by decide +kernel
theorem d_M_reckon_79 : decode b_M_reckon 79 = .ok (.iconst 1, 1) := by decide +kernel
theorem d_M_reckon_80 : decode b_M_reckon 80 = .ok (.iadd, 1) := by decide +kernel
theorem d_M_reckon_81 : decode b_M_reckon 81 = .ok (.istore_n 3, 1) := by decide +kernel
theorem d_M_reckon_82 : decode b_M_reckon 82 = .ok (.aload_n 0, 1) := by decide +kernel
theorem d_M_reckon_83 : decode b_M_reckon 83 = .ok (.getfield 46, 3) := by decide +kernel
theorem d_M_reckon_86 : decode b_M_reckon 86 = .ok (.iload_n 1, 1) := by decide +kernel
theorem d_M_reckon_87 : decode b_M_reckon 87 = .ok (.aload_n 0, 1) := by decide +kernel
theorem d_M_reckon_88 : decode b_M_reckon 88 = .ok (.getfield 46, 3) := by decide +kernel
theorem d_M_reckon_91 : decode b_M_reckon 91 = .ok (.iload_n 1, 1) := by decide +kernel
theorem d_M_reckon_92 : decode b_M_reckon 92 = .ok (.iaload, 1) := by decide +kernel
theorem d_M_reckon_93 : decode b_M_reckon 93 = .ok (.ifCond .lt 13, 3) := by decide +kernel
theorem d_M_reckon_96 : decode b_M_reckon 96 = .ok (.iload_n 3, 1) := by decide +kernel
theorem d_M_reckon_97 : decode b_M_reckon 97 = .ok (.aload_n 0, 1) := by decide +kernel
theorem d_M_reckon_98 : decode b_M_reckon 98 = .ok (.getfield 46, 3) := by decide +kernel
theorem d_M_reckon_101 : decode b_M_reckon 101 = .ok (.iload_n 1, 1) := by decide +kernel
theorem d_M_reckon_102 : decode b_M_reckon 102 = .ok (.iaload, 1) := by decide +kernel
theorem d_M_reckon_103 : decode b_M_reckon 103 = .ok (.if_icmp .ge 7, 3) := by decide +kernel
theorem d_M_reckon_106 : decode b_M_reckon 106 = .ok (.iload_n 3, 1) := by decide +kernel
theorem d_M_reckon_107 : decode b_M_reckon 107 = .ok (.goto 9, 3) := by decide +kernel
theorem d_M_reckon_110 : decode b_M_reckon 110 = .ok (.aload_n 0, 1) := by decide +kernel
theorem d_M_reckon_111 : decode b_M_reckon 111 = .ok (.getfield 46, 3) := by decide +kernel
theorem d_M_reckon_114 : decode b_M_reckon 114 = .ok (.iload_n 1, 1) := by decide +kernel
theorem d_M_reckon_115 : decode b_M_reckon 115 = .ok (.iaload, 1) := by decide +kernel
theorem d_M_reckon_116 : decode b_M_reckon 116 = .ok (.iastore, 1) := by decide +kernel
theorem d_M_reckon_117 : decode b_M_reckon 117 = .ok (.iinc 2 1, 3) := by decide +kernel
theorem d_M_reckon_120 : decode b_M_reckon 120 = .ok (.goto (-90), 3) := by decide +kernel
theorem d_M_reckon_123 : decode b_M_reckon 123 = .ok (.iinc 1 (-1), 3) := by decide +kernel
theorem d_M_reckon_126 : decode b_M_reckon 126 = .ok (.goto (-109), 3) := by decide +kernel
theorem d_M_reckon_129 : decode b_M_reckon 129 = .ok (.return_, 1) := by decide +kernel
theorem d_M_breaks_0 : decode b_M_breaks 0 = .ok (.aload_n 0, 1) := by decide +kernel
theorem d_M_breaks_1 : decode b_M_breaks 1 = .ok (.iconst 0, 1) := by decide +kernel
theorem d_M_breaks_2 : decode b_M_breaks 2 = .ok (.putfield 49, 3) := by decide +kernel
theorem d_M_breaks_5 : decode b_M_breaks 5 = .ok (.aload_n 0, 1) := by decide +kernel
theorem d_M_breaks_6 : decode b_M_breaks 6 = .ok (.invokevirtual 122, 3) := by decide +kernel
theorem d_M_breaks_9 : decode b_M_breaks 9 = .ok (.aload_n 0, 1) := by decide +kernel
theorem d_M_breaks_10 : decode b_M_breaks 10 = .ok (.getfield 46, 3) := by decide +kernel
theorem d_M_breaks_13 : decode b_M_breaks 13 = .ok (.iconst 0, 1) := by decide +kernel
theorem d_M_breaks_14 : decode b_M_breaks 14 = .ok (.iaload, 1) := by decide +kernel
theorem d_M_breaks_15 : decode b_M_breaks 15 = .ok (.ireturn, 1) := by decide +kernel
theorem d_M_breakAt_0 : decode b_M_breakAt 0 = .ok (.aload_n 0, 1) := by decide +kernel
theorem d_M_breakAt_1 : decode b_M_breakAt 1 = .ok (.iconst 0, 1) := by decide +kernel
theorem d_M_breakAt_2 : decode b_M_breakAt 2 = .ok (.putfield 49, 3) := by decide +kernel
theorem d_M_breakAt_5 : decode b_M_breakAt 5 = .ok (.aload_n 0, 1) := by decide +kernel
theorem d_M_breakAt_6 : decode b_M_breakAt 6 = .ok (.invokevirtual 122, 3) := by decide +kernel
theorem d_M_breakAt_9 : decode b_M_breakAt 9 = .ok (.iload_n 1, 1) := by decide +kernel
theorem d_M_breakAt_10 : decode b_M_breakAt 10 = .ok (.ifCond .lt 13, 3) := by decide +kernel
theorem d_M_breakAt_13 : decode b_M_breakAt 13 = .ok (.iload_n 1, 1) := by decide +kernel
theorem d_M_breakAt_14 : decode b_M_breakAt 14 = .ok (.aload_n 0, 1) := by decide +kernel
theorem d_M_breakAt_15 : decode b_M_breakAt 15 = .ok (.getfield 46, 3) := by decide +kernel
theorem d_M_breakAt_18 : decode b_M_breakAt 18 = .ok (.iconst 0, 1) := by decide +kernel
theorem d_M_breakAt_19 : decode b_M_breakAt 19 = .ok (.iaload, 1) := by decide +kernel
theorem d_M_breakAt_20 : decode b_M_breakAt 20 = .ok (.if_icmp .lt 5, 3) := by decide +kernel
theorem d_M_breakAt_23 : decode b_M_breakAt 23 = .ok (.iconst (-1), 1) := by decide +kernel
theorem d_M_breakAt_24 : decode b_M_breakAt 24 = .ok (.ireturn, 1) := by decide +kernel
theorem d_M_breakAt_25 : decode b_M_breakAt 25 = .ok (.iconst 0, 1) := by decide +kernel
theorem d_M_breakAt_26 : decode b_M_breakAt 26 = .ok (.istore_n 2, 1) := by decide +kernel
theorem d_M_breakAt_27 : decode b_M_breakAt 27 = .ok (.iconst 0, 1) := by decide +kernel
theorem d_M_breakAt_28 : decode b_M_breakAt 28 = .ok (.istore_n 3, 1) := by decide +kernel
theorem d_M_breakAt_29 : decode b_M_breakAt 29 = .ok (.iconst 0, 1) := by decide +kernel
theorem d_M_breakAt_30 : decode b_M_breakAt 30 = .ok (.istore 4, 2) := by decide +kernel
theorem d_M_breakAt_32 : decode b_M_breakAt 32 = .ok (.iload 4, 2) := by decide +kernel
theorem d_M_breakAt_34 : decode b_M_breakAt 34 = .ok (.iload_n 1, 1) := by decide +kernel
theorem d_M_breakAt_35 : decode b_M_breakAt 35 = .ok (.if_icmp .gt 59, 3) := by decide +kernel
theorem d_M_breakAt_38 : decode b_M_breakAt 38 = .ok (.iconst 0, 1) := by decide +kernel
theorem d_M_breakAt_39 : decode b_M_breakAt 39 = .ok (.istore_n 3, 1) := by decide +kernel
theorem d_M_breakAt_40 : decode b_M_breakAt 40 = .ok (.aload_n 0, 1) := by decide +kernel
theorem d_M_breakAt_41 : decode b_M_breakAt 41 = .ok (.iload_n 3, 1) := by decide +kernel
theorem d_M_breakAt_42 : decode b_M_breakAt 42 = .ok (.iload_n 2, 1) := by decide +kernel
theorem d_M_breakAt_43 : decode b_M_breakAt 43 = .ok (.invokevirtual 119, 3) := by decide +kernel
theorem d_M_breakAt_46 : decode b_M_breakAt 46 = .ok (.ifCond .eq 27, 3) := by decide +kernel
theorem d_M_breakAt_49 : decode b_M_breakAt 49 = .ok (.aload_n 0, 1) := by decide +kernel
theorem d_M_breakAt_50 : decode b_M_breakAt 50 = .ok (.getfield 46, 3) := by decide +kernel
theorem d_M_breakAt_53 : decode b_M_breakAt 53 = .ok (.iload_n 2, 1) := by decide +kernel
theorem d_M_breakAt_54 : decode b_M_breakAt 54 = .ok (.aload_n 0, 1) := by decide +kernel
theorem d_M_breakAt_55 : decode b_M_breakAt 55 = .ok (.getfield 13, 3) := by decide +kernel
theorem d_M_breakAt_58 : decode b_M_breakAt 58 = .ok (.iload_n 3, 1) := by decide +kernel
theorem d_M_breakAt_59 : decode b_M_breakAt 59 = .ok (.iaload, 1) := by decide +kernel
theorem d_M_breakAt_60 : decode b_M_breakAt 60 = .ok (.iadd, 1) := by decide +kernel
theorem d_M_breakAt_61 : decode b_M_breakAt 61 = .ok (.iaload, 1) := by decide +kernel
theorem d_M_breakAt_62 : decode b_M_breakAt 62 = .ok (.aload_n 0, 1) := by decide +kernel
theorem d_M_breakAt_63 : decode b_M_breakAt 63 = .ok (.getfield 46, 3) := by decide +kernel
theorem d_M_breakAt_66 : decode b_M_breakAt 66 = .ok (.iload_n 2, 1) := by decide +kernel
theorem d_M_breakAt_67 : decode b_M_breakAt 67 = .ok (.iaload, 1) := by decide +kernel
theorem d_M_breakAt_68 : decode b_M_breakAt 68 = .ok (.iconst 1, 1) := by decide +kernel
theorem d_M_breakAt_69 : decode b_M_breakAt 69 = .ok (.isub, 1) := by decide +kernel
theorem d_M_breakAt_70 : decode b_M_breakAt 70 = .ok (.if_icmp .eq 9, 3) := by decide +kernel
theorem d_M_breakAt_73 : decode b_M_breakAt 73 = .ok (.iinc 3 1, 3) := by decide +kernel
theorem d_M_breakAt_76 : decode b_M_breakAt 76 = .ok (.goto (-36), 3) := by decide +kernel
theorem d_M_breakAt_79 : decode b_M_breakAt 79 = .ok (.iload_n 2, 1) := by decide +kernel
theorem d_M_breakAt_80 : decode b_M_breakAt 80 = .ok (.aload_n 0, 1) := by decide +kernel
theorem d_M_breakAt_81 : decode b_M_breakAt 81 = .ok (.getfield 13, 3) := by decide +kernel
theorem d_M_breakAt_84 : decode b_M_breakAt 84 = .ok (.iload_n 3, 1) := by decide +kernel
theorem d_M_breakAt_85 : decode b_M_breakAt 85 = .ok (.iaload, 1) := by decide +kernel
theorem d_M_breakAt_86 : decode b_M_breakAt 86 = .ok (.iadd, 1) := by decide +kernel
theorem d_M_breakAt_87 : decode b_M_breakAt 87 = .ok (.istore_n 2, 1) := by decide +kernel
theorem d_M_breakAt_88 : decode b_M_breakAt 88 = .ok (.iinc 4 1, 3) := by decide +kernel
theorem d_M_breakAt_91 : decode b_M_breakAt 91 = .ok (.goto (-59), 3) := by decide +kernel
theorem d_M_breakAt_94 : decode b_M_breakAt 94 = .ok (.iload_n 3, 1) := by decide +kernel
theorem d_M_breakAt_95 : decode b_M_breakAt 95 = .ok (.ireturn, 1) := by decide +kernel
theorem d_M_clear_0 : decode b_M_clear 0 = .ok (.aload_n 0, 1) := by decide +kernel
theorem d_M_clear_1 : decode b_M_clear 1 = .ok (.iconst 0, 1) := by decide +kernel
theorem d_M_clear_2 : decode b_M_clear 2 = .ok (.putfield 49, 3) := by decide +kernel
theorem d_M_clear_5 : decode b_M_clear 5 = .ok (.aload_n 0, 1) := by decide +kernel
theorem d_M_clear_6 : decode b_M_clear 6 = .ok (.iconst 0, 1) := by decide +kernel
theorem d_M_clear_7 : decode b_M_clear 7 = .ok (.putfield 74, 3) := by decide +kernel
theorem d_M_clear_10 : decode b_M_clear 10 = .ok (.aload_n 0, 1) := by decide +kernel
theorem d_M_clear_11 : decode b_M_clear 11 = .ok (.iconst 0, 1) := by decide +kernel
theorem d_M_clear_12 : decode b_M_clear 12 = .ok (.putfield 113, 3) := by decide +kernel
theorem d_M_clear_15 : decode b_M_clear 15 = .ok (.aload_n 0, 1) := by decide +kernel
theorem d_M_clear_16 : decode b_M_clear 16 = .ok (.iconst 0, 1) := by decide +kernel
theorem d_M_clear_17 : decode b_M_clear 17 = .ok (.putfield 77, 3) := by decide +kernel
theorem d_M_clear_20 : decode b_M_clear 20 = .ok (.iconst 0, 1) := by decide +kernel
theorem d_M_clear_21 : decode b_M_clear 21 = .ok (.istore_n 1, 1) := by decide +kernel
theorem d_M_clear_22 : decode b_M_clear 22 = .ok (.iload_n 1, 1) := by decide +kernel
theorem d_M_clear_23 : decode b_M_clear 23 = .ok (.bipush 26, 2) := by decide +kernel
theorem d_M_clear_25 : decode b_M_clear 25 = .ok (.if_icmp .ge 16, 3) := by decide +kernel
theorem d_M_clear_28 : decode b_M_clear 28 = .ok (.aload_n 0, 1) := by decide +kernel
theorem d_M_clear_29 : decode b_M_clear 29 = .ok (.getfield 22, 3) := by decide +kernel
theorem d_M_clear_32 : decode b_M_clear 32 = .ok (.iload_n 1, 1) := by decide +kernel
theorem d_M_clear_33 : decode b_M_clear 33 = .ok (.iconst 0, 1) := by decide +kernel
theorem d_M_clear_34 : decode b_M_clear 34 = .ok (.iastore, 1) := by decide +kernel
theorem d_M_clear_35 : decode b_M_clear 35 = .ok (.iinc 1 1, 3) := by decide +kernel
theorem d_M_clear_38 : decode b_M_clear 38 = .ok (.goto (-16), 3) := by decide +kernel
theorem d_M_clear_41 : decode b_M_clear 41 = .ok (.return_, 1) := by decide +kernel
end
section
theorem d_P_init_0 : decode b_P_init 0 = .ok (.aload_n 0, 1) := by decide +kernel
theorem d_P_init_1 : decode b_P_init 1 = .ok (.invokespecial 3, 3) := by decide +kernel
theorem d_P_init_4 : decode b_P_init 4 = .ok (.aload_n 0, 1) := by decide +kernel
theorem d_P_init_5 : decode b_P_init 5 = .ok (.sipush 676, 3) := by decide +kernel
theorem d_P_init_8 : decode b_P_init 8 = .ok (.newarray .int, 2) := by decide +kernel
theorem d_P_init_10 : decode b_P_init 10 = .ok (.putfield 9, 3) := by decide +kernel
theorem d_P_init_13 : decode b_P_init 13 = .ok (.return_, 1) := by decide +kernel
theorem d_P_weigh_0 : decode b_P_weigh 0 = .ok (.iload_n 1, 1) := by decide +kernel
theorem d_P_weigh_1 : decode b_P_weigh 1 = .ok (.invokestatic 15, 3) := by decide +kernel
theorem d_P_weigh_4 : decode b_P_weigh 4 = .ok (.ifCond .eq 24, 3) := by decide +kernel
theorem d_P_weigh_7 : decode b_P_weigh 7 = .ok (.iload_n 2, 1) := by decide +kernel
theorem d_P_weigh_8 : decode b_P_weigh 8 = .ok (.invokestatic 15, 3) := by decide +kernel
theorem d_P_weigh_11 : decode b_P_weigh 11 = .ok (.ifCond .eq 17, 3) := by decide +kernel
theorem d_P_weigh_14 : decode b_P_weigh 14 = .ok (.iload_n 3, 1) := by decide +kernel
theorem d_P_weigh_15 : decode b_P_weigh 15 = .ok (.sipush (-1000), 3) := by decide +kernel
theorem d_P_weigh_18 : decode b_P_weigh 18 = .ok (.if_icmp .lt 10, 3) := by decide +kernel
theorem d_P_weigh_21 : decode b_P_weigh 21 = .ok (.iload_n 3, 1) := by decide +kernel
theorem d_P_weigh_22 : decode b_P_weigh 22 = .ok (.sipush 1000, 3) := by decide +kernel
theorem d_P_weigh_25 : decode b_P_weigh 25 = .ok (.if_icmp .le 5, 3) := by decide +kernel
theorem d_P_weigh_28 : decode b_P_weigh 28 = .ok (.iconst 0, 1) := by decide +kernel
theorem d_P_weigh_29 : decode b_P_weigh 29 = .ok (.ireturn, 1) := by decide +kernel
theorem d_P_weigh_30 : decode b_P_weigh 30 = .ok (.aload_n 0, 1) := by decide +kernel
theorem d_P_weigh_31 : decode b_P_weigh 31 = .ok (.getfield 9, 3) := by decide +kernel
theorem d_P_weigh_34 : decode b_P_weigh 34 = .ok (.iload_n 1, 1) := by decide +kernel
theorem d_P_weigh_35 : decode b_P_weigh 35 = .ok (.bipush 26, 2) := by decide +kernel
theorem d_P_weigh_37 : decode b_P_weigh 37 = .ok (.imul, 1) := by decide +kernel
theorem d_P_weigh_38 : decode b_P_weigh 38 = .ok (.iload_n 2, 1) := by decide +kernel
theorem d_P_weigh_39 : decode b_P_weigh 39 = .ok (.iadd, 1) := by decide +kernel
theorem d_P_weigh_40 : decode b_P_weigh 40 = .ok (.iload_n 3, 1) := by decide +kernel
theorem d_P_weigh_41 : decode b_P_weigh 41 = .ok (.iastore, 1) := by decide +kernel
theorem d_P_weigh_42 : decode b_P_weigh 42 = .ok (.iconst 1, 1) := by decide +kernel
theorem d_P_weigh_43 : decode b_P_weigh 43 = .ok (.ireturn, 1) := by decide +kernel
theorem d_P_weightOf_0 : decode b_P_weightOf 0 = .ok (.iload_n 1, 1) := by decide +kernel
theorem d_P_weightOf_1 : decode b_P_weightOf 1 = .ok (.invokestatic 15, 3) := by decide +kernel
theorem d_P_weightOf_4 : decode b_P_weightOf 4 = .ok (.ifCond .eq 24, 3) := by decide +kernel
theorem d_P_weightOf_7 : decode b_P_weightOf 7 = .ok (.iload_n 2, 1) := by decide +kernel
theorem d_P_weightOf_8 : decode b_P_weightOf 8 = .ok (.invokestatic 15, 3) := by decide +kernel
theorem d_P_weightOf_11 : decode b_P_weightOf 11 = .ok (.ifCond .eq 17, 3) := by decide +kernel
theorem d_P_weightOf_14 : decode b_P_weightOf 14 = .ok (.aload_n 0, 1) := by decide +kernel
theorem d_P_weightOf_15 : decode b_P_weightOf 15 = .ok (.getfield 9, 3) := by decide +kernel
theorem d_P_weightOf_18 : decode b_P_weightOf 18 = .ok (.iload_n 1, 1) := by decide +kernel
theorem d_P_weightOf_19 : decode b_P_weightOf 19 = .ok (.bipush 26, 2) := by decide +kernel
theorem d_P_weightOf_21 : decode b_P_weightOf 21 = .ok (.imul, 1) := by decide +kernel
theorem d_P_weightOf_22 : decode b_P_weightOf 22 = .ok (.iload_n 2, 1) := by decide +kernel
theorem d_P_weightOf_23 : decode b_P_weightOf 23 = .ok (.iadd, 1) := by decide +kernel
theorem d_P_weightOf_24 : decode b_P_weightOf 24 = .ok (.iaload, 1) := by decide +kernel
theorem d_P_weightOf_25 : decode b_P_weightOf 25 = .ok (.goto 4, 3) := by decide +kernel
theorem d_P_weightOf_28 : decode b_P_weightOf 28 = .ok (.iconst 0, 1) := by decide +kernel
theorem d_P_weightOf_29 : decode b_P_weightOf 29 = .ok (.ireturn, 1) := by decide +kernel
end
section
theorem d_R_init_0 : decode b_R_init 0 = .ok (.aload_n 0, 1) := by decide +kernel
theorem d_R_init_1 : decode b_R_init 1 = .ok (.invokespecial 3, 3) := by decide +kernel
theorem d_R_init_4 : decode b_R_init 4 = .ok (.aload_n 0, 1) := by decide +kernel
theorem d_R_init_5 : decode b_R_init 5 = .ok (.sipush 5200, 3) := by decide +kernel
theorem d_R_init_8 : decode b_R_init 8 = .ok (.newarray .int, 2) := by decide +kernel
theorem d_R_init_10 : decode b_R_init 10 = .ok (.putfield 9, 3) := by decide +kernel
theorem d_R_init_13 : decode b_R_init 13 = .ok (.aload_n 0, 1) := by decide +kernel
theorem d_R_init_14 : decode b_R_init 14 = .ok (.sipush 200, 3) := by decide +kernel
theorem d_R_init_17 : decode b_R_init 17 = .ok (.newarray .int, 2) := by decide +kernel
theorem d_R_init_19 : decode b_R_init 19 = .ok (.putfield 15, 3) := by decide +kernel
theorem d_R_init_22 : decode b_R_init 22 = .ok (.aload_n 0, 1) := by decide +kernel
theorem d_R_init_23 : decode b_R_init 23 = .ok (.iconst 0, 1) := by decide +kernel
theorem d_R_init_24 : decode b_R_init 24 = .ok (.putfield 18, 3) := by decide +kernel
theorem d_R_init_27 : decode b_R_init 27 = .ok (.return_, 1) := by decide +kernel
theorem d_R_forget_0 : decode b_R_forget 0 = .ok (.aload_n 0, 1) := by decide +kernel
theorem d_R_forget_1 : decode b_R_forget 1 = .ok (.iconst 0, 1) := by decide +kernel
theorem d_R_forget_2 : decode b_R_forget 2 = .ok (.putfield 18, 3) := by decide +kernel
theorem d_R_forget_5 : decode b_R_forget 5 = .ok (.return_, 1) := by decide +kernel
theorem d_R_size_0 : decode b_R_size 0 = .ok (.aload_n 0, 1) := by decide +kernel
theorem d_R_size_1 : decode b_R_size 1 = .ok (.getfield 18, 3) := by decide +kernel
theorem d_R_size_4 : decode b_R_size 4 = .ok (.ireturn, 1) := by decide +kernel
theorem d_R_has_0 : decode b_R_has 0 = .ok (.iload_n 1, 1) := by decide +kernel
theorem d_R_has_1 : decode b_R_has 1 = .ok (.ifCond .lt 15, 3) := by decide +kernel
theorem d_R_has_4 : decode b_R_has 4 = .ok (.iload_n 1, 1) := by decide +kernel
theorem d_R_has_5 : decode b_R_has 5 = .ok (.aload_n 0, 1) := by decide +kernel
theorem d_R_has_6 : decode b_R_has 6 = .ok (.getfield 18, 3) := by decide +kernel
theorem d_R_has_9 : decode b_R_has 9 = .ok (.if_icmp .ge 7, 3) := by decide +kernel
theorem d_R_has_12 : decode b_R_has 12 = .ok (.iconst 1, 1) := by decide +kernel
theorem d_R_has_13 : decode b_R_has 13 = .ok (.goto 4, 3) := by decide +kernel
theorem d_R_has_16 : decode b_R_has 16 = .ok (.iconst 0, 1) := by decide +kernel
theorem d_R_has_17 : decode b_R_has 17 = .ok (.ireturn, 1) := by decide +kernel
theorem d_R_placeIn_0 : decode b_R_placeIn 0 = .ok (.aload_n 0, 1) := by decide +kernel
theorem d_R_placeIn_1 : decode b_R_placeIn 1 = .ok (.iload_n 1, 1) := by decide +kernel
theorem d_R_placeIn_2 : decode b_R_placeIn 2 = .ok (.invokevirtual 22, 3) := by decide +kernel
theorem d_R_placeIn_5 : decode b_R_placeIn 5 = .ok (.ifCond .eq 29, 3) := by decide +kernel
theorem d_R_placeIn_8 : decode b_R_placeIn 8 = .ok (.iload_n 2, 1) := by decide +kernel
theorem d_R_placeIn_9 : decode b_R_placeIn 9 = .ok (.invokestatic 26, 3) := by decide +kernel
theorem d_R_placeIn_12 : decode b_R_placeIn 12 = .ok (.ifCond .eq 22, 3) := by decide +kernel
theorem d_R_placeIn_15 : decode b_R_placeIn 15 = .ok (.aload_n 0, 1) := by decide +kernel
theorem d_R_placeIn_16 : decode b_R_placeIn 16 = .ok (.getfield 9, 3) := by decide +kernel
theorem d_R_placeIn_19 : decode b_R_placeIn 19 = .ok (.aload_n 0, 1) := by decide +kernel
theorem d_R_placeIn_20 : decode b_R_placeIn 20 = .ok (.getfield 15, 3) := by decide +kernel
theorem d_R_placeIn_23 : decode b_R_placeIn 23 = .ok (.iload_n 1, 1) := by decide +kernel
theorem d_R_placeIn_24 : decode b_R_placeIn 24 = .ok (.iaload, 1) := by decide +kernel
theorem d_R_placeIn_25 : decode b_R_placeIn 25 = .ok (.bipush 26, 2) := by decide +kernel
theorem d_R_placeIn_27 : decode b_R_placeIn 27 = .ok (.imul, 1) := by decide +kernel
theorem d_R_placeIn_28 : decode b_R_placeIn 28 = .ok (.iload_n 2, 1) := by decide +kernel
theorem d_R_placeIn_29 : decode b_R_placeIn 29 = .ok (.iadd, 1) := by decide +kernel
theorem d_R_placeIn_30 : decode b_R_placeIn 30 = .ok (.iaload, 1) := by decide +kernel
theorem d_R_placeIn_31 : decode b_R_placeIn 31 = .ok (.goto 4, 3) := by decide +kernel
theorem d_R_placeIn_34 : decode b_R_placeIn 34 = .ok (.iconst (-1), 1) := by decide +kernel
theorem d_R_placeIn_35 : decode b_R_placeIn 35 = .ok (.ireturn, 1) := by decide +kernel
theorem d_R_commonPlace_0 : decode b_R_commonPlace 0 = .ok (.aload_n 0, 1) := by decide +kernel
theorem d_R_commonPlace_1 : decode b_R_commonPlace 1 = .ok (.iconst 0, 1) := by decide +kernel
theorem d_R_commonPlace_2 : decode b_R_commonPlace 2 = .ok (.iload_n 1, 1) := by decide +kernel
theorem d_R_commonPlace_3 : decode b_R_commonPlace 3 = .ok (.invokevirtual 29, 3) := by decide +kernel
theorem d_R_commonPlace_6 : decode b_R_commonPlace 6 = .ok (.istore_n 2, 1) := by decide +kernel
theorem d_R_commonPlace_7 : decode b_R_commonPlace 7 = .ok (.iconst 1, 1) := by decide +kernel
theorem d_R_commonPlace_8 : decode b_R_commonPlace 8 = .ok (.istore_n 3, 1) := by decide +kernel
theorem d_R_commonPlace_9 : decode b_R_commonPlace 9 = .ok (.iload_n 3, 1) := by decide +kernel
theorem d_R_commonPlace_10 : decode b_R_commonPlace 10 = .ok (.aload_n 0, 1) := by decide +kernel
theorem d_R_commonPlace_11 : decode b_R_commonPlace 11 = .ok (.getfield 18, 3) := by decide +kernel
theorem d_R_commonPlace_14 : decode b_R_commonPlace 14 = .ok (.if_icmp .ge 21, 3) := by decide +kernel
theorem d_R_commonPlace_17 : decode b_R_commonPlace 17 = .ok (.aload_n 0, 1) := by decide +kernel
theorem d_R_commonPlace_18 : decode b_R_commonPlace 18 = .ok (.iload_n 3, 1) := by decide +kernel
theorem d_R_commonPlace_19 : decode b_R_commonPlace 19 = .ok (.iload_n 1, 1) := by decide +kernel
theorem d_R_commonPlace_20 : decode b_R_commonPlace 20 = .ok (.invokevirtual 29, 3) := by decide +kernel
theorem d_R_commonPlace_23 : decode b_R_commonPlace 23 = .ok (.iload_n 2, 1) := by decide +kernel
theorem d_R_commonPlace_24 : decode b_R_commonPlace 24 = .ok (.if_icmp .eq 5, 3) := by decide +kernel
theorem d_R_commonPlace_27 : decode b_R_commonPlace 27 = .ok (.iconst (-1), 1) := by decide +kernel
theorem d_R_commonPlace_28 : decode b_R_commonPlace 28 = .ok (.ireturn, 1) := by decide +kernel
theorem d_R_commonPlace_29 : decode b_R_commonPlace 29 = .ok (.iinc 3 1, 3) := by decide +kernel
theorem d_R_commonPlace_32 : decode b_R_commonPlace 32 = .ok (.goto (-23), 3) := by decide +kernel
theorem d_R_commonPlace_35 : decode b_R_commonPlace 35 = .ok (.iload_n 2, 1) := by decide +kernel
theorem d_R_commonPlace_36 : decode b_R_commonPlace 36 = .ok (.ireturn, 1) := by decide +kernel
theorem d_R_offer_0 : decode b_R_offer 0 = .ok (.aload_n 0, 1) := by decide +kernel
theorem d_R_offer_1 : decode b_R_offer 1 = .ok (.aload_n 1, 1) := by decide +kernel
theorem d_R_offer_2 : decode b_R_offer 2 = .ok (.invokevirtual 33, 3) := by decide +kernel
theorem d_R_offer_5 : decode b_R_offer 5 = .ok (.istore_n 2, 1) := by decide +kernel
theorem d_R_offer_6 : decode b_R_offer 6 = .ok (.iload_n 2, 1) := by decide +kernel
theorem d_R_offer_7 : decode b_R_offer 7 = .ok (.sipush 200, 3) := by decide +kernel
theorem d_R_offer_10 : decode b_R_offer 10 = .ok (.if_icmp .lt 4, 3) := by decide +kernel
theorem d_R_offer_13 : decode b_R_offer 13 = .ok (.return_, 1) := by decide +kernel
theorem d_R_offer_14 : decode b_R_offer 14 = .ok (.aload_n 0, 1) := by decide +kernel
theorem d_R_offer_15 : decode b_R_offer 15 = .ok (.getfield 18, 3) := by decide +kernel
theorem d_R_offer_18 : decode b_R_offer 18 = .ok (.sipush 200, 3) := by decide +kernel
theorem d_R_offer_21 : decode b_R_offer 21 = .ok (.if_icmp .lt 7, 3) := by decide +kernel
theorem d_R_offer_24 : decode b_R_offer 24 = .ok (.iconst 1, 1) := by decide +kernel
theorem d_R_offer_25 : decode b_R_offer 25 = .ok (.goto 4, 3) := by decide +kernel
theorem d_R_offer_28 : decode b_R_offer 28 = .ok (.iconst 0, 1) := by decide +kernel
theorem d_R_offer_29 : decode b_R_offer 29 = .ok (.istore_n 3, 1) := by decide +kernel
theorem d_R_offer_30 : decode b_R_offer 30 = .ok (.iload_n 3, 1) := by decide +kernel
theorem d_R_offer_31 : decode b_R_offer 31 = .ok (.ifCond .eq 14, 3) := by decide +kernel
theorem d_R_offer_34 : decode b_R_offer 34 = .ok (.aload_n 0, 1) := by decide +kernel
theorem d_R_offer_35 : decode b_R_offer 35 = .ok (.getfield 15, 3) := by decide +kernel
theorem d_R_offer_38 : decode b_R_offer 38 = .ok (.sipush 199, 3) := by decide +kernel
theorem d_R_offer_41 : decode b_R_offer 41 = .ok (.iaload, 1) := by decide +kernel
theorem d_R_offer_42 : decode b_R_offer 42 = .ok (.goto 7, 3) := by decide +kernel
theorem d_R_offer_45 : decode b_R_offer 45 = .ok (.aload_n 0, 1) := by decide +kernel
theorem d_R_offer_46 : decode b_R_offer 46 = .ok (.getfield 18, 3) := by decide +kernel
theorem d_R_offer_49 : decode b_R_offer 49 = .ok (.istore 4, 2) := by decide +kernel
theorem d_R_offer_51 : decode b_R_offer 51 = .ok (.iload_n 3, 1) := by decide +kernel
theorem d_R_offer_52 : decode b_R_offer 52 = .ok (.ifCond .eq 9, 3) := by decide +kernel
theorem d_R_offer_55 : decode b_R_offer 55 = .ok (.sipush 199, 3) := by decide +kernel
theorem d_R_offer_58 : decode b_R_offer 58 = .ok (.goto 7, 3) := by decide +kernel
theorem d_R_offer_61 : decode b_R_offer 61 = .ok (.aload_n 0, 1) := by decide +kernel
theorem d_R_offer_62 : decode b_R_offer 62 = .ok (.getfield 18, 3) := by decide +kernel
theorem d_R_offer_65 : decode b_R_offer 65 = .ok (.istore 5, 2) := by decide +kernel
theorem d_R_offer_67 : decode b_R_offer 67 = .ok (.aload_n 0, 1) := by decide +kernel
theorem d_R_offer_68 : decode b_R_offer 68 = .ok (.getfield 15, 3) := by decide +kernel
theorem d_R_offer_71 : decode b_R_offer 71 = .ok (.iload_n 2, 1) := by decide +kernel
theorem d_R_offer_72 : decode b_R_offer 72 = .ok (.aload_n 0, 1) := by decide +kernel
theorem d_R_offer_73 : decode b_R_offer 73 = .ok (.getfield 15, 3) := by decide +kernel
theorem d_R_offer_76 : decode b_R_offer 76 = .ok (.iload_n 2, 1) := by decide +kernel
theorem d_R_offer_77 : decode b_R_offer 77 = .ok (.iconst 1, 1) := by decide +kernel
theorem d_R_offer_78 : decode b_R_offer 78 = .ok (.iadd, 1) := by decide +kernel
theorem d_R_offer_79 : decode b_R_offer 79 = .ok (.iload 5, 2) := by decide +kernel
theorem d_R_offer_81 : decode b_R_offer 81 = .ok (.iload_n 2, 1) := by decide +kernel
theorem d_R_offer_82 : decode b_R_offer 82 = .ok (.isub, 1) := by decide +kernel
theorem d_R_offer_83 : decode b_R_offer 83 = .ok (.invokestatic 37, 3) := by decide +kernel
theorem d_R_offer_86 : decode b_R_offer 86 = .ok (.aload_n 0, 1) := by decide +kernel
theorem d_R_offer_87 : decode b_R_offer 87 = .ok (.getfield 15, 3) := by decide +kernel
theorem d_R_offer_90 : decode b_R_offer 90 = .ok (.iload_n 2, 1) := by decide +kernel
theorem d_R_offer_91 : decode b_R_offer 91 = .ok (.iload 4, 2) := by decide +kernel
theorem d_R_offer_93 : decode b_R_offer 93 = .ok (.iastore, 1) := by decide +kernel
theorem d_R_offer_94 : decode b_R_offer 94 = .ok (.aload_n 1, 1) := by decide +kernel
theorem d_R_offer_95 : decode b_R_offer 95 = .ok (.iconst 0, 1) := by decide +kernel
theorem d_R_offer_96 : decode b_R_offer 96 = .ok (.aload_n 0, 1) := by decide +kernel
theorem d_R_offer_97 : decode b_R_offer 97 = .ok (.getfield 9, 3) := by decide +kernel
theorem d_R_offer_100 : decode b_R_offer 100 = .ok (.iload 4, 2) := by decide +kernel
theorem d_R_offer_102 : decode b_R_offer 102 = .ok (.bipush 26, 2) := by decide +kernel
theorem d_R_offer_104 : decode b_R_offer 104 = .ok (.imul, 1) := by decide +kernel
theorem d_R_offer_105 : decode b_R_offer 105 = .ok (.bipush 26, 2) := by decide +kernel
theorem d_R_offer_107 : decode b_R_offer 107 = .ok (.invokestatic 37, 3) := by decide +kernel
theorem d_R_offer_110 : decode b_R_offer 110 = .ok (.aload_n 0, 1) := by decide +kernel
theorem d_R_offer_111 : decode b_R_offer 111 = .ok (.iload 5, 2) := by decide +kernel
theorem d_R_offer_113 : decode b_R_offer 113 = .ok (.iconst 1, 1) := by decide +kernel
theorem d_R_offer_114 : decode b_R_offer 114 = .ok (.iadd, 1) := by decide +kernel
theorem d_R_offer_115 : decode b_R_offer 115 = .ok (.putfield 18, 3) := by decide +kernel
theorem d_R_offer_118 : decode b_R_offer 118 = .ok (.return_, 1) := by decide +kernel
theorem d_R_positionOf_0 : decode b_R_positionOf 0 = .ok (.aload_n 0, 1) := by decide +kernel
theorem d_R_positionOf_1 : decode b_R_positionOf 1 = .ok (.getfield 18, 3) := by decide +kernel
theorem d_R_positionOf_4 : decode b_R_positionOf 4 = .ok (.ifCond .eq 17, 3) := by decide +kernel
theorem d_R_positionOf_7 : decode b_R_positionOf 7 = .ok (.aload_n 0, 1) := by decide +kernel
theorem d_R_positionOf_8 : decode b_R_positionOf 8 = .ok (.aload_n 0, 1) := by decide +kernel
theorem d_R_positionOf_9 : decode b_R_positionOf 9 = .ok (.getfield 18, 3) := by decide +kernel
theorem d_R_positionOf_12 : decode b_R_positionOf 12 = .ok (.iconst 1, 1) := by decide +kernel
theorem d_R_positionOf_13 : decode b_R_positionOf 13 = .ok (.isub, 1) := by decide +kernel
theorem d_R_positionOf_14 : decode b_R_positionOf 14 = .ok (.aload_n 1, 1) := by decide +kernel
theorem d_R_positionOf_15 : decode b_R_positionOf 15 = .ok (.invokevirtual 43, 3) := by decide +kernel
theorem d_R_positionOf_18 : decode b_R_positionOf 18 = .ok (.ifCond .eq 8, 3) := by decide +kernel
theorem d_R_positionOf_21 : decode b_R_positionOf 21 = .ok (.aload_n 0, 1) := by decide +kernel
theorem d_R_positionOf_22 : decode b_R_positionOf 22 = .ok (.getfield 18, 3) := by decide +kernel
theorem d_R_positionOf_25 : decode b_R_positionOf 25 = .ok (.ireturn, 1) := by decide +kernel
theorem d_R_positionOf_26 : decode b_R_positionOf 26 = .ok (.iconst 0, 1) := by decide +kernel
theorem d_R_positionOf_27 : decode b_R_positionOf 27 = .ok (.istore_n 2, 1) := by decide +kernel
theorem d_R_positionOf_28 : decode b_R_positionOf 28 = .ok (.aload_n 0, 1) := by decide +kernel
theorem d_R_positionOf_29 : decode b_R_positionOf 29 = .ok (.getfield 18, 3) := by decide +kernel
theorem d_R_positionOf_32 : decode b_R_positionOf 32 = .ok (.iconst 1, 1) := by decide +kernel
theorem d_R_positionOf_33 : decode b_R_positionOf 33 = .ok (.isub, 1) := by decide +kernel
theorem d_R_positionOf_34 : decode b_R_positionOf 34 = .ok (.istore_n 3, 1) := by decide +kernel
theorem d_R_positionOf_35 : decode b_R_positionOf 35 = .ok (.iload_n 2, 1) := by decide +kernel
theorem d_R_positionOf_36 : decode b_R_positionOf 36 = .ok (.iload_n 3, 1) := by decide +kernel
theorem d_R_positionOf_37 : decode b_R_positionOf 37 = .ok (.if_icmp .ge 34, 3) := by decide +kernel
theorem d_R_positionOf_40 : decode b_R_positionOf 40 = .ok (.iload_n 2, 1) := by decide +kernel
theorem d_R_positionOf_41 : decode b_R_positionOf 41 = .ok (.iload_n 3, 1) := by decide +kernel
theorem d_R_positionOf_42 : decode b_R_positionOf 42 = .ok (.iadd, 1) := by decide +kernel
theorem d_R_positionOf_43 : decode b_R_positionOf 43 = .ok (.iconst 2, 1) := by decide +kernel
theorem d_R_positionOf_44 : decode b_R_positionOf 44 = .ok (.idiv, 1) := by decide +kernel
theorem d_R_positionOf_45 : decode b_R_positionOf 45 = .ok (.istore 4, 2) := by decide +kernel
theorem d_R_positionOf_47 : decode b_R_positionOf 47 = .ok (.aload_n 0, 1) := by decide +kernel
theorem d_R_positionOf_48 : decode b_R_positionOf 48 = .ok (.iload 4, 2) := by decide +kernel
theorem d_R_positionOf_50 : decode b_R_positionOf 50 = .ok (.aload_n 1, 1) := by decide +kernel
theorem d_R_positionOf_51 : decode b_R_positionOf 51 = .ok (.invokevirtual 43, 3) := by decide +kernel
theorem d_R_positionOf_54 : decode b_R_positionOf 54 = .ok (.ifCond .eq 11, 3) := by decide +kernel
theorem d_R_positionOf_57 : decode b_R_positionOf 57 = .ok (.iload 4, 2) := by decide +kernel
theorem d_R_positionOf_59 : decode b_R_positionOf 59 = .ok (.iconst 1, 1) := by decide +kernel
theorem d_R_positionOf_60 : decode b_R_positionOf 60 = .ok (.iadd, 1) := by decide +kernel
theorem d_R_positionOf_61 : decode b_R_positionOf 61 = .ok (.istore_n 2, 1) := by decide +kernel
theorem d_R_positionOf_62 : decode b_R_positionOf 62 = .ok (.goto 6, 3) := by decide +kernel
theorem d_R_positionOf_65 : decode b_R_positionOf 65 = .ok (.iload 4, 2) := by decide +kernel
theorem d_R_positionOf_67 : decode b_R_positionOf 67 = .ok (.istore_n 3, 1) := by decide +kernel
theorem d_R_positionOf_68 : decode b_R_positionOf 68 = .ok (.goto (-33), 3) := by decide +kernel
theorem d_R_positionOf_71 : decode b_R_positionOf 71 = .ok (.iload_n 2, 1) := by decide +kernel
theorem d_R_positionOf_72 : decode b_R_positionOf 72 = .ok (.ireturn, 1) := by decide +kernel
theorem d_R_isAhead_0 : decode b_R_isAhead 0 = .ok (.aload_n 0, 1) := by decide +kernel
theorem d_R_isAhead_1 : decode b_R_isAhead 1 = .ok (.getfield 15, 3) := by decide +kernel
theorem d_R_isAhead_4 : decode b_R_isAhead 4 = .ok (.iload_n 1, 1) := by decide +kernel
theorem d_R_isAhead_5 : decode b_R_isAhead 5 = .ok (.iaload, 1) := by decide +kernel
theorem d_R_isAhead_6 : decode b_R_isAhead 6 = .ok (.bipush 26, 2) := by decide +kernel
theorem d_R_isAhead_8 : decode b_R_isAhead 8 = .ok (.imul, 1) := by decide +kernel
theorem d_R_isAhead_9 : decode b_R_isAhead 9 = .ok (.istore_n 3, 1) := by decide +kernel
theorem d_R_isAhead_10 : decode b_R_isAhead 10 = .ok (.iconst 0, 1) := by decide +kernel
theorem d_R_isAhead_11 : decode b_R_isAhead 11 = .ok (.istore 4, 2) := by decide +kernel
theorem d_R_isAhead_13 : decode b_R_isAhead 13 = .ok (.iload 4, 2) := by decide +kernel
theorem d_R_isAhead_15 : decode b_R_isAhead 15 = .ok (.bipush 26, 2) := by decide +kernel
theorem d_R_isAhead_17 : decode b_R_isAhead 17 = .ok (.if_icmp .ge 44, 3) := by decide +kernel
theorem d_R_isAhead_20 : decode b_R_isAhead 20 = .ok (.aload_n 0, 1) := by decide +kernel
theorem d_R_isAhead_21 : decode b_R_isAhead 21 = .ok (.getfield 9, 3) := by decide +kernel
theorem d_R_isAhead_24 : decode b_R_isAhead 24 = .ok (.iload_n 3, 1) := by decide +kernel
theorem d_R_isAhead_25 : decode b_R_isAhead 25 = .ok (.iload 4, 2) := by decide +kernel
theorem d_R_isAhead_27 : decode b_R_isAhead 27 = .ok (.iadd, 1) := by decide +kernel
theorem d_R_isAhead_28 : decode b_R_isAhead 28 = .ok (.iaload, 1) := by decide +kernel
theorem d_R_isAhead_29 : decode b_R_isAhead 29 = .ok (.istore 5, 2) := by decide +kernel
theorem d_R_isAhead_31 : decode b_R_isAhead 31 = .ok (.iload 5, 2) := by decide +kernel
theorem d_R_isAhead_33 : decode b_R_isAhead 33 = .ok (.aload_n 2, 1) := by decide +kernel
theorem d_R_isAhead_34 : decode b_R_isAhead 34 = .ok (.iload 4, 2) := by decide +kernel
theorem d_R_isAhead_36 : decode b_R_isAhead 36 = .ok (.iaload, 1) := by decide +kernel
theorem d_R_isAhead_37 : decode b_R_isAhead 37 = .ok (.if_icmp .eq 18, 3) := by decide +kernel
theorem d_R_isAhead_40 : decode b_R_isAhead 40 = .ok (.iload 5, 2) := by decide +kernel
theorem d_R_isAhead_42 : decode b_R_isAhead 42 = .ok (.aload_n 2, 1) := by decide +kernel
theorem d_R_isAhead_43 : decode b_R_isAhead 43 = .ok (.iload 4, 2) := by decide +kernel
theorem d_R_isAhead_45 : decode b_R_isAhead 45 = .ok (.iaload, 1) := by decide +kernel
theorem d_R_isAhead_46 : decode b_R_isAhead 46 = .ok (.if_icmp .ge 7, 3) := by decide +kernel
theorem d_R_isAhead_49 : decode b_R_isAhead 49 = .ok (.iconst 1, 1) := by decide +kernel
theorem d_R_isAhead_50 : decode b_R_isAhead 50 = .ok (.goto 4, 3) := by decide +kernel
theorem d_R_isAhead_53 : decode b_R_isAhead 53 = .ok (.iconst 0, 1) := by decide +kernel
theorem d_R_isAhead_54 : decode b_R_isAhead 54 = .ok (.ireturn, 1) := by decide +kernel
theorem d_R_isAhead_55 : decode b_R_isAhead 55 = .ok (.iinc 4 1, 3) := by decide +kernel
theorem d_R_isAhead_58 : decode b_R_isAhead 58 = .ok (.goto (-45), 3) := by decide +kernel
theorem d_R_isAhead_61 : decode b_R_isAhead 61 = .ok (.iconst 0, 1) := by decide +kernel
theorem d_R_isAhead_62 : decode b_R_isAhead 62 = .ok (.ireturn, 1) := by decide +kernel
end
section
theorem d_S_init_0 : decode b_S_init 0 = .ok (.aload_n 0, 1) := by decide +kernel
theorem d_S_init_1 : decode b_S_init 1 = .ok (.invokespecial 3, 3) := by decide +kernel
theorem d_S_init_4 : decode b_S_init 4 = .ok (.aload_n 0, 1) := by decide +kernel
theorem d_S_init_5 : decode b_S_init 5 = .ok (.bipush 26, 2) := by decide +kernel
theorem d_S_init_7 : decode b_S_init 7 = .ok (.newarray .int, 2) := by decide +kernel
theorem d_S_init_9 : decode b_S_init 9 = .ok (.putfield 9, 3) := by decide +kernel
theorem d_S_init_12 : decode b_S_init 12 = .ok (.aload_n 0, 1) := by decide +kernel
theorem d_S_init_13 : decode b_S_init 13 = .ok (.bipush 26, 2) := by decide +kernel
theorem d_S_init_15 : decode b_S_init 15 = .ok (.newarray .boolean, 2) := by decide +kernel
theorem d_S_init_17 : decode b_S_init 17 = .ok (.putfield 15, 3) := by decide +kernel
theorem d_S_init_20 : decode b_S_init 20 = .ok (.aload_n 0, 1) := by decide +kernel
theorem d_S_init_21 : decode b_S_init 21 = .ok (.bipush 26, 2) := by decide +kernel
theorem d_S_init_23 : decode b_S_init 23 = .ok (.newarray .int, 2) := by decide +kernel
theorem d_S_init_25 : decode b_S_init 25 = .ok (.putfield 19, 3) := by decide +kernel
theorem d_S_init_28 : decode b_S_init 28 = .ok (.aload_n 0, 1) := by decide +kernel
theorem d_S_init_29 : decode b_S_init 29 = .ok (.iconst 0, 1) := by decide +kernel
theorem d_S_init_30 : decode b_S_init 30 = .ok (.putfield 22, 3) := by decide +kernel
theorem d_S_init_33 : decode b_S_init 33 = .ok (.aload_n 0, 1) := by decide +kernel
theorem d_S_init_34 : decode b_S_init 34 = .ok (.iconst 0, 1) := by decide +kernel
theorem d_S_init_35 : decode b_S_init 35 = .ok (.putfield 26, 3) := by decide +kernel
theorem d_S_init_38 : decode b_S_init 38 = .ok (.aload_n 0, 1) := by decide +kernel
theorem d_S_init_39 : decode b_S_init 39 = .ok (.iconst 0, 1) := by decide +kernel
theorem d_S_init_40 : decode b_S_init 40 = .ok (.putfield 29, 3) := by decide +kernel
theorem d_S_init_43 : decode b_S_init 43 = .ok (.aload_n 0, 1) := by decide +kernel
theorem d_S_init_44 : decode b_S_init 44 = .ok (.iconst 0, 1) := by decide +kernel
theorem d_S_init_45 : decode b_S_init 45 = .ok (.putfield 32, 3) := by decide +kernel
theorem d_S_init_48 : decode b_S_init 48 = .ok (.aload_n 0, 1) := by decide +kernel
theorem d_S_init_49 : decode b_S_init 49 = .ok (.iconst 0, 1) := by decide +kernel
theorem d_S_init_50 : decode b_S_init 50 = .ok (.putfield 35, 3) := by decide +kernel
theorem d_S_init_53 : decode b_S_init 53 = .ok (.aload_n 0, 1) := by decide +kernel
theorem d_S_init_54 : decode b_S_init 54 = .ok (.aload_n 1, 1) := by decide +kernel
theorem d_S_init_55 : decode b_S_init 55 = .ok (.putfield 39, 3) := by decide +kernel
theorem d_S_init_58 : decode b_S_init 58 = .ok (.aload_n 0, 1) := by decide +kernel
theorem d_S_init_59 : decode b_S_init 59 = .ok (.aload_n 2, 1) := by decide +kernel
theorem d_S_init_60 : decode b_S_init 60 = .ok (.putfield 43, 3) := by decide +kernel
theorem d_S_init_63 : decode b_S_init 63 = .ok (.aload_n 0, 1) := by decide +kernel
theorem d_S_init_64 : decode b_S_init 64 = .ok (.aload_n 3, 1) := by decide +kernel
theorem d_S_init_65 : decode b_S_init 65 = .ok (.putfield 47, 3) := by decide +kernel
theorem d_S_init_68 : decode b_S_init 68 = .ok (.return_, 1) := by decide +kernel
theorem d_S_stepsMade_0 : decode b_S_stepsMade 0 = .ok (.aload_n 0, 1) := by decide +kernel
theorem d_S_stepsMade_1 : decode b_S_stepsMade 1 = .ok (.getfield 29, 3) := by decide +kernel
theorem d_S_stepsMade_4 : decode b_S_stepsMade 4 = .ok (.ireturn, 1) := by decide +kernel
theorem d_S_seekAll_0 : decode b_S_seekAll 0 = .ok (.aload_n 0, 1) := by decide +kernel
theorem d_S_seekAll_1 : decode b_S_seekAll 1 = .ok (.getfield 47, 3) := by decide +kernel
theorem d_S_seekAll_4 : decode b_S_seekAll 4 = .ok (.invokevirtual 51, 3) := by decide +kernel
theorem d_S_seekAll_7 : decode b_S_seekAll 7 = .ok (.aload_n 0, 1) := by decide +kernel
theorem d_S_seekAll_8 : decode b_S_seekAll 8 = .ok (.iload_n 1, 1) := by decide +kernel
theorem d_S_seekAll_9 : decode b_S_seekAll 9 = .ok (.putfield 26, 3) := by decide +kernel
theorem d_S_seekAll_12 : decode b_S_seekAll 12 = .ok (.aload_n 0, 1) := by decide +kernel
theorem d_S_seekAll_13 : decode b_S_seekAll 13 = .ok (.iconst 0, 1) := by decide +kernel
theorem d_S_seekAll_14 : decode b_S_seekAll 14 = .ok (.putfield 29, 3) := by decide +kernel
theorem d_S_seekAll_17 : decode b_S_seekAll 17 = .ok (.aload_n 0, 1) := by decide +kernel
theorem d_S_seekAll_18 : decode b_S_seekAll 18 = .ok (.iconst 0, 1) := by decide +kernel
theorem d_S_seekAll_19 : decode b_S_seekAll 19 = .ok (.putfield 32, 3) := by decide +kernel
theorem d_S_seekAll_22 : decode b_S_seekAll 22 = .ok (.aload_n 0, 1) := by decide +kernel
theorem d_S_seekAll_23 : decode b_S_seekAll 23 = .ok (.iconst 0, 1) := by decide +kernel
theorem d_S_seekAll_24 : decode b_S_seekAll 24 = .ok (.putfield 35, 3) := by decide +kernel
theorem d_S_seekAll_27 : decode b_S_seekAll 27 = .ok (.aload_n 0, 1) := by decide +kernel
theorem d_S_seekAll_28 : decode b_S_seekAll 28 = .ok (.invokevirtual 56, 3) := by decide +kernel
theorem d_S_seekAll_31 : decode b_S_seekAll 31 = .ok (.ifCond .eq 8, 3) := by decide +kernel
theorem d_S_seekAll_34 : decode b_S_seekAll 34 = .ok (.aload_n 0, 1) := by decide +kernel
theorem d_S_seekAll_35 : decode b_S_seekAll 35 = .ok (.iconst 0, 1) := by decide +kernel
theorem d_S_seekAll_36 : decode b_S_seekAll 36 = .ok (.invokevirtual 60, 3) := by decide +kernel
theorem d_S_seekAll_39 : decode b_S_seekAll 39 = .ok (.aload_n 0, 1) := by decide +kernel
theorem d_S_seekAll_40 : decode b_S_seekAll 40 = .ok (.getfield 35, 3) := by decide +kernel
theorem d_S_seekAll_43 : decode b_S_seekAll 43 = .ok (.ifCond .eq 12, 3) := by decide +kernel
theorem d_S_seekAll_46 : decode b_S_seekAll 46 = .ok (.aload_n 0, 1) := by decide +kernel
theorem d_S_seekAll_47 : decode b_S_seekAll 47 = .ok (.getfield 47, 3) := by decide +kernel
theorem d_S_seekAll_50 : decode b_S_seekAll 50 = .ok (.invokevirtual 51, 3) := by decide +kernel
theorem d_S_seekAll_53 : decode b_S_seekAll 53 = .ok (.iconst (-1), 1) := by decide +kernel
theorem d_S_seekAll_54 : decode b_S_seekAll 54 = .ok (.ireturn, 1) := by decide +kernel
theorem d_S_seekAll_55 : decode b_S_seekAll 55 = .ok (.aload_n 0, 1) := by decide +kernel
theorem d_S_seekAll_56 : decode b_S_seekAll 56 = .ok (.getfield 32, 3) := by decide +kernel
theorem d_S_seekAll_59 : decode b_S_seekAll 59 = .ok (.ireturn, 1) := by decide +kernel
theorem d_S_beginWithKept_0 : decode b_S_beginWithKept 0 = .ok (.aload_n 0, 1) := by decide +kernel
theorem d_S_beginWithKept_1 : decode b_S_beginWithKept 1 = .ok (.iconst 0, 1) := by decide +kernel
theorem d_S_beginWithKept_2 : decode b_S_beginWithKept 2 = .ok (.putfield 22, 3) := by decide +kernel
theorem d_S_beginWithKept_5 : decode b_S_beginWithKept 5 = .ok (.aload_n 0, 1) := by decide +kernel
theorem d_S_beginWithKept_6 : decode b_S_beginWithKept 6 = .ok (.getfield 9, 3) := by decide +kernel
theorem d_S_beginWithKept_9 : decode b_S_beginWithKept 9 = .ok (.iconst (-1), 1) := by decide +kernel
theorem d_S_beginWithKept_10 : decode b_S_beginWithKept 10 = .ok (.invokestatic 64, 3) := by decide +kernel
theorem d_S_beginWithKept_13 : decode b_S_beginWithKept 13 = .ok (.iconst 0, 1) := by decide +kernel
theorem d_S_beginWithKept_14 : decode b_S_beginWithKept 14 = .ok (.istore_n 1, 1) := by decide +kernel
theorem d_S_beginWithKept_15 : decode b_S_beginWithKept 15 = .ok (.iload_n 1, 1) := by decide +kernel
theorem d_S_beginWithKept_16 : decode b_S_beginWithKept 16 = .ok (.bipush 26, 2) := by decide +kernel
theorem d_S_beginWithKept_18 : decode b_S_beginWithKept 18 = .ok (.if_icmp .ge 16, 3) := by decide +kernel
theorem d_S_beginWithKept_21 : decode b_S_beginWithKept 21 = .ok (.aload_n 0, 1) := by decide +kernel
theorem d_S_beginWithKept_22 : decode b_S_beginWithKept 22 = .ok (.getfield 15, 3) := by decide +kernel
theorem d_S_beginWithKept_25 : decode b_S_beginWithKept 25 = .ok (.iload_n 1, 1) := by decide +kernel
theorem d_S_beginWithKept_26 : decode b_S_beginWithKept 26 = .ok (.iconst 0, 1) := by decide +kernel
theorem d_S_beginWithKept_27 : decode b_S_beginWithKept 27 = .ok (.bastore, 1) := by decide +kernel
theorem d_S_beginWithKept_28 : decode b_S_beginWithKept 28 = .ok (.iinc 1 1, 3) := by decide +kernel
theorem d_S_beginWithKept_31 : decode b_S_beginWithKept 31 = .ok (.goto (-16), 3) := by decide +kernel
theorem d_S_beginWithKept_34 : decode b_S_beginWithKept 34 = .ok (.iconst 0, 1) := by decide +kernel
theorem d_S_beginWithKept_35 : decode b_S_beginWithKept 35 = .ok (.istore_n 1, 1) := by decide +kernel
theorem d_S_beginWithKept_36 : decode b_S_beginWithKept 36 = .ok (.iload_n 1, 1) := by decide +kernel
theorem d_S_beginWithKept_37 : decode b_S_beginWithKept 37 = .ok (.bipush 26, 2) := by decide +kernel
theorem d_S_beginWithKept_39 : decode b_S_beginWithKept 39 = .ok (.if_icmp .ge 61, 3) := by decide +kernel
theorem d_S_beginWithKept_42 : decode b_S_beginWithKept 42 = .ok (.aload_n 0, 1) := by decide +kernel
theorem d_S_beginWithKept_43 : decode b_S_beginWithKept 43 = .ok (.getfield 43, 3) := by decide +kernel
theorem d_S_beginWithKept_46 : decode b_S_beginWithKept 46 = .ok (.iload_n 1, 1) := by decide +kernel
theorem d_S_beginWithKept_47 : decode b_S_beginWithKept 47 = .ok (.invokevirtual 70, 3) := by decide +kernel
theorem d_S_beginWithKept_50 : decode b_S_beginWithKept 50 = .ok (.istore_n 2, 1) := by decide +kernel
theorem d_S_beginWithKept_51 : decode b_S_beginWithKept 51 = .ok (.aload_n 0, 1) := by decide +kernel
theorem d_S_beginWithKept_52 : decode b_S_beginWithKept 52 = .ok (.getfield 43, 3) := by decide +kernel
theorem d_S_beginWithKept_55 : decode b_S_beginWithKept 55 = .ok (.iload_n 1, 1) := by decide +kernel
theorem d_S_beginWithKept_56 : decode b_S_beginWithKept 56 = .ok (.invokevirtual 76, 3) := by decide +kernel
theorem d_S_beginWithKept_59 : decode b_S_beginWithKept 59 = .ok (.ifCond .eq 35, 3) := by decide +kernel
theorem d_S_beginWithKept_62 : decode b_S_beginWithKept 62 = .ok (.iload_n 2, 1) := by decide +kernel
theorem d_S_beginWithKept_63 : decode b_S_beginWithKept 63 = .ok (.invokestatic 80, 3) := by decide +kernel
theorem d_S_beginWithKept_66 : decode b_S_beginWithKept 66 = .ok (.ifCond .eq 28, 3) := by decide +kernel
theorem d_S_beginWithKept_69 : decode b_S_beginWithKept 69 = .ok (.aload_n 0, 1) := by decide +kernel
theorem d_S_beginWithKept_70 : decode b_S_beginWithKept 70 = .ok (.getfield 15, 3) := by decide +kernel
theorem d_S_beginWithKept_73 : decode b_S_beginWithKept 73 = .ok (.iload_n 2, 1) := by decide +kernel
theorem d_S_beginWithKept_74 : decode b_S_beginWithKept 74 = .ok (.baload, 1) := by decide +kernel
theorem d_S_beginWithKept_75 : decode b_S_beginWithKept 75 = .ok (.ifCond .eq 5, 3) := by decide +kernel
theorem d_S_beginWithKept_78 : decode b_S_beginWithKept 78 = .ok (.iconst 0, 1) := by decide +kernel
theorem d_S_beginWithKept_79 : decode b_S_beginWithKept 79 = .ok (.ireturn, 1) := by decide +kernel
theorem d_S_beginWithKept_80 : decode b_S_beginWithKept 80 = .ok (.aload_n 0, 1) := by decide +kernel
theorem d_S_beginWithKept_81 : decode b_S_beginWithKept 81 = .ok (.getfield 9, 3) := by decide +kernel
theorem d_S_beginWithKept_84 : decode b_S_beginWithKept 84 = .ok (.iload_n 1, 1) := by decide +kernel
theorem d_S_beginWithKept_85 : decode b_S_beginWithKept 85 = .ok (.iload_n 2, 1) := by decide +kernel
theorem d_S_beginWithKept_86 : decode b_S_beginWithKept 86 = .ok (.iastore, 1) := by decide +kernel
theorem d_S_beginWithKept_87 : decode b_S_beginWithKept 87 = .ok (.aload_n 0, 1) := by decide +kernel
theorem d_S_beginWithKept_88 : decode b_S_beginWithKept 88 = .ok (.getfield 15, 3) := by decide +kernel
theorem d_S_beginWithKept_91 : decode b_S_beginWithKept 91 = .ok (.iload_n 2, 1) := by decide +kernel
theorem d_S_beginWithKept_92 : decode b_S_beginWithKept 92 = .ok (.iconst 1, 1) := by decide +kernel
theorem d_S_beginWithKept_93 : decode b_S_beginWithKept 93 = .ok (.bastore, 1) := by decide +kernel
theorem d_S_beginWithKept_94 : decode b_S_beginWithKept 94 = .ok (.iinc 1 1, 3) := by decide +kernel
theorem d_S_beginWithKept_97 : decode b_S_beginWithKept 97 = .ok (.goto (-61), 3) := by decide +kernel
theorem d_S_beginWithKept_100 : decode b_S_beginWithKept 100 = .ok (.iconst 1, 1) := by decide +kernel
theorem d_S_beginWithKept_101 : decode b_S_beginWithKept 101 = .ok (.ireturn, 1) := by decide +kernel
theorem d_S_seekFrom_0 : decode b_S_seekFrom 0 = .ok (.iload_n 1, 1) := by decide +kernel
theorem d_S_seekFrom_1 : decode b_S_seekFrom 1 = .ok (.aload_n 0, 1) := by decide +kernel
theorem d_S_seekFrom_2 : decode b_S_seekFrom 2 = .ok (.getfield 43, 3) := by decide +kernel
theorem d_S_seekFrom_5 : decode b_S_seekFrom 5 = .ok (.invokevirtual 83, 3) := by decide +kernel
theorem d_S_seekFrom_8 : decode b_S_seekFrom 8 = .ok (.if_icmp .lt 25, 3) := by decide +kernel
theorem d_S_seekFrom_11 : decode b_S_seekFrom 11 = .ok (.aload_n 0, 1) := by decide +kernel
theorem d_S_seekFrom_12 : decode b_S_seekFrom 12 = .ok (.dup, 1) := by decide +kernel
theorem d_S_seekFrom_13 : decode b_S_seekFrom 13 = .ok (.getfield 32, 3) := by decide +kernel
theorem d_S_seekFrom_16 : decode b_S_seekFrom 16 = .ok (.iconst 1, 1) := by decide +kernel
theorem d_S_seekFrom_17 : decode b_S_seekFrom 17 = .ok (.iadd, 1) := by decide +kernel
theorem d_S_seekFrom_18 : decode b_S_seekFrom 18 = .ok (.putfield 32, 3) := by decide +kernel
theorem d_S_seekFrom_21 : decode b_S_seekFrom 21 = .ok (.aload_n 0, 1) := by decide +kernel
theorem d_S_seekFrom_22 : decode b_S_seekFrom 22 = .ok (.getfield 47, 3) := by decide +kernel
theorem d_S_seekFrom_25 : decode b_S_seekFrom 25 = .ok (.aload_n 0, 1) := by decide +kernel
theorem d_S_seekFrom_26 : decode b_S_seekFrom 26 = .ok (.getfield 9, 3) := by decide +kernel
theorem d_S_seekFrom_29 : decode b_S_seekFrom 29 = .ok (.invokevirtual 87, 3) := by decide +kernel
theorem d_S_seekFrom_32 : decode b_S_seekFrom 32 = .ok (.return_, 1) := by decide +kernel
theorem d_S_seekFrom_33 : decode b_S_seekFrom 33 = .ok (.aload_n 0, 1) := by decide +kernel
theorem d_S_seekFrom_34 : decode b_S_seekFrom 34 = .ok (.getfield 43, 3) := by decide +kernel
theorem d_S_seekFrom_37 : decode b_S_seekFrom 37 = .ok (.iload_n 1, 1) := by decide +kernel
theorem d_S_seekFrom_38 : decode b_S_seekFrom 38 = .ok (.invokevirtual 91, 3) := by decide +kernel
theorem d_S_seekFrom_41 : decode b_S_seekFrom 41 = .ok (.istore_n 2, 1) := by decide +kernel
theorem d_S_seekFrom_42 : decode b_S_seekFrom 42 = .ok (.iconst 0, 1) := by decide +kernel
theorem d_S_seekFrom_43 : decode b_S_seekFrom 43 = .ok (.istore_n 3, 1) := by decide +kernel
theorem d_S_seekFrom_44 : decode b_S_seekFrom 44 = .ok (.iload_n 3, 1) := by decide +kernel
theorem d_S_seekFrom_45 : decode b_S_seekFrom 45 = .ok (.aload_n 0, 1) := by decide +kernel
theorem d_S_seekFrom_46 : decode b_S_seekFrom 46 = .ok (.getfield 39, 3) := by decide +kernel
theorem d_S_seekFrom_49 : decode b_S_seekFrom 49 = .ok (.invokevirtual 94, 3) := by decide +kernel
theorem d_S_seekFrom_52 : decode b_S_seekFrom 52 = .ok (.if_icmp .ge 34, 3) := by decide +kernel
theorem d_S_seekFrom_55 : decode b_S_seekFrom 55 = .ok (.aload_n 0, 1) := by decide +kernel
theorem d_S_seekFrom_56 : decode b_S_seekFrom 56 = .ok (.getfield 35, 3) := by decide +kernel
theorem d_S_seekFrom_59 : decode b_S_seekFrom 59 = .ok (.ifCond .ne 27, 3) := by decide +kernel
theorem d_S_seekFrom_62 : decode b_S_seekFrom 62 = .ok (.aload_n 0, 1) := by decide +kernel
theorem d_S_seekFrom_63 : decode b_S_seekFrom 63 = .ok (.getfield 39, 3) := by decide +kernel
theorem d_S_seekFrom_66 : decode b_S_seekFrom 66 = .ok (.iload_n 3, 1) := by decide +kernel
theorem d_S_seekFrom_67 : decode b_S_seekFrom 67 = .ok (.invokevirtual 99, 3) := by decide +kernel
theorem d_S_seekFrom_70 : decode b_S_seekFrom 70 = .ok (.iload_n 2, 1) := by decide +kernel
theorem d_S_seekFrom_71 : decode b_S_seekFrom 71 = .ok (.if_icmp .ne 9, 3) := by decide +kernel
theorem d_S_seekFrom_74 : decode b_S_seekFrom 74 = .ok (.aload_n 0, 1) := by decide +kernel
theorem d_S_seekFrom_75 : decode b_S_seekFrom 75 = .ok (.iload_n 1, 1) := by decide +kernel
theorem d_S_seekFrom_76 : decode b_S_seekFrom 76 = .ok (.iload_n 3, 1) := by decide +kernel
theorem d_S_seekFrom_77 : decode b_S_seekFrom 77 = .ok (.invokevirtual 102, 3) := by decide +kernel
theorem d_S_seekFrom_80 : decode b_S_seekFrom 80 = .ok (.iinc 3 1, 3) := by decide +kernel
theorem d_S_seekFrom_83 : decode b_S_seekFrom 83 = .ok (.goto (-39), 3) := by decide +kernel
theorem d_S_seekFrom_86 : decode b_S_seekFrom 86 = .ok (.return_, 1) := by decide +kernel
theorem d_S_tryWord_0 : decode b_S_tryWord 0 = .ok (.aload_n 0, 1) := by decide +kernel
theorem d_S_tryWord_1 : decode b_S_tryWord 1 = .ok (.getfield 29, 3) := by decide +kernel
theorem d_S_tryWord_4 : decode b_S_tryWord 4 = .ok (.aload_n 0, 1) := by decide +kernel
theorem d_S_tryWord_5 : decode b_S_tryWord 5 = .ok (.getfield 26, 3) := by decide +kernel
theorem d_S_tryWord_8 : decode b_S_tryWord 8 = .ok (.if_icmp .lt 9, 3) := by decide +kernel
theorem d_S_tryWord_11 : decode b_S_tryWord 11 = .ok (.aload_n 0, 1) := by decide +kernel
theorem d_S_tryWord_12 : decode b_S_tryWord 12 = .ok (.iconst 1, 1) := by decide +kernel
theorem d_S_tryWord_13 : decode b_S_tryWord 13 = .ok (.putfield 35, 3) := by decide +kernel
theorem d_S_tryWord_16 : decode b_S_tryWord 16 = .ok (.return_, 1) := by decide +kernel
theorem d_S_tryWord_17 : decode b_S_tryWord 17 = .ok (.aload_n 0, 1) := by decide +kernel
theorem d_S_tryWord_18 : decode b_S_tryWord 18 = .ok (.dup, 1) := by decide +kernel
theorem d_S_tryWord_19 : decode b_S_tryWord 19 = .ok (.getfield 29, 3) := by decide +kernel
theorem d_S_tryWord_22 : decode b_S_tryWord 22 = .ok (.iconst 1, 1) := by decide +kernel
theorem d_S_tryWord_23 : decode b_S_tryWord 23 = .ok (.iadd, 1) := by decide +kernel
theorem d_S_tryWord_24 : decode b_S_tryWord 24 = .ok (.putfield 29, 3) := by decide +kernel
theorem d_S_tryWord_27 : decode b_S_tryWord 27 = .ok (.aload_n 0, 1) := by decide +kernel
theorem d_S_tryWord_28 : decode b_S_tryWord 28 = .ok (.getfield 22, 3) := by decide +kernel
theorem d_S_tryWord_31 : decode b_S_tryWord 31 = .ok (.istore_n 3, 1) := by decide +kernel
theorem d_S_tryWord_32 : decode b_S_tryWord 32 = .ok (.aload_n 0, 1) := by decide +kernel
theorem d_S_tryWord_33 : decode b_S_tryWord 33 = .ok (.iload_n 1, 1) := by decide +kernel
theorem d_S_tryWord_34 : decode b_S_tryWord 34 = .ok (.iload_n 2, 1) := by decide +kernel
theorem d_S_tryWord_35 : decode b_S_tryWord 35 = .ok (.invokevirtual 106, 3) := by decide +kernel
theorem d_S_tryWord_38 : decode b_S_tryWord 38 = .ok (.ifCond .eq 10, 3) := by decide +kernel
theorem d_S_tryWord_41 : decode b_S_tryWord 41 = .ok (.aload_n 0, 1) := by decide +kernel
theorem d_S_tryWord_42 : decode b_S_tryWord 42 = .ok (.iload_n 1, 1) := by decide +kernel
theorem d_S_tryWord_43 : decode b_S_tryWord 43 = .ok (.iconst 1, 1) := by decide +kernel
theorem d_S_tryWord_44 : decode b_S_tryWord 44 = .ok (.iadd, 1) := by decide +kernel
theorem d_S_tryWord_45 : decode b_S_tryWord 45 = .ok (.invokevirtual 60, 3) := by decide +kernel
theorem d_S_tryWord_48 : decode b_S_tryWord 48 = .ok (.aload_n 0, 1) := by decide +kernel
theorem d_S_tryWord_49 : decode b_S_tryWord 49 = .ok (.iload_n 3, 1) := by decide +kernel
theorem d_S_tryWord_50 : decode b_S_tryWord 50 = .ok (.invokevirtual 110, 3) := by decide +kernel
theorem d_S_tryWord_53 : decode b_S_tryWord 53 = .ok (.return_, 1) := by decide +kernel
theorem d_S_agrees_0 : decode b_S_agrees 0 = .ok (.aload_n 0, 1) := by decide +kernel
theorem d_S_agrees_1 : decode b_S_agrees 1 = .ok (.getfield 39, 3) := by decide +kernel
theorem d_S_agrees_4 : decode b_S_agrees 4 = .ok (.iload_n 2, 1) := by decide +kernel
theorem d_S_agrees_5 : decode b_S_agrees 5 = .ok (.invokevirtual 99, 3) := by decide +kernel
theorem d_S_agrees_8 : decode b_S_agrees 8 = .ok (.istore_n 3, 1) := by decide +kernel
theorem d_S_agrees_9 : decode b_S_agrees 9 = .ok (.iconst 0, 1) := by decide +kernel
theorem d_S_agrees_10 : decode b_S_agrees 10 = .ok (.istore 4, 2) := by decide +kernel
theorem d_S_agrees_12 : decode b_S_agrees 12 = .ok (.iload 4, 2) := by decide +kernel
theorem d_S_agrees_14 : decode b_S_agrees 14 = .ok (.iload_n 3, 1) := by decide +kernel
theorem d_S_agrees_15 : decode b_S_agrees 15 = .ok (.if_icmp .ge 38, 3) := by decide +kernel
theorem d_S_agrees_18 : decode b_S_agrees 18 = .ok (.aload_n 0, 1) := by decide +kernel
theorem d_S_agrees_19 : decode b_S_agrees 19 = .ok (.aload_n 0, 1) := by decide +kernel
theorem d_S_agrees_20 : decode b_S_agrees 20 = .ok (.getfield 43, 3) := by decide +kernel
theorem d_S_agrees_23 : decode b_S_agrees 23 = .ok (.iload_n 1, 1) := by decide +kernel
theorem d_S_agrees_24 : decode b_S_agrees 24 = .ok (.iload 4, 2) := by decide +kernel
theorem d_S_agrees_26 : decode b_S_agrees 26 = .ok (.invokevirtual 113, 3) := by decide +kernel
theorem d_S_agrees_29 : decode b_S_agrees 29 = .ok (.aload_n 0, 1) := by decide +kernel
theorem d_S_agrees_30 : decode b_S_agrees 30 = .ok (.getfield 39, 3) := by decide +kernel
theorem d_S_agrees_33 : decode b_S_agrees 33 = .ok (.iload_n 2, 1) := by decide +kernel
theorem d_S_agrees_34 : decode b_S_agrees 34 = .ok (.iload 4, 2) := by decide +kernel
theorem d_S_agrees_36 : decode b_S_agrees 36 = .ok (.invokevirtual 117, 3) := by decide +kernel
theorem d_S_agrees_39 : decode b_S_agrees 39 = .ok (.invokevirtual 120, 3) := by decide +kernel
theorem d_S_agrees_42 : decode b_S_agrees 42 = .ok (.ifCond .ne 5, 3) := by decide +kernel
theorem d_S_agrees_45 : decode b_S_agrees 45 = .ok (.iconst 0, 1) := by decide +kernel
theorem d_S_agrees_46 : decode b_S_agrees 46 = .ok (.ireturn, 1) := by decide +kernel
theorem d_S_agrees_47 : decode b_S_agrees 47 = .ok (.iinc 4 1, 3) := by decide +kernel
theorem d_S_agrees_50 : decode b_S_agrees 50 = .ok (.goto (-38), 3) := by decide +kernel
theorem d_S_agrees_53 : decode b_S_agrees 53 = .ok (.iconst 1, 1) := by decide +kernel
theorem d_S_agrees_54 : decode b_S_agrees 54 = .ok (.ireturn, 1) := by decide +kernel
theorem d_S_give_0 : decode b_S_give 0 = .ok (.iload_n 1, 1) := by decide +kernel
theorem d_S_give_1 : decode b_S_give 1 = .ok (.invokestatic 123, 3) := by decide +kernel
theorem d_S_give_4 : decode b_S_give 4 = .ok (.ifCond .eq 10, 3) := by decide +kernel
theorem d_S_give_7 : decode b_S_give 7 = .ok (.iload_n 2, 1) := by decide +kernel
theorem d_S_give_8 : decode b_S_give 8 = .ok (.invokestatic 80, 3) := by decide +kernel
theorem d_S_give_11 : decode b_S_give 11 = .ok (.ifCond .ne 5, 3) := by decide +kernel
theorem d_S_give_14 : decode b_S_give 14 = .ok (.iconst 0, 1) := by decide +kernel
theorem d_S_give_15 : decode b_S_give 15 = .ok (.ireturn, 1) := by decide +kernel
theorem d_S_give_16 : decode b_S_give 16 = .ok (.aload_n 0, 1) := by decide +kernel
theorem d_S_give_17 : decode b_S_give 17 = .ok (.getfield 9, 3) := by decide +kernel
theorem d_S_give_20 : decode b_S_give 20 = .ok (.iload_n 1, 1) := by decide +kernel
theorem d_S_give_21 : decode b_S_give 21 = .ok (.iaload, 1) := by decide +kernel
theorem d_S_give_22 : decode b_S_give 22 = .ok (.iload_n 2, 1) := by decide +kernel
theorem d_S_give_23 : decode b_S_give 23 = .ok (.if_icmp .ne 5, 3) := by decide +kernel
theorem d_S_give_26 : decode b_S_give 26 = .ok (.iconst 1, 1) := by decide +kernel
theorem d_S_give_27 : decode b_S_give 27 = .ok (.ireturn, 1) := by decide +kernel
theorem d_S_give_28 : decode b_S_give 28 = .ok (.aload_n 0, 1) := by decide +kernel
theorem d_S_give_29 : decode b_S_give 29 = .ok (.getfield 9, 3) := by decide +kernel
theorem d_S_give_32 : decode b_S_give 32 = .ok (.iload_n 1, 1) := by decide +kernel
theorem d_S_give_33 : decode b_S_give 33 = .ok (.iaload, 1) := by decide +kernel
theorem d_S_give_34 : decode b_S_give 34 = .ok (.iconst (-1), 1) := by decide +kernel
theorem d_S_give_35 : decode b_S_give 35 = .ok (.if_icmp .ne 21, 3) := by decide +kernel
theorem d_S_give_38 : decode b_S_give 38 = .ok (.aload_n 0, 1) := by decide +kernel
theorem d_S_give_39 : decode b_S_give 39 = .ok (.getfield 15, 3) := by decide +kernel
theorem d_S_give_42 : decode b_S_give 42 = .ok (.iload_n 2, 1) := by decide +kernel
theorem d_S_give_43 : decode b_S_give 43 = .ok (.baload, 1) := by decide +kernel
theorem d_S_give_44 : decode b_S_give 44 = .ok (.ifCond .ne 12, 3) := by decide +kernel
theorem d_S_give_47 : decode b_S_give 47 = .ok (.aload_n 0, 1) := by decide +kernel
theorem d_S_give_48 : decode b_S_give 48 = .ok (.getfield 22, 3) := by decide +kernel
theorem d_S_give_51 : decode b_S_give 51 = .ok (.bipush 26, 2) := by decide +kernel
theorem d_S_give_53 : decode b_S_give 53 = .ok (.if_icmp .lt 5, 3) := by decide +kernel
theorem d_S_give_56 : decode b_S_give 56 = .ok (.iconst 0, 1) := by decide +kernel
theorem d_S_give_57 : decode b_S_give 57 = .ok (.ireturn, 1) := by decide +kernel
theorem d_S_give_58 : decode b_S_give 58 = .ok (.aload_n 0, 1) := by decide +kernel
theorem d_S_give_59 : decode b_S_give 59 = .ok (.getfield 9, 3) := by decide +kernel
theorem d_S_give_62 : decode b_S_give 62 = .ok (.iload_n 1, 1) := by decide +kernel
theorem d_S_give_63 : decode b_S_give 63 = .ok (.iload_n 2, 1) := by decide +kernel
theorem d_S_give_64 : decode b_S_give 64 = .ok (.iastore, 1) := by decide +kernel
theorem d_S_give_65 : decode b_S_give 65 = .ok (.aload_n 0, 1) := by decide +kernel
theorem d_S_give_66 : decode b_S_give 66 = .ok (.getfield 15, 3) := by decide +kernel
theorem d_S_give_69 : decode b_S_give 69 = .ok (.iload_n 2, 1) := by decide +kernel
theorem d_S_give_70 : decode b_S_give 70 = .ok (.iconst 1, 1) := by decide +kernel
theorem d_S_give_71 : decode b_S_give 71 = .ok (.bastore, 1) := by decide +kernel
theorem d_S_give_72 : decode b_S_give 72 = .ok (.aload_n 0, 1) := by decide +kernel
theorem d_S_give_73 : decode b_S_give 73 = .ok (.getfield 19, 3) := by decide +kernel
theorem d_S_give_76 : decode b_S_give 76 = .ok (.aload_n 0, 1) := by decide +kernel
theorem d_S_give_77 : decode b_S_give 77 = .ok (.getfield 22, 3) := by decide +kernel
theorem d_S_give_80 : decode b_S_give 80 = .ok (.iload_n 1, 1) := by decide +kernel
theorem d_S_give_81 : decode b_S_give 81 = .ok (.iastore, 1) := by decide +kernel
theorem d_S_give_82 : decode b_S_give 82 = .ok (.aload_n 0, 1) := by decide +kernel
theorem d_S_give_83 : decode b_S_give 83 = .ok (.dup, 1) := by decide +kernel
theorem d_S_give_84 : decode b_S_give 84 = .ok (.getfield 22, 3) := by decide +kernel
theorem d_S_give_87 : decode b_S_give 87 = .ok (.iconst 1, 1) := by decide +kernel
theorem d_S_give_88 : decode b_S_give 88 = .ok (.iadd, 1) := by decide +kernel
theorem d_S_give_89 : decode b_S_give 89 = .ok (.putfield 22, 3) := by decide +kernel
theorem d_S_give_92 : decode b_S_give 92 = .ok (.iconst 1, 1) := by decide +kernel
theorem d_S_give_93 : decode b_S_give 93 = .ok (.ireturn, 1) := by decide +kernel
theorem d_S_takeBack_0 : decode b_S_takeBack 0 = .ok (.aload_n 0, 1) := by decide +kernel
theorem d_S_takeBack_1 : decode b_S_takeBack 1 = .ok (.getfield 22, 3) := by decide +kernel
theorem d_S_takeBack_4 : decode b_S_takeBack 4 = .ok (.iconst 1, 1) := by decide +kernel
theorem d_S_takeBack_5 : decode b_S_takeBack 5 = .ok (.isub, 1) := by decide +kernel
theorem d_S_takeBack_6 : decode b_S_takeBack 6 = .ok (.istore_n 2, 1) := by decide +kernel
theorem d_S_takeBack_7 : decode b_S_takeBack 7 = .ok (.iload_n 2, 1) := by decide +kernel
theorem d_S_takeBack_8 : decode b_S_takeBack 8 = .ok (.iload_n 1, 1) := by decide +kernel
theorem d_S_takeBack_9 : decode b_S_takeBack 9 = .ok (.if_icmp .lt 47, 3) := by decide +kernel
theorem d_S_takeBack_12 : decode b_S_takeBack 12 = .ok (.aload_n 0, 1) := by decide +kernel
theorem d_S_takeBack_13 : decode b_S_takeBack 13 = .ok (.getfield 19, 3) := by decide +kernel
theorem d_S_takeBack_16 : decode b_S_takeBack 16 = .ok (.iload_n 2, 1) := by decide +kernel
theorem d_S_takeBack_17 : decode b_S_takeBack 17 = .ok (.iaload, 1) := by decide +kernel
theorem d_S_takeBack_18 : decode b_S_takeBack 18 = .ok (.istore_n 3, 1) := by decide +kernel
theorem d_S_takeBack_19 : decode b_S_takeBack 19 = .ok (.aload_n 0, 1) := by decide +kernel
theorem d_S_takeBack_20 : decode b_S_takeBack 20 = .ok (.getfield 9, 3) := by decide +kernel
theorem d_S_takeBack_23 : decode b_S_takeBack 23 = .ok (.iload_n 3, 1) := by decide +kernel
theorem d_S_takeBack_24 : decode b_S_takeBack 24 = .ok (.iaload, 1) := by decide +kernel
theorem d_S_takeBack_25 : decode b_S_takeBack 25 = .ok (.istore 4, 2) := by decide +kernel
theorem d_S_takeBack_27 : decode b_S_takeBack 27 = .ok (.iload 4, 2) := by decide +kernel
theorem d_S_takeBack_29 : decode b_S_takeBack 29 = .ok (.invokestatic 80, 3) := by decide +kernel
theorem d_S_takeBack_32 : decode b_S_takeBack 32 = .ok (.ifCond .eq 11, 3) := by decide +kernel
theorem d_S_takeBack_35 : decode b_S_takeBack 35 = .ok (.aload_n 0, 1) := by decide +kernel
theorem d_S_takeBack_36 : decode b_S_takeBack 36 = .ok (.getfield 15, 3) := by decide +kernel
theorem d_S_takeBack_39 : decode b_S_takeBack 39 = .ok (.iload 4, 2) := by decide +kernel
theorem d_S_takeBack_41 : decode b_S_takeBack 41 = .ok (.iconst 0, 1) := by decide +kernel
theorem d_S_takeBack_42 : decode b_S_takeBack 42 = .ok (.bastore, 1) := by decide +kernel
theorem d_S_takeBack_43 : decode b_S_takeBack 43 = .ok (.aload_n 0, 1) := by decide +kernel
theorem d_S_takeBack_44 : decode b_S_takeBack 44 = .ok (.getfield 9, 3) := by decide +kernel
theorem d_S_takeBack_47 : decode b_S_takeBack 47 = .ok (.iload_n 3, 1) := by decide +kernel
theorem d_S_takeBack_48 : decode b_S_takeBack 48 = .ok (.iconst (-1), 1) := by decide +kernel
theorem d_S_takeBack_49 : decode b_S_takeBack 49 = .ok (.iastore, 1) := by decide +kernel
theorem d_S_takeBack_50 : decode b_S_takeBack 50 = .ok (.iinc 2 (-1), 3) := by decide +kernel
theorem d_S_takeBack_53 : decode b_S_takeBack 53 = .ok (.goto (-46), 3) := by decide +kernel
theorem d_S_takeBack_56 : decode b_S_takeBack 56 = .ok (.aload_n 0, 1) := by decide +kernel
theorem d_S_takeBack_57 : decode b_S_takeBack 57 = .ok (.iload_n 1, 1) := by decide +kernel
theorem d_S_takeBack_58 : decode b_S_takeBack 58 = .ok (.putfield 22, 3) := by decide +kernel
theorem d_S_takeBack_61 : decode b_S_takeBack 61 = .ok (.return_, 1) := by decide +kernel
end
section
theorem d_W_init_0 : decode b_W_init 0 = .ok (.aload_n 0, 1) := by decide +kernel
theorem d_W_init_1 : decode b_W_init 1 = .ok (.invokespecial 3, 3) := by decide +kernel
theorem d_W_init_4 : decode b_W_init 4 = .ok (.aload_n 0, 1) := by decide +kernel
theorem d_W_init_5 : decode b_W_init 5 = .ok (.sipush 480, 3) := by decide +kernel
theorem d_W_init_8 : decode b_W_init 8 = .ok (.newarray .int, 2) := by decide +kernel
theorem d_W_init_10 : decode b_W_init 10 = .ok (.putfield 9, 3) := by decide +kernel
theorem d_W_init_13 : decode b_W_init 13 = .ok (.aload_n 0, 1) := by decide +kernel
theorem d_W_init_14 : decode b_W_init 14 = .ok (.bipush 60, 2) := by decide +kernel
theorem d_W_init_16 : decode b_W_init 16 = .ok (.newarray .int, 2) := by decide +kernel
theorem d_W_init_18 : decode b_W_init 18 = .ok (.putfield 15, 3) := by decide +kernel
theorem d_W_init_21 : decode b_W_init 21 = .ok (.aload_n 0, 1) := by decide +kernel
theorem d_W_init_22 : decode b_W_init 22 = .ok (.bipush 8, 2) := by decide +kernel
theorem d_W_init_24 : decode b_W_init 24 = .ok (.newarray .int, 2) := by decide +kernel
theorem d_W_init_26 : decode b_W_init 26 = .ok (.putfield 18, 3) := by decide +kernel
theorem d_W_init_29 : decode b_W_init 29 = .ok (.aload_n 0, 1) := by decide +kernel
theorem d_W_init_30 : decode b_W_init 30 = .ok (.iconst 0, 1) := by decide +kernel
theorem d_W_init_31 : decode b_W_init 31 = .ok (.putfield 21, 3) := by decide +kernel
theorem d_W_init_34 : decode b_W_init 34 = .ok (.aload_n 0, 1) := by decide +kernel
theorem d_W_init_35 : decode b_W_init 35 = .ok (.iconst 0, 1) := by decide +kernel
theorem d_W_init_36 : decode b_W_init 36 = .ok (.putfield 25, 3) := by decide +kernel
theorem d_W_init_39 : decode b_W_init 39 = .ok (.return_, 1) := by decide +kernel
theorem d_W_collect_0 : decode b_W_collect 0 = .ok (.iload_n 1, 1) := by decide +kernel
theorem d_W_collect_1 : decode b_W_collect 1 = .ok (.invokestatic 28, 3) := by decide +kernel
theorem d_W_collect_4 : decode b_W_collect 4 = .ok (.ifCond .eq 12, 3) := by decide +kernel
theorem d_W_collect_7 : decode b_W_collect 7 = .ok (.aload_n 0, 1) := by decide +kernel
theorem d_W_collect_8 : decode b_W_collect 8 = .ok (.getfield 25, 3) := by decide +kernel
theorem d_W_collect_11 : decode b_W_collect 11 = .ok (.bipush 8, 2) := by decide +kernel
theorem d_W_collect_13 : decode b_W_collect 13 = .ok (.if_icmp .lt 5, 3) := by decide +kernel
theorem d_W_collect_16 : decode b_W_collect 16 = .ok (.iconst 0, 1) := by decide +kernel
theorem d_W_collect_17 : decode b_W_collect 17 = .ok (.ireturn, 1) := by decide +kernel
theorem d_W_collect_18 : decode b_W_collect 18 = .ok (.aload_n 0, 1) := by decide +kernel
theorem d_W_collect_19 : decode b_W_collect 19 = .ok (.getfield 18, 3) := by decide +kernel
theorem d_W_collect_22 : decode b_W_collect 22 = .ok (.aload_n 0, 1) := by decide +kernel
theorem d_W_collect_23 : decode b_W_collect 23 = .ok (.getfield 25, 3) := by decide +kernel
theorem d_W_collect_26 : decode b_W_collect 26 = .ok (.iload_n 1, 1) := by decide +kernel
theorem d_W_collect_27 : decode b_W_collect 27 = .ok (.iastore, 1) := by decide +kernel
theorem d_W_collect_28 : decode b_W_collect 28 = .ok (.aload_n 0, 1) := by decide +kernel
theorem d_W_collect_29 : decode b_W_collect 29 = .ok (.dup, 1) := by decide +kernel
theorem d_W_collect_30 : decode b_W_collect 30 = .ok (.getfield 25, 3) := by decide +kernel
theorem d_W_collect_33 : decode b_W_collect 33 = .ok (.iconst 1, 1) := by decide +kernel
theorem d_W_collect_34 : decode b_W_collect 34 = .ok (.iadd, 1) := by decide +kernel
theorem d_W_collect_35 : decode b_W_collect 35 = .ok (.putfield 25, 3) := by decide +kernel
theorem d_W_collect_38 : decode b_W_collect 38 = .ok (.iconst 1, 1) := by decide +kernel
theorem d_W_collect_39 : decode b_W_collect 39 = .ok (.ireturn, 1) := by decide +kernel
theorem d_W_takeCollected_0 : decode b_W_takeCollected 0 = .ok (.aload_n 0, 1) := by decide +kernel
theorem d_W_takeCollected_1 : decode b_W_takeCollected 1 = .ok (.getfield 25, 3) := by decide +kernel
theorem d_W_takeCollected_4 : decode b_W_takeCollected 4 = .ok (.ifCond .ne 7, 3) := by decide +kernel
theorem d_W_takeCollected_7 : decode b_W_takeCollected 7 = .ok (.iconst (-1), 1) := by decide +kernel
theorem d_W_takeCollected_8 : decode b_W_takeCollected 8 = .ok (.goto 7, 3) := by decide +kernel
theorem d_W_takeCollected_11 : decode b_W_takeCollected 11 = .ok (.aload_n 0, 1) := by decide +kernel
theorem d_W_takeCollected_12 : decode b_W_takeCollected 12 = .ok (.invokevirtual 32, 3) := by decide +kernel
theorem d_W_takeCollected_15 : decode b_W_takeCollected 15 = .ok (.istore_n 1, 1) := by decide +kernel
theorem d_W_takeCollected_16 : decode b_W_takeCollected 16 = .ok (.aload_n 0, 1) := by decide +kernel
theorem d_W_takeCollected_17 : decode b_W_takeCollected 17 = .ok (.iconst 0, 1) := by decide +kernel
theorem d_W_takeCollected_18 : decode b_W_takeCollected 18 = .ok (.putfield 25, 3) := by decide +kernel
theorem d_W_takeCollected_21 : decode b_W_takeCollected 21 = .ok (.iload_n 1, 1) := by decide +kernel
theorem d_W_takeCollected_22 : decode b_W_takeCollected 22 = .ok (.ireturn, 1) := by decide +kernel
theorem d_W_size_0 : decode b_W_size 0 = .ok (.aload_n 0, 1) := by decide +kernel
theorem d_W_size_1 : decode b_W_size 1 = .ok (.getfield 21, 3) := by decide +kernel
theorem d_W_size_4 : decode b_W_size 4 = .ok (.ireturn, 1) := by decide +kernel
theorem d_W_lengthOf_0 : decode b_W_lengthOf 0 = .ok (.iload_n 1, 1) := by decide +kernel
theorem d_W_lengthOf_1 : decode b_W_lengthOf 1 = .ok (.ifCond .lt 20, 3) := by decide +kernel
theorem d_W_lengthOf_4 : decode b_W_lengthOf 4 = .ok (.iload_n 1, 1) := by decide +kernel
theorem d_W_lengthOf_5 : decode b_W_lengthOf 5 = .ok (.aload_n 0, 1) := by decide +kernel
theorem d_W_lengthOf_6 : decode b_W_lengthOf 6 = .ok (.getfield 21, 3) := by decide +kernel
theorem d_W_lengthOf_9 : decode b_W_lengthOf 9 = .ok (.if_icmp .ge 12, 3) := by decide +kernel
theorem d_W_lengthOf_12 : decode b_W_lengthOf 12 = .ok (.aload_n 0, 1) := by decide +kernel
theorem d_W_lengthOf_13 : decode b_W_lengthOf 13 = .ok (.getfield 15, 3) := by decide +kernel
theorem d_W_lengthOf_16 : decode b_W_lengthOf 16 = .ok (.iload_n 1, 1) := by decide +kernel
theorem d_W_lengthOf_17 : decode b_W_lengthOf 17 = .ok (.iaload, 1) := by decide +kernel
theorem d_W_lengthOf_18 : decode b_W_lengthOf 18 = .ok (.goto 4, 3) := by decide +kernel
theorem d_W_lengthOf_21 : decode b_W_lengthOf 21 = .ok (.iconst 0, 1) := by decide +kernel
theorem d_W_lengthOf_22 : decode b_W_lengthOf 22 = .ok (.ireturn, 1) := by decide +kernel
theorem d_W_placeAt_0 : decode b_W_placeAt 0 = .ok (.iload_n 2, 1) := by decide +kernel
theorem d_W_placeAt_1 : decode b_W_placeAt 1 = .ok (.ifCond .lt 26, 3) := by decide +kernel
theorem d_W_placeAt_4 : decode b_W_placeAt 4 = .ok (.iload_n 2, 1) := by decide +kernel
theorem d_W_placeAt_5 : decode b_W_placeAt 5 = .ok (.aload_n 0, 1) := by decide +kernel
theorem d_W_placeAt_6 : decode b_W_placeAt 6 = .ok (.iload_n 1, 1) := by decide +kernel
theorem d_W_placeAt_7 : decode b_W_placeAt 7 = .ok (.invokevirtual 36, 3) := by decide +kernel
theorem d_W_placeAt_10 : decode b_W_placeAt 10 = .ok (.if_icmp .ge 17, 3) := by decide +kernel
theorem d_W_placeAt_13 : decode b_W_placeAt 13 = .ok (.aload_n 0, 1) := by decide +kernel
theorem d_W_placeAt_14 : decode b_W_placeAt 14 = .ok (.getfield 9, 3) := by decide +kernel
theorem d_W_placeAt_17 : decode b_W_placeAt 17 = .ok (.iload_n 1, 1) := by decide +kernel
theorem d_W_placeAt_18 : decode b_W_placeAt 18 = .ok (.bipush 8, 2) := by decide +kernel
theorem d_W_placeAt_20 : decode b_W_placeAt 20 = .ok (.imul, 1) := by decide +kernel
theorem d_W_placeAt_21 : decode b_W_placeAt 21 = .ok (.iload_n 2, 1) := by decide +kernel
theorem d_W_placeAt_22 : decode b_W_placeAt 22 = .ok (.iadd, 1) := by decide +kernel
theorem d_W_placeAt_23 : decode b_W_placeAt 23 = .ok (.iaload, 1) := by decide +kernel
theorem d_W_placeAt_24 : decode b_W_placeAt 24 = .ok (.goto 4, 3) := by decide +kernel
theorem d_W_placeAt_27 : decode b_W_placeAt 27 = .ok (.iconst (-1), 1) := by decide +kernel
theorem d_W_placeAt_28 : decode b_W_placeAt 28 = .ok (.ireturn, 1) := by decide +kernel
theorem d_W_numberOfCollected_0 : decode b_W_numberOfCollected 0 = .ok (.iconst 0, 1) := by decide +kernel
theorem d_W_numberOfCollected_1 : decode b_W_numberOfCollected 1 = .ok (.istore_n 1, 1) := by decide +kernel
theorem d_W_numberOfCollected_2 : decode b_W_numberOfCollected 2 = .ok (.iload_n 1, 1) := by decide +kernel
theorem d_W_numberOfCollected_3 : decode b_W_numberOfCollected 3 = .ok (.aload_n 0, 1) := by decide +kernel
theorem d_W_numberOfCollected_4 : decode b_W_numberOfCollected 4 = .ok (.getfield 21, 3) := by decide +kernel
theorem d_W_numberOfCollected_7 : decode b_W_numberOfCollected 7 = .ok (.if_icmp .ge 19, 3) := by decide +kernel
theorem d_W_numberOfCollected_10 : decode b_W_numberOfCollected 10 = .ok (.aload_n 0, 1) := by decide +kernel
theorem d_W_numberOfCollected_11 : decode b_W_numberOfCollected 11 = .ok (.iload_n 1, 1) := by decide +kernel
theorem d_W_numberOfCollected_12 : decode b_W_numberOfCollected 12 = .ok (.invokevirtual 40, 3) := by decide +kernel
theorem d_W_numberOfCollected_15 : decode b_W_numberOfCollected 15 = .ok (.ifCond .eq 5, 3) := by decide +kernel
theorem d_W_numberOfCollected_18 : decode b_W_numberOfCollected 18 = .ok (.iload_n 1, 1) := by decide +kernel
theorem d_W_numberOfCollected_19 : decode b_W_numberOfCollected 19 = .ok (.ireturn, 1) := by decide +kernel
theorem d_W_numberOfCollected_20 : decode b_W_numberOfCollected 20 = .ok (.iinc 1 1, 3) := by decide +kernel
theorem d_W_numberOfCollected_23 : decode b_W_numberOfCollected 23 = .ok (.goto (-21), 3) := by decide +kernel
theorem d_W_numberOfCollected_26 : decode b_W_numberOfCollected 26 = .ok (.aload_n 0, 1) := by decide +kernel
theorem d_W_numberOfCollected_27 : decode b_W_numberOfCollected 27 = .ok (.invokevirtual 43, 3) := by decide +kernel
theorem d_W_numberOfCollected_30 : decode b_W_numberOfCollected 30 = .ok (.ireturn, 1) := by decide +kernel
theorem d_W_isCollected_0 : decode b_W_isCollected 0 = .ok (.aload_n 0, 1) := by decide +kernel
theorem d_W_isCollected_1 : decode b_W_isCollected 1 = .ok (.iload_n 1, 1) := by decide +kernel
theorem d_W_isCollected_2 : decode b_W_isCollected 2 = .ok (.invokevirtual 36, 3) := by decide +kernel
theorem d_W_isCollected_5 : decode b_W_isCollected 5 = .ok (.aload_n 0, 1) := by decide +kernel
theorem d_W_isCollected_6 : decode b_W_isCollected 6 = .ok (.getfield 25, 3) := by decide +kernel
theorem d_W_isCollected_9 : decode b_W_isCollected 9 = .ok (.if_icmp .eq 5, 3) := by decide +kernel
theorem d_W_isCollected_12 : decode b_W_isCollected 12 = .ok (.iconst 0, 1) := by decide +kernel
theorem d_W_isCollected_13 : decode b_W_isCollected 13 = .ok (.ireturn, 1) := by decide +kernel
theorem d_W_isCollected_14 : decode b_W_isCollected 14 = .ok (.iconst 0, 1) := by decide +kernel
theorem d_W_isCollected_15 : decode b_W_isCollected 15 = .ok (.istore_n 2, 1) := by decide +kernel
theorem d_W_isCollected_16 : decode b_W_isCollected 16 = .ok (.iload_n 2, 1) := by decide +kernel
theorem d_W_isCollected_17 : decode b_W_isCollected 17 = .ok (.aload_n 0, 1) := by decide +kernel
theorem d_W_isCollected_18 : decode b_W_isCollected 18 = .ok (.getfield 25, 3) := by decide +kernel
theorem d_W_isCollected_21 : decode b_W_isCollected 21 = .ok (.if_icmp .ge 26, 3) := by decide +kernel
theorem d_W_isCollected_24 : decode b_W_isCollected 24 = .ok (.aload_n 0, 1) := by decide +kernel
theorem d_W_isCollected_25 : decode b_W_isCollected 25 = .ok (.iload_n 1, 1) := by decide +kernel
theorem d_W_isCollected_26 : decode b_W_isCollected 26 = .ok (.iload_n 2, 1) := by decide +kernel
theorem d_W_isCollected_27 : decode b_W_isCollected 27 = .ok (.invokevirtual 46, 3) := by decide +kernel
theorem d_W_isCollected_30 : decode b_W_isCollected 30 = .ok (.aload_n 0, 1) := by decide +kernel
theorem d_W_isCollected_31 : decode b_W_isCollected 31 = .ok (.getfield 18, 3) := by decide +kernel
theorem d_W_isCollected_34 : decode b_W_isCollected 34 = .ok (.iload_n 2, 1) := by decide +kernel
theorem d_W_isCollected_35 : decode b_W_isCollected 35 = .ok (.iaload, 1) := by decide +kernel
theorem d_W_isCollected_36 : decode b_W_isCollected 36 = .ok (.if_icmp .eq 5, 3) := by decide +kernel
theorem d_W_isCollected_39 : decode b_W_isCollected 39 = .ok (.iconst 0, 1) := by decide +kernel
theorem d_W_isCollected_40 : decode b_W_isCollected 40 = .ok (.ireturn, 1) := by decide +kernel
theorem d_W_isCollected_41 : decode b_W_isCollected 41 = .ok (.iinc 2 1, 3) := by decide +kernel
theorem d_W_isCollected_44 : decode b_W_isCollected 44 = .ok (.goto (-28), 3) := by decide +kernel
theorem d_W_isCollected_47 : decode b_W_isCollected 47 = .ok (.iconst 1, 1) := by decide +kernel
theorem d_W_isCollected_48 : decode b_W_isCollected 48 = .ok (.ireturn, 1) := by decide +kernel
theorem d_W_addCollected_0 : decode b_W_addCollected 0 = .ok (.aload_n 0, 1) := by decide +kernel
theorem d_W_addCollected_1 : decode b_W_addCollected 1 = .ok (.getfield 21, 3) := by decide +kernel
theorem d_W_addCollected_4 : decode b_W_addCollected 4 = .ok (.bipush 60, 2) := by decide +kernel
theorem d_W_addCollected_6 : decode b_W_addCollected 6 = .ok (.if_icmp .lt 5, 3) := by decide +kernel
theorem d_W_addCollected_9 : decode b_W_addCollected 9 = .ok (.iconst (-1), 1) := by decide +kernel
theorem d_W_addCollected_10 : decode b_W_addCollected 10 = .ok (.ireturn, 1) := by decide +kernel
theorem d_W_addCollected_11 : decode b_W_addCollected 11 = .ok (.aload_n 0, 1) := by decide +kernel
theorem d_W_addCollected_12 : decode b_W_addCollected 12 = .ok (.getfield 21, 3) := by decide +kernel
theorem d_W_addCollected_15 : decode b_W_addCollected 15 = .ok (.istore_n 1, 1) := by decide +kernel
theorem d_W_addCollected_16 : decode b_W_addCollected 16 = .ok (.aload_n 0, 1) := by decide +kernel
theorem d_W_addCollected_17 : decode b_W_addCollected 17 = .ok (.getfield 18, 3) := by decide +kernel
theorem d_W_addCollected_20 : decode b_W_addCollected 20 = .ok (.iconst 0, 1) := by decide +kernel
theorem d_W_addCollected_21 : decode b_W_addCollected 21 = .ok (.aload_n 0, 1) := by decide +kernel
theorem d_W_addCollected_22 : decode b_W_addCollected 22 = .ok (.getfield 9, 3) := by decide +kernel
theorem d_W_addCollected_25 : decode b_W_addCollected 25 = .ok (.iload_n 1, 1) := by decide +kernel
theorem d_W_addCollected_26 : decode b_W_addCollected 26 = .ok (.bipush 8, 2) := by decide +kernel
theorem d_W_addCollected_28 : decode b_W_addCollected 28 = .ok (.imul, 1) := by decide +kernel
theorem d_W_addCollected_29 : decode b_W_addCollected 29 = .ok (.aload_n 0, 1) := by decide +kernel
theorem d_W_addCollected_30 : decode b_W_addCollected 30 = .ok (.getfield 25, 3) := by decide +kernel
theorem d_W_addCollected_33 : decode b_W_addCollected 33 = .ok (.invokestatic 50, 3) := by decide +kernel
theorem d_W_addCollected_36 : decode b_W_addCollected 36 = .ok (.aload_n 0, 1) := by decide +kernel
theorem d_W_addCollected_37 : decode b_W_addCollected 37 = .ok (.getfield 15, 3) := by decide +kernel
theorem d_W_addCollected_40 : decode b_W_addCollected 40 = .ok (.iload_n 1, 1) := by decide +kernel
theorem d_W_addCollected_41 : decode b_W_addCollected 41 = .ok (.aload_n 0, 1) := by decide +kernel
theorem d_W_addCollected_42 : decode b_W_addCollected 42 = .ok (.getfield 25, 3) := by decide +kernel
theorem d_W_addCollected_45 : decode b_W_addCollected 45 = .ok (.iastore, 1) := by decide +kernel
theorem d_W_addCollected_46 : decode b_W_addCollected 46 = .ok (.aload_n 0, 1) := by decide +kernel
theorem d_W_addCollected_47 : decode b_W_addCollected 47 = .ok (.dup, 1) := by decide +kernel
theorem d_W_addCollected_48 : decode b_W_addCollected 48 = .ok (.getfield 21, 3) := by decide +kernel
theorem d_W_addCollected_51 : decode b_W_addCollected 51 = .ok (.iconst 1, 1) := by decide +kernel
theorem d_W_addCollected_52 : decode b_W_addCollected 52 = .ok (.iadd, 1) := by decide +kernel
theorem d_W_addCollected_53 : decode b_W_addCollected 53 = .ok (.putfield 21, 3) := by decide +kernel
theorem d_W_addCollected_56 : decode b_W_addCollected 56 = .ok (.iload_n 1, 1) := by decide +kernel
theorem d_W_addCollected_57 : decode b_W_addCollected 57 = .ok (.ireturn, 1) := by decide +kernel
end
section
theorem d_X_init_0 : decode b_X_init 0 = .ok (.aload_n 0, 1) := by decide +kernel
theorem d_X_init_1 : decode b_X_init 1 = .ok (.invokespecial 3, 3) := by decide +kernel
theorem d_X_init_4 : decode b_X_init 4 = .ok (.aload_n 0, 1) := by decide +kernel
theorem d_X_init_5 : decode b_X_init 5 = .ok (.bipush 60, 2) := by decide +kernel
theorem d_X_init_7 : decode b_X_init 7 = .ok (.newarray .int, 2) := by decide +kernel
theorem d_X_init_9 : decode b_X_init 9 = .ok (.putfield 9, 3) := by decide +kernel
theorem d_X_init_12 : decode b_X_init 12 = .ok (.aload_n 0, 1) := by decide +kernel
theorem d_X_init_13 : decode b_X_init 13 = .ok (.iconst 0, 1) := by decide +kernel
theorem d_X_init_14 : decode b_X_init 14 = .ok (.putfield 15, 3) := by decide +kernel
theorem d_X_init_17 : decode b_X_init 17 = .ok (.return_, 1) := by decide +kernel
theorem d_X_append_0 : decode b_X_append 0 = .ok (.iload_n 1, 1) := by decide +kernel
theorem d_X_append_1 : decode b_X_append 1 = .ok (.invokestatic 19, 3) := by decide +kernel
theorem d_X_append_4 : decode b_X_append 4 = .ok (.ifCond .eq 12, 3) := by decide +kernel
theorem d_X_append_7 : decode b_X_append 7 = .ok (.aload_n 0, 1) := by decide +kernel
theorem d_X_append_8 : decode b_X_append 8 = .ok (.getfield 15, 3) := by decide +kernel
theorem d_X_append_11 : decode b_X_append 11 = .ok (.bipush 60, 2) := by decide +kernel
theorem d_X_append_13 : decode b_X_append 13 = .ok (.if_icmp .lt 5, 3) := by decide +kernel
theorem d_X_append_16 : decode b_X_append 16 = .ok (.iconst 0, 1) := by decide +kernel
theorem d_X_append_17 : decode b_X_append 17 = .ok (.ireturn, 1) := by decide +kernel
theorem d_X_append_18 : decode b_X_append 18 = .ok (.aload_n 0, 1) := by decide +kernel
theorem d_X_append_19 : decode b_X_append 19 = .ok (.getfield 9, 3) := by decide +kernel
theorem d_X_append_22 : decode b_X_append 22 = .ok (.aload_n 0, 1) := by decide +kernel
theorem d_X_append_23 : decode b_X_append 23 = .ok (.getfield 15, 3) := by decide +kernel
theorem d_X_append_26 : decode b_X_append 26 = .ok (.iload_n 1, 1) := by decide +kernel
theorem d_X_append_27 : decode b_X_append 27 = .ok (.iastore, 1) := by decide +kernel
theorem d_X_append_28 : decode b_X_append 28 = .ok (.aload_n 0, 1) := by decide +kernel
theorem d_X_append_29 : decode b_X_append 29 = .ok (.dup, 1) := by decide +kernel
theorem d_X_append_30 : decode b_X_append 30 = .ok (.getfield 15, 3) := by decide +kernel
theorem d_X_append_33 : decode b_X_append 33 = .ok (.iconst 1, 1) := by decide +kernel
theorem d_X_append_34 : decode b_X_append 34 = .ok (.iadd, 1) := by decide +kernel
theorem d_X_append_35 : decode b_X_append 35 = .ok (.putfield 15, 3) := by decide +kernel
theorem d_X_append_38 : decode b_X_append 38 = .ok (.iconst 1, 1) := by decide +kernel
theorem d_X_append_39 : decode b_X_append 39 = .ok (.ireturn, 1) := by decide +kernel
theorem d_X_empty_0 : decode b_X_empty 0 = .ok (.aload_n 0, 1) := by decide +kernel
theorem d_X_empty_1 : decode b_X_empty 1 = .ok (.iconst 0, 1) := by decide +kernel
theorem d_X_empty_2 : decode b_X_empty 2 = .ok (.putfield 15, 3) := by decide +kernel
theorem d_X_empty_5 : decode b_X_empty 5 = .ok (.return_, 1) := by decide +kernel
theorem d_X_size_0 : decode b_X_size 0 = .ok (.aload_n 0, 1) := by decide +kernel
theorem d_X_size_1 : decode b_X_size 1 = .ok (.getfield 15, 3) := by decide +kernel
theorem d_X_size_4 : decode b_X_size 4 = .ok (.ireturn, 1) := by decide +kernel
theorem d_X_placeAt_0 : decode b_X_placeAt 0 = .ok (.iload_n 1, 1) := by decide +kernel
theorem d_X_placeAt_1 : decode b_X_placeAt 1 = .ok (.ifCond .lt 20, 3) := by decide +kernel
theorem d_X_placeAt_4 : decode b_X_placeAt 4 = .ok (.iload_n 1, 1) := by decide +kernel
theorem d_X_placeAt_5 : decode b_X_placeAt 5 = .ok (.aload_n 0, 1) := by decide +kernel
theorem d_X_placeAt_6 : decode b_X_placeAt 6 = .ok (.getfield 15, 3) := by decide +kernel
theorem d_X_placeAt_9 : decode b_X_placeAt 9 = .ok (.if_icmp .ge 12, 3) := by decide +kernel
theorem d_X_placeAt_12 : decode b_X_placeAt 12 = .ok (.aload_n 0, 1) := by decide +kernel
theorem d_X_placeAt_13 : decode b_X_placeAt 13 = .ok (.getfield 9, 3) := by decide +kernel
theorem d_X_placeAt_16 : decode b_X_placeAt 16 = .ok (.iload_n 1, 1) := by decide +kernel
theorem d_X_placeAt_17 : decode b_X_placeAt 17 = .ok (.iaload, 1) := by decide +kernel
theorem d_X_placeAt_18 : decode b_X_placeAt 18 = .ok (.goto 4, 3) := by decide +kernel
theorem d_X_placeAt_21 : decode b_X_placeAt 21 = .ok (.iconst (-1), 1) := by decide +kernel
theorem d_X_placeAt_22 : decode b_X_placeAt 22 = .ok (.ireturn, 1) := by decide +kernel
end
section
/-! THE JUDGEMENT: at pc, with locals lv, stack st and world ws, the machine comes to Q -/
def JJ (p : Program) (l : Launch) (e : Env) (R : Room) (s : State) (m : MethodId) (args : Array Value) (below : List Frame) (meth : Method) (c : Code) (D : va_G) (A : Nat → Prop) (nL : Nat) (Q : State → Prop) (cells slots pc : Nat) (lv : List (Nat × Value)) (st : List Value) (ws : va_W) : Prop :=
  ∀ (H : Heap) (locs : List Loc) (ls : Array Slot), va_P D cls ws H → va_D A ws → va_S A s.heap H locs → lv_has ls nL lv → W p l e R s m args below meth c H locs cells slots Q (F0 m pc ls st)
/-- the links to private methods of nest mates -/
def NN (U : State) : Prop := ∀ q ∈ nst, va_Nw (nsw q) U
theorem NN.warm {s U : State} (hW : s.WarmedH U.vm) (h : NN s) : NN U := fun q hq => va_Nw.warmM hW (h q hq)
theorem NN.same {s U : State} (e : s.vm = U.vm) (h : NN s) : NN U := fun q hq => va_Nw.same rfl e (h q hq)
/-- what stays the same all through a method -/
def Cx (p : Program) (s : State) (m : MethodId) (args : Array Value) (c : Code) (D : va_G) (tys : List (ClassId × FieldType)) (A : Nat → Prop) (nL : Nat) (cc : ByteArray) (own : String) : Prop :=
  p.tables.exec = Jvm.exec ∧ c.code = cc ∧ c.maxLocals = nL ∧ s.vm.findClass own = some m.cls ∧ (∀ w ∈ wtb, w.before args s = true) ∧ va_K D cls tys s ∧ (∀ q : Nat, s.heap.size ≤ q → A q) ∧ NN s
/-- locals in order of their places -/
def lvp (i : Nat) (v : Value) (lv : List (Nat × Value)) : List (Nat × Value) :=
  lv.filter (fun q => Nat.blt q.1 i && !(q.1 + 1 == i && q.2.category == 2)) ++ (i, v) :: lv.filter (fun q => Nat.blt i q.1)
def lvp2 (i : Nat) (v : Value) (lv : List (Nat × Value)) : List (Nat × Value) :=
  lv.filter (fun q => Nat.blt q.1 i && !(q.1 + 1 == i && q.2.category == 2)) ++ (i, v) :: lv.filter (fun q => Nat.blt (i + 1) q.1)
theorem lvp_has {ls : Array Slot} {nL i : Nat} {v : Value} {lv : List (Nat × Value)} (h : lv_has ls nL ((i, v) :: lv.filter (fun q => !(q.1 == i) && !(q.1 + 1 == i && q.2.category == 2)))) : lv_has ls nL (lvp i v lv) := by
  refine ⟨h.1, h.2.1, fun q hq => h.2.2 q ?_⟩
  rcases List.mem_append.mp hq with h1 | h1
  · have h2 := List.mem_filter.mp h1
    refine List.mem_cons_of_mem _ (List.mem_filter.mpr ⟨h2.1, ?_⟩)
    have h3 := h2.2
    simp only [Bool.and_eq_true] at h3 ⊢
    refine ⟨?_, h3.2⟩
    have h4 : q.1 < i := by simpa [Nat.blt_eq] using h3.1
    simp
    omega
  · rcases List.mem_cons.mp h1 with h2 | h2
    · rw [h2]
      exact List.mem_cons_self
    · have h3 := List.mem_filter.mp h2
      refine List.mem_cons_of_mem _ (List.mem_filter.mpr ⟨h3.1, ?_⟩)
      have h4 : i < q.1 := by simpa [Nat.blt_eq] using h3.2
      have e1 : (q.1 == i) = false := by simp; omega
      have e2 : (q.1 + 1 == i) = false := by simp; omega
      simp [e1, e2]
theorem lvp2_has {ls : Array Slot} {nL i : Nat} {v : Value} {lv : List (Nat × Value)} (h : lv_has ls nL ((i, v) :: lv.filter (fun q => !(q.1 == i) && (!(q.1 == i + 1) && !(q.1 + 1 == i && q.2.category == 2))))) : lv_has ls nL (lvp2 i v lv) := by
  refine ⟨h.1, h.2.1, fun q hq => h.2.2 q ?_⟩
  rcases List.mem_append.mp hq with h1 | h1
  · have h2 := List.mem_filter.mp h1
    refine List.mem_cons_of_mem _ (List.mem_filter.mpr ⟨h2.1, ?_⟩)
    have h3 := h2.2
    simp only [Bool.and_eq_true] at h3 ⊢
    have h4 : q.1 < i := by simpa [Nat.blt_eq] using h3.1
    refine ⟨by simp; omega, by simp; omega, h3.2⟩
  · rcases List.mem_cons.mp h1 with h2 | h2
    · rw [h2]
      exact List.mem_cons_self
    · have h3 := List.mem_filter.mp h2
      refine List.mem_cons_of_mem _ (List.mem_filter.mpr ⟨h3.1, ?_⟩)
      have h4 : i + 1 < q.1 := by simpa [Nat.blt_eq] using h3.2
      have e1 : (q.1 == i) = false := by simp; omega
      have e2 : (q.1 + 1 == i) = false := by simp; omega
      have e3 : (q.1 == i + 1) = false := by simp; omega
      simp [e1, e2, e3]
/-- an int array that holds f, a boolean one that holds f -/
def aI (k : ClassId) (n : Nat) (f : Nat → Int) : va_E := .inl (k, n, .inl (fun j => iI (f j)))
def uI (f : Nat → Int) (k : Nat) (x : Int) : Nat → Int := fun j => if j = k then x else f j
theorem uI_upd (f : Nat → Int) (k : Nat) (x : Int) : upd (fun j => iI (f j)) k (iI x) = fun j => iI (uI f k x j) := by
  funext j
  simp only [upd, uI]
  split <;> rfl
section JR
variable {p : Program} {l : Launch} {e : Env} {R : Room} {s : State} {m : MethodId} {args : Array Value} {below : List Frame} {meth : Method} {c : Code} {D : va_G} {tys : List (ClassId × FieldType)} {A : Nat → Prop} {nL : Nat} {Q : State → Prop} {cells slots pc : Nat} {lv : List (Nat × Value)} {st : List Value} {ws : va_W} {cc : ByteArray} {own : String}

theorem j_iconst (C : Cx p s m args c D tys A nL cc own) {q : Nat} {n : Int} (hdg : decode cc pc = .ok (.iconst n, 1)) (hq : pc + 1 = q) (k : JJ p l e R s m args below meth c D A nL Q cells slots q lv (.int (iI n) :: st) ws) : JJ p l e R s m args below meth c D A nL Q cells slots pc lv st ws := by
  subst hq
  intro H locs ls hP hD hS hl
  exact lv_iconst C.1 C.2.1 hdg rfl (k H locs ls hP hD hS hl)
theorem j_bipush (C : Cx p s m args c D tys A nL cc own) {q : Nat} {n : Int} (hdg : decode cc pc = .ok (.bipush n, 2)) (hq : pc + 2 = q) (hv : (Int8.ofInt n).toInt32 = iI n) (k : JJ p l e R s m args below meth c D A nL Q cells slots q lv (.int (iI n) :: st) ws) : JJ p l e R s m args below meth c D A nL Q cells slots pc lv st ws := by
  subst hq
  intro H locs ls hP hD hS hl
  exact lv_bipush C.1 C.2.1 hdg hv (k H locs ls hP hD hS hl)
theorem j_sipush (C : Cx p s m args c D tys A nL cc own) {q : Nat} {n : Int} (hdg : decode cc pc = .ok (.sipush n, 3)) (hq : pc + 3 = q) (hv : (Int16.ofInt n).toInt32 = iI n) (k : JJ p l e R s m args below meth c D A nL Q cells slots q lv (.int (iI n) :: st) ws) : JJ p l e R s m args below meth c D A nL Q cells slots pc lv st ws := by
  subst hq
  intro H locs ls hP hD hS hl
  exact lv_sipush C.1 C.2.1 hdg hv (k H locs ls hP hD hS hl)
theorem j_lconst (C : Cx p s m args c D tys A nL cc own) {q : Nat} {n : Fin 2} (hdg : decode cc pc = .ok (.lconst n, 1)) (hq : pc + 1 = q) (k : JJ p l e R s m args below meth c D A nL Q cells slots q lv (.long (lI (n : Nat)) :: st) ws) : JJ p l e R s m args below meth c D A nL Q cells slots pc lv st ws := by
  subst hq
  intro H locs ls hP hD hS hl
  exact lv_lconst C.1 C.2.1 hdg (Int64.ofInt_eq_ofNat (n := (n : Nat))).symm (k H locs ls hP hD hS hl)
theorem j_ldc (C : Cx p s m args c D tys A nL cc own) {q index : Nat} {n : Int} (hdg : decode cc pc = .ok (.ldc index, 2)) (hq : pc + 2 = q) (hc : Jvm.Cond.constant own index (iI n) ∈ wtb) (k : JJ p l e R s m args below meth c D A nL Q cells slots q lv (.int (iI n) :: st) ws) : JJ p l e R s m args below meth c D A nL Q cells slots pc lv st ws := by
  subst hq
  intro H locs ls hP hD hS hl
  exact lv_ldc C.1 C.2.1 C.2.2.2.1 (C.2.2.2.2.1 _ hc) hdg (k H locs ls hP hD hS hl)
theorem j_iload_n (C : Cx p s m args c D tys A nL cc own) {q : Nat} {x : Int32} {i : Fin 4} (n : Nat) (hl0 : lv[n]? = some ((i : Nat), .int x)) (hdg : decode cc pc = .ok (.iload_n i, 1)) (hq : pc + 1 = q) (k : JJ p l e R s m args below meth c D A nL Q cells slots q lv (.int x :: st) ws) : JJ p l e R s m args below meth c D A nL Q cells slots pc lv st ws := by
  subst hq
  intro H locs ls hP hD hS hl
  exact lv_iload_n C.1 C.2.1 hdg rfl (lv_at hl n hl0) (k H locs ls hP hD hS hl)
theorem j_iload (C : Cx p s m args c D tys A nL cc own) {q i : Nat} {x : Int32} (n : Nat) (hl0 : lv[n]? = some (i, .int x)) (hdg : decode cc pc = .ok (.iload i, 2)) (hq : pc + 2 = q) (k : JJ p l e R s m args below meth c D A nL Q cells slots q lv (.int x :: st) ws) : JJ p l e R s m args below meth c D A nL Q cells slots pc lv st ws := by
  subst hq
  intro H locs ls hP hD hS hl
  exact lv_iload C.1 C.2.1 hdg (lv_at hl n hl0) (k H locs ls hP hD hS hl)
theorem j_istore_n (C : Cx p s m args c D tys A nL cc own) {q : Nat} {x : Int32} {i : Fin 4} (lv' : List (Nat × Value)) (hl0 : lvp (i : Nat) (.int x) lv = lv') (hi : (i : Nat) < nL) (hdg : decode cc pc = .ok (.istore_n i, 1)) (hq : pc + 1 = q) (k : JJ p l e R s m args below meth c D A nL Q cells slots q lv' st ws) : JJ p l e R s m args below meth c D A nL Q cells slots pc lv (.int x :: st) ws := by
  subst hq
  subst hl0
  intro H locs ls hP hD hS hl
  exact lv_istore_n C.1 C.2.1 hdg rfl hl hi rfl (fun ls' hl' => k H locs ls' hP hD hS (lvp_has hl'))
theorem j_istore (C : Cx p s m args c D tys A nL cc own) {q i : Nat} {x : Int32} (lv' : List (Nat × Value)) (hl0 : lvp i (.int x) lv = lv') (hi : i < nL) (hdg : decode cc pc = .ok (.istore i, 2)) (hq : pc + 2 = q) (k : JJ p l e R s m args below meth c D A nL Q cells slots q lv' st ws) : JJ p l e R s m args below meth c D A nL Q cells slots pc lv (.int x :: st) ws := by
  subst hq
  subst hl0
  intro H locs ls hP hD hS hl
  exact lv_istore C.1 C.2.1 hdg hl hi rfl (fun ls' hl' => k H locs ls' hP hD hS (lvp_has hl'))
theorem j_lload_n (C : Cx p s m args c D tys A nL cc own) {q : Nat} {x : Int64} {i : Fin 4} (n : Nat) (hl0 : lv[n]? = some ((i : Nat), .long x)) (hdg : decode cc pc = .ok (.lload_n i, 1)) (hq : pc + 1 = q) (k : JJ p l e R s m args below meth c D A nL Q cells slots q lv (.long x :: st) ws) : JJ p l e R s m args below meth c D A nL Q cells slots pc lv st ws := by
  subst hq
  intro H locs ls hP hD hS hl
  exact lv_lload_n C.1 C.2.1 hdg rfl (lv_at hl n hl0) (k H locs ls hP hD hS hl)
theorem j_lload (C : Cx p s m args c D tys A nL cc own) {q i : Nat} {x : Int64} (n : Nat) (hl0 : lv[n]? = some (i, .long x)) (hdg : decode cc pc = .ok (.lload i, 2)) (hq : pc + 2 = q) (k : JJ p l e R s m args below meth c D A nL Q cells slots q lv (.long x :: st) ws) : JJ p l e R s m args below meth c D A nL Q cells slots pc lv st ws := by
  subst hq
  intro H locs ls hP hD hS hl
  exact lv_lload C.1 C.2.1 hdg (lv_at hl n hl0) (k H locs ls hP hD hS hl)
theorem j_lstore_n (C : Cx p s m args c D tys A nL cc own) {q : Nat} {x : Int64} {i : Fin 4} (lv' : List (Nat × Value)) (hl0 : lvp2 (i : Nat) (.long x) lv = lv') (hi : (i : Nat) + 1 < nL) (hdg : decode cc pc = .ok (.lstore_n i, 1)) (hq : pc + 1 = q) (k : JJ p l e R s m args below meth c D A nL Q cells slots q lv' st ws) : JJ p l e R s m args below meth c D A nL Q cells slots pc lv (.long x :: st) ws := by
  subst hq
  subst hl0
  intro H locs ls hP hD hS hl
  exact lv_lstore_n C.1 C.2.1 hdg rfl hl hi rfl (fun ls' hl' => k H locs ls' hP hD hS (lvp2_has hl'))
theorem j_lstore (C : Cx p s m args c D tys A nL cc own) {q i : Nat} {x : Int64} (lv' : List (Nat × Value)) (hl0 : lvp2 i (.long x) lv = lv') (hi : i + 1 < nL) (hdg : decode cc pc = .ok (.lstore i, 2)) (hq : pc + 2 = q) (k : JJ p l e R s m args below meth c D A nL Q cells slots q lv' st ws) : JJ p l e R s m args below meth c D A nL Q cells slots pc lv (.long x :: st) ws := by
  subst hq
  subst hl0
  intro H locs ls hP hD hS hl
  exact lv_lstore C.1 C.2.1 hdg hl hi rfl (fun ls' hl' => k H locs ls' hP hD hS (lvp2_has hl'))
theorem j_aload_n (C : Cx p s m args c D tys A nL cc own) {q : Nat} {x : Nat} {i : Fin 4} (n : Nat) (hl0 : lv[n]? = some ((i : Nat), .ref x)) (hdg : decode cc pc = .ok (.aload_n i, 1)) (hq : pc + 1 = q) (k : JJ p l e R s m args below meth c D A nL Q cells slots q lv (.ref x :: st) ws) : JJ p l e R s m args below meth c D A nL Q cells slots pc lv st ws := by
  subst hq
  intro H locs ls hP hD hS hl
  exact lv_aload_n C.1 C.2.1 hdg rfl (lv_at hl n hl0) (k H locs ls hP hD hS hl)
theorem j_aload (C : Cx p s m args c D tys A nL cc own) {q i : Nat} {x : Nat} (n : Nat) (hl0 : lv[n]? = some (i, .ref x)) (hdg : decode cc pc = .ok (.aload i, 2)) (hq : pc + 2 = q) (k : JJ p l e R s m args below meth c D A nL Q cells slots q lv (.ref x :: st) ws) : JJ p l e R s m args below meth c D A nL Q cells slots pc lv st ws := by
  subst hq
  intro H locs ls hP hD hS hl
  exact lv_aload C.1 C.2.1 hdg (lv_at hl n hl0) (k H locs ls hP hD hS hl)
theorem j_astore_n (C : Cx p s m args c D tys A nL cc own) {q : Nat} {x : Nat} {i : Fin 4} (lv' : List (Nat × Value)) (hl0 : lvp (i : Nat) (.ref x) lv = lv') (hi : (i : Nat) < nL) (hdg : decode cc pc = .ok (.astore_n i, 1)) (hq : pc + 1 = q) (k : JJ p l e R s m args below meth c D A nL Q cells slots q lv' st ws) : JJ p l e R s m args below meth c D A nL Q cells slots pc lv (.ref x :: st) ws := by
  subst hq
  subst hl0
  intro H locs ls hP hD hS hl
  exact lv_astore_n C.1 C.2.1 hdg rfl hl hi rfl (fun ls' hl' => k H locs ls' hP hD hS (lvp_has hl'))
theorem j_astore (C : Cx p s m args c D tys A nL cc own) {q i : Nat} {x : Nat} (lv' : List (Nat × Value)) (hl0 : lvp i (.ref x) lv = lv') (hi : i < nL) (hdg : decode cc pc = .ok (.astore i, 2)) (hq : pc + 2 = q) (k : JJ p l e R s m args below meth c D A nL Q cells slots q lv' st ws) : JJ p l e R s m args below meth c D A nL Q cells slots pc lv (.ref x :: st) ws := by
  subst hq
  subst hl0
  intro H locs ls hP hD hS hl
  exact lv_astore C.1 C.2.1 hdg hl hi rfl (fun ls' hl' => k H locs ls' hP hD hS (lvp_has hl'))
theorem j_iinc (C : Cx p s m args c D tys A nL cc own) {q i : Nat} {a b : Int} (n : Nat) (lv' : List (Nat × Value)) (hk : lv[n]? = some (i, .int (iI a))) (hl0 : lvp i (.int (iI (a + b))) lv = lv') (hi : i < nL) (hdg : decode cc pc = .ok (.iinc i b, 3)) (hq : pc + 3 = q) (k : JJ p l e R s m args below meth c D A nL Q cells slots q lv' st ws) : JJ p l e R s m args below meth c D A nL Q cells slots pc lv st ws := by
  subst hq
  subst hl0
  intro H locs ls hP hD hS hl
  exact lv_iinc C.1 C.2.1 hdg hl hk (iI_add a b) hi rfl (fun ls' hl' => k H locs ls' hP hD hS (lvp_has hl'))
theorem j_iadd (C : Cx p s m args c D tys A nL cc own) {q : Nat} {a b : Int} (hdg : decode cc pc = .ok (.iadd, 1)) (hq : pc + 1 = q) (k : JJ p l e R s m args below meth c D A nL Q cells slots q lv (.int (iI (a + b)) :: st) ws) : JJ p l e R s m args below meth c D A nL Q cells slots pc lv (.int (iI b) :: .int (iI a) :: st) ws := by
  subst hq
  intro H locs ls hP hD hS hl
  exact lv_iadd C.1 C.2.1 hdg (by rw [iI_add]; exact (k H locs ls hP hD hS hl))
theorem j_isub (C : Cx p s m args c D tys A nL cc own) {q : Nat} {a b : Int} (hdg : decode cc pc = .ok (.isub, 1)) (hq : pc + 1 = q) (k : JJ p l e R s m args below meth c D A nL Q cells slots q lv (.int (iI (a - b)) :: st) ws) : JJ p l e R s m args below meth c D A nL Q cells slots pc lv (.int (iI b) :: .int (iI a) :: st) ws := by
  subst hq
  intro H locs ls hP hD hS hl
  exact lv_isub C.1 C.2.1 hdg (by rw [iI_sub]; exact (k H locs ls hP hD hS hl))
theorem j_imul (C : Cx p s m args c D tys A nL cc own) {q : Nat} {a b : Int} (hdg : decode cc pc = .ok (.imul, 1)) (hq : pc + 1 = q) (k : JJ p l e R s m args below meth c D A nL Q cells slots q lv (.int (iI (a * b)) :: st) ws) : JJ p l e R s m args below meth c D A nL Q cells slots pc lv (.int (iI b) :: .int (iI a) :: st) ws := by
  subst hq
  intro H locs ls hP hD hS hl
  exact lv_imul C.1 C.2.1 hdg (by rw [iI_mul]; exact (k H locs ls hP hD hS hl))
theorem j_ladd (C : Cx p s m args c D tys A nL cc own) {q : Nat} {a b : Int} (hdg : decode cc pc = .ok (.ladd, 1)) (hq : pc + 1 = q) (k : JJ p l e R s m args below meth c D A nL Q cells slots q lv (.long (lI (a + b)) :: st) ws) : JJ p l e R s m args below meth c D A nL Q cells slots pc lv (.long (lI b) :: .long (lI a) :: st) ws := by
  subst hq
  intro H locs ls hP hD hS hl
  exact lv_ladd C.1 C.2.1 hdg (by rw [lI_add]; exact (k H locs ls hP hD hS hl))
theorem j_i2l (C : Cx p s m args c D tys A nL cc own) {q : Nat} {a : Int} (ha : (-2147483648 ≤ a ∧ a < 2147483648)) (hdg : decode cc pc = .ok (.i2l, 1)) (hq : pc + 1 = q) (k : JJ p l e R s m args below meth c D A nL Q cells slots q lv (.long (lI a) :: st) ws) : JJ p l e R s m args below meth c D A nL Q cells slots pc lv (.int (iI a) :: st) ws := by
  subst hq
  intro H locs ls hP hD hS hl
  exact lv_i2l C.1 C.2.1 hdg (iI_long ha) (k H locs ls hP hD hS hl)
theorem j_idiv (C : Cx p s m args c D tys A nL cc own) {q : Nat} {a b : Int} (ha : 0 ≤ a ∧ a < 2147483648) (hb : 0 < b ∧ b < 2147483648) (hdg : decode cc pc = .ok (.idiv, 1)) (hq : pc + 1 = q) (k : JJ p l e R s m args below meth c D A nL Q cells slots q lv (.int (iI (a / b)) :: st) ws) : JJ p l e R s m args below meth c D A nL Q cells slots pc lv (.int (iI b) :: .int (iI a) :: st) ws := by
  subst hq
  intro H locs ls hP hD hS hl
  exact lv_idiv C.1 C.2.1 hdg (fun h => by have := (iI_eq (a := b) (b := 0) (by omega) (by omega)).mp h; omega) (by rw [iI_div ha hb]; exact (k H locs ls hP hD hS hl))
theorem j_irem (C : Cx p s m args c D tys A nL cc own) {q : Nat} {a b : Int} (ha : 0 ≤ a ∧ a < 2147483648) (hb : 0 < b ∧ b < 2147483648) (hdg : decode cc pc = .ok (.irem, 1)) (hq : pc + 1 = q) (k : JJ p l e R s m args below meth c D A nL Q cells slots q lv (.int (iI (a % b)) :: st) ws) : JJ p l e R s m args below meth c D A nL Q cells slots pc lv (.int (iI b) :: .int (iI a) :: st) ws := by
  subst hq
  intro H locs ls hP hD hS hl
  exact lv_irem C.1 C.2.1 hdg (fun h => by have := (iI_eq (a := b) (b := 0) (by omega) (by omega)).mp h; omega) (by rw [iI_rem ha hb]; exact (k H locs ls hP hD hS hl))
theorem j_dup (C : Cx p s m args c D tys A nL cc own) {q : Nat} {v : Value} (hv : v.category = 1) (hdg : decode cc pc = .ok (.dup, 1)) (hq : pc + 1 = q) (k : JJ p l e R s m args below meth c D A nL Q cells slots q lv (v :: v :: st) ws) : JJ p l e R s m args below meth c D A nL Q cells slots pc lv (v :: st) ws := by
  subst hq
  intro H locs ls hP hD hS hl
  exact lv_dup C.1 C.2.1 hdg hv (k H locs ls hP hD hS hl)
theorem j_dup_x1 (C : Cx p s m args c D tys A nL cc own) {q : Nat} {v w : Value} (hv : v.category = 1) (hw : w.category = 1) (hdg : decode cc pc = .ok (.dup_x1, 1)) (hq : pc + 1 = q) (k : JJ p l e R s m args below meth c D A nL Q cells slots q lv (v :: w :: v :: st) ws) : JJ p l e R s m args below meth c D A nL Q cells slots pc lv (v :: w :: st) ws := by
  subst hq
  intro H locs ls hP hD hS hl
  exact lv_dup_x1 C.1 C.2.1 hdg hv hw (k H locs ls hP hD hS hl)
theorem j_dup2 (C : Cx p s m args c D tys A nL cc own) {q : Nat} {v w : Value} (hv : v.category = 1) (hw : w.category = 1) (hdg : decode cc pc = .ok (.dup2, 1)) (hq : pc + 1 = q) (k : JJ p l e R s m args below meth c D A nL Q cells slots q lv (v :: w :: v :: w :: st) ws) : JJ p l e R s m args below meth c D A nL Q cells slots pc lv (v :: w :: st) ws := by
  subst hq
  intro H locs ls hP hD hS hl
  exact lv_dup2_11 C.1 C.2.1 hdg hv hw (k H locs ls hP hD hS hl)
theorem j_pop (C : Cx p s m args c D tys A nL cc own) {q : Nat} {v : Value} (hv : v.category = 1) (hdg : decode cc pc = .ok (.pop, 1)) (hq : pc + 1 = q) (k : JJ p l e R s m args below meth c D A nL Q cells slots q lv st ws) : JJ p l e R s m args below meth c D A nL Q cells slots pc lv (v :: st) ws := by
  subst hq
  intro H locs ls hP hD hS hl
  exact lv_pop C.1 C.2.1 hdg hv (k H locs ls hP hD hS hl)
theorem j_goto (C : Cx p s m args c D tys A nL cc own) {off : Int} (q : Nat) (hdg : decode cc pc = .ok (.goto off, 3)) (ht : (pc : Int) + off = (q : Int)) (k : JJ p l e R s m args below meth c D A nL Q cells slots q lv st ws) : JJ p l e R s m args below meth c D A nL Q cells slots pc lv st ws := by
  intro H locs ls hP hD hS hl
  exact lv_goto C.1 C.2.1 hdg ht (k H locs ls hP hD hS hl)
theorem j_icmp_eq (C : Cx p s m args c D tys A nL cc own) {off a b : Int} (t q : Nat) (hdg : decode cc pc = .ok (.if_icmp .eq off, 3)) (ht : (pc : Int) + off = (t : Int)) (hq : pc + 3 = q) (ha0 : (-2147483648 ≤ a ∧ a < 2147483648)) (hb0 : (-2147483648 ≤ b ∧ b < 2147483648)) (kt : a = b → JJ p l e R s m args below meth c D A nL Q cells slots t lv st ws) (kf : ¬ (a = b) → JJ p l e R s m args below meth c D A nL Q cells slots q lv st ws) : JJ p l e R s m args below meth c D A nL Q cells slots pc lv (.int (iI b) :: .int (iI a) :: st) ws := by
  subst hq
  intro H locs ls hP hD hS hl
  exact lv_icmp_eq C.1 C.2.1 hdg ht (fun h => kt ((iI_eq ha0 hb0).mp h) H locs ls hP hD hS hl) (fun h => kf (fun h2 => h ((iI_eq ha0 hb0).mpr h2)) H locs ls hP hD hS hl)
theorem j_if_eq (C : Cx p s m args c D tys A nL cc own) {off a : Int} (t q : Nat) (hdg : decode cc pc = .ok (.ifCond .eq off, 3)) (ht : (pc : Int) + off = (t : Int)) (hq : pc + 3 = q) (ha0 : (-2147483648 ≤ a ∧ a < 2147483648)) (kt : a = 0 → JJ p l e R s m args below meth c D A nL Q cells slots t lv st ws) (kf : ¬ (a = 0) → JJ p l e R s m args below meth c D A nL Q cells slots q lv st ws) : JJ p l e R s m args below meth c D A nL Q cells slots pc lv (.int (iI a) :: st) ws := by
  subst hq
  have hb0 : (-2147483648 : Int) ≤ 0 ∧ (0 : Int) < 2147483648 := by decide
  intro H locs ls hP hD hS hl
  exact lv_if_eq C.1 C.2.1 hdg ht (fun h => kt ((iI_eq (a := a) (b := 0) ha0 hb0).mp h) H locs ls hP hD hS hl) (fun h => kf (fun h2 => h ((iI_eq (a := a) (b := 0) ha0 hb0).mpr h2)) H locs ls hP hD hS hl)
theorem j_icmp_ne (C : Cx p s m args c D tys A nL cc own) {off a b : Int} (t q : Nat) (hdg : decode cc pc = .ok (.if_icmp .ne off, 3)) (ht : (pc : Int) + off = (t : Int)) (hq : pc + 3 = q) (ha0 : (-2147483648 ≤ a ∧ a < 2147483648)) (hb0 : (-2147483648 ≤ b ∧ b < 2147483648)) (kt : ¬ a = b → JJ p l e R s m args below meth c D A nL Q cells slots t lv st ws) (kf : a = b → JJ p l e R s m args below meth c D A nL Q cells slots q lv st ws) : JJ p l e R s m args below meth c D A nL Q cells slots pc lv (.int (iI b) :: .int (iI a) :: st) ws := by
  subst hq
  intro H locs ls hP hD hS hl
  exact lv_icmp_ne C.1 C.2.1 hdg ht (fun h => kt (fun h2 => h ((iI_eq ha0 hb0).mpr h2)) H locs ls hP hD hS hl) (fun h => kf ((iI_eq ha0 hb0).mp h) H locs ls hP hD hS hl)
theorem j_if_ne (C : Cx p s m args c D tys A nL cc own) {off a : Int} (t q : Nat) (hdg : decode cc pc = .ok (.ifCond .ne off, 3)) (ht : (pc : Int) + off = (t : Int)) (hq : pc + 3 = q) (ha0 : (-2147483648 ≤ a ∧ a < 2147483648)) (kt : ¬ a = 0 → JJ p l e R s m args below meth c D A nL Q cells slots t lv st ws) (kf : a = 0 → JJ p l e R s m args below meth c D A nL Q cells slots q lv st ws) : JJ p l e R s m args below meth c D A nL Q cells slots pc lv (.int (iI a) :: st) ws := by
  subst hq
  have hb0 : (-2147483648 : Int) ≤ 0 ∧ (0 : Int) < 2147483648 := by decide
  intro H locs ls hP hD hS hl
  exact lv_if_ne C.1 C.2.1 hdg ht (fun h => kt (fun h2 => h ((iI_eq (a := a) (b := 0) ha0 hb0).mpr h2)) H locs ls hP hD hS hl) (fun h => kf ((iI_eq (a := a) (b := 0) ha0 hb0).mp h) H locs ls hP hD hS hl)
theorem j_icmp_lt (C : Cx p s m args c D tys A nL cc own) {off a b : Int} (t q : Nat) (hdg : decode cc pc = .ok (.if_icmp .lt off, 3)) (ht : (pc : Int) + off = (t : Int)) (hq : pc + 3 = q) (ha0 : (-2147483648 ≤ a ∧ a < 2147483648)) (hb0 : (-2147483648 ≤ b ∧ b < 2147483648)) (kt : a < b → JJ p l e R s m args below meth c D A nL Q cells slots t lv st ws) (kf : ¬ (a < b) → JJ p l e R s m args below meth c D A nL Q cells slots q lv st ws) : JJ p l e R s m args below meth c D A nL Q cells slots pc lv (.int (iI b) :: .int (iI a) :: st) ws := by
  subst hq
  intro H locs ls hP hD hS hl
  exact lv_icmp_lt C.1 C.2.1 hdg ht (fun h => kt ((iI_lt ha0 hb0).mp h) H locs ls hP hD hS hl) (fun h => kf (fun h2 => h ((iI_lt ha0 hb0).mpr h2)) H locs ls hP hD hS hl)
theorem j_if_lt (C : Cx p s m args c D tys A nL cc own) {off a : Int} (t q : Nat) (hdg : decode cc pc = .ok (.ifCond .lt off, 3)) (ht : (pc : Int) + off = (t : Int)) (hq : pc + 3 = q) (ha0 : (-2147483648 ≤ a ∧ a < 2147483648)) (kt : a < 0 → JJ p l e R s m args below meth c D A nL Q cells slots t lv st ws) (kf : ¬ (a < 0) → JJ p l e R s m args below meth c D A nL Q cells slots q lv st ws) : JJ p l e R s m args below meth c D A nL Q cells slots pc lv (.int (iI a) :: st) ws := by
  subst hq
  have hb0 : (-2147483648 : Int) ≤ 0 ∧ (0 : Int) < 2147483648 := by decide
  intro H locs ls hP hD hS hl
  exact lv_if_lt C.1 C.2.1 hdg ht (fun h => kt ((iI_lt (a := a) (b := 0) ha0 hb0).mp h) H locs ls hP hD hS hl) (fun h => kf (fun h2 => h ((iI_lt (a := a) (b := 0) ha0 hb0).mpr h2)) H locs ls hP hD hS hl)
theorem j_icmp_ge (C : Cx p s m args c D tys A nL cc own) {off a b : Int} (t q : Nat) (hdg : decode cc pc = .ok (.if_icmp .ge off, 3)) (ht : (pc : Int) + off = (t : Int)) (hq : pc + 3 = q) (ha0 : (-2147483648 ≤ a ∧ a < 2147483648)) (hb0 : (-2147483648 ≤ b ∧ b < 2147483648)) (kt : b ≤ a → JJ p l e R s m args below meth c D A nL Q cells slots t lv st ws) (kf : ¬ (b ≤ a) → JJ p l e R s m args below meth c D A nL Q cells slots q lv st ws) : JJ p l e R s m args below meth c D A nL Q cells slots pc lv (.int (iI b) :: .int (iI a) :: st) ws := by
  subst hq
  intro H locs ls hP hD hS hl
  exact lv_icmp_ge C.1 C.2.1 hdg ht (fun h => kt ((iI_le hb0 ha0).mp h) H locs ls hP hD hS hl) (fun h => kf (fun h2 => h ((iI_le hb0 ha0).mpr h2)) H locs ls hP hD hS hl)
theorem j_if_ge (C : Cx p s m args c D tys A nL cc own) {off a : Int} (t q : Nat) (hdg : decode cc pc = .ok (.ifCond .ge off, 3)) (ht : (pc : Int) + off = (t : Int)) (hq : pc + 3 = q) (ha0 : (-2147483648 ≤ a ∧ a < 2147483648)) (kt : 0 ≤ a → JJ p l e R s m args below meth c D A nL Q cells slots t lv st ws) (kf : ¬ (0 ≤ a) → JJ p l e R s m args below meth c D A nL Q cells slots q lv st ws) : JJ p l e R s m args below meth c D A nL Q cells slots pc lv (.int (iI a) :: st) ws := by
  subst hq
  have hb0 : (-2147483648 : Int) ≤ 0 ∧ (0 : Int) < 2147483648 := by decide
  intro H locs ls hP hD hS hl
  exact lv_if_ge C.1 C.2.1 hdg ht (fun h => kt ((iI_le (a := 0) (b := a) hb0 ha0).mp h) H locs ls hP hD hS hl) (fun h => kf (fun h2 => h ((iI_le (a := 0) (b := a) hb0 ha0).mpr h2)) H locs ls hP hD hS hl)
theorem j_icmp_gt (C : Cx p s m args c D tys A nL cc own) {off a b : Int} (t q : Nat) (hdg : decode cc pc = .ok (.if_icmp .gt off, 3)) (ht : (pc : Int) + off = (t : Int)) (hq : pc + 3 = q) (ha0 : (-2147483648 ≤ a ∧ a < 2147483648)) (hb0 : (-2147483648 ≤ b ∧ b < 2147483648)) (kt : b < a → JJ p l e R s m args below meth c D A nL Q cells slots t lv st ws) (kf : ¬ (b < a) → JJ p l e R s m args below meth c D A nL Q cells slots q lv st ws) : JJ p l e R s m args below meth c D A nL Q cells slots pc lv (.int (iI b) :: .int (iI a) :: st) ws := by
  subst hq
  intro H locs ls hP hD hS hl
  exact lv_icmp_gt C.1 C.2.1 hdg ht (fun h => kt ((iI_lt hb0 ha0).mp h) H locs ls hP hD hS hl) (fun h => kf (fun h2 => h ((iI_lt hb0 ha0).mpr h2)) H locs ls hP hD hS hl)
theorem j_if_gt (C : Cx p s m args c D tys A nL cc own) {off a : Int} (t q : Nat) (hdg : decode cc pc = .ok (.ifCond .gt off, 3)) (ht : (pc : Int) + off = (t : Int)) (hq : pc + 3 = q) (ha0 : (-2147483648 ≤ a ∧ a < 2147483648)) (kt : 0 < a → JJ p l e R s m args below meth c D A nL Q cells slots t lv st ws) (kf : ¬ (0 < a) → JJ p l e R s m args below meth c D A nL Q cells slots q lv st ws) : JJ p l e R s m args below meth c D A nL Q cells slots pc lv (.int (iI a) :: st) ws := by
  subst hq
  have hb0 : (-2147483648 : Int) ≤ 0 ∧ (0 : Int) < 2147483648 := by decide
  intro H locs ls hP hD hS hl
  exact lv_if_gt C.1 C.2.1 hdg ht (fun h => kt ((iI_lt (a := 0) (b := a) hb0 ha0).mp h) H locs ls hP hD hS hl) (fun h => kf (fun h2 => h ((iI_lt (a := 0) (b := a) hb0 ha0).mpr h2)) H locs ls hP hD hS hl)
theorem j_icmp_le (C : Cx p s m args c D tys A nL cc own) {off a b : Int} (t q : Nat) (hdg : decode cc pc = .ok (.if_icmp .le off, 3)) (ht : (pc : Int) + off = (t : Int)) (hq : pc + 3 = q) (ha0 : (-2147483648 ≤ a ∧ a < 2147483648)) (hb0 : (-2147483648 ≤ b ∧ b < 2147483648)) (kt : a ≤ b → JJ p l e R s m args below meth c D A nL Q cells slots t lv st ws) (kf : ¬ (a ≤ b) → JJ p l e R s m args below meth c D A nL Q cells slots q lv st ws) : JJ p l e R s m args below meth c D A nL Q cells slots pc lv (.int (iI b) :: .int (iI a) :: st) ws := by
  subst hq
  intro H locs ls hP hD hS hl
  exact lv_icmp_le C.1 C.2.1 hdg ht (fun h => kt ((iI_le ha0 hb0).mp h) H locs ls hP hD hS hl) (fun h => kf (fun h2 => h ((iI_le ha0 hb0).mpr h2)) H locs ls hP hD hS hl)
theorem j_if_le (C : Cx p s m args c D tys A nL cc own) {off a : Int} (t q : Nat) (hdg : decode cc pc = .ok (.ifCond .le off, 3)) (ht : (pc : Int) + off = (t : Int)) (hq : pc + 3 = q) (ha0 : (-2147483648 ≤ a ∧ a < 2147483648)) (kt : a ≤ 0 → JJ p l e R s m args below meth c D A nL Q cells slots t lv st ws) (kf : ¬ (a ≤ 0) → JJ p l e R s m args below meth c D A nL Q cells slots q lv st ws) : JJ p l e R s m args below meth c D A nL Q cells slots pc lv (.int (iI a) :: st) ws := by
  subst hq
  have hb0 : (-2147483648 : Int) ≤ 0 ∧ (0 : Int) < 2147483648 := by decide
  intro H locs ls hP hD hS hl
  exact lv_if_le C.1 C.2.1 hdg ht (fun h => kt ((iI_le (a := a) (b := 0) ha0 hb0).mp h) H locs ls hP hD hS hl) (fun h => kf (fun h2 => h ((iI_le (a := a) (b := 0) ha0 hb0).mpr h2)) H locs ls hP hD hS hl)
theorem j_lcmp (C : Cx p s m args c D tys A nL cc own) {q : Nat} {a b : Int} (ha0 : -9223372036854775808 ≤ a ∧ a < 9223372036854775808) (hb0 : -9223372036854775808 ≤ b ∧ b < 9223372036854775808) (hdg : decode cc pc = .ok (.lcmp, 1)) (hq : pc + 1 = q) (k : JJ p l e R s m args below meth c D A nL Q cells slots q lv (.int (iI (if b < a then 1 else if a = b then 0 else -1)) :: st) ws) : JJ p l e R s m args below meth c D A nL Q cells slots pc lv (.long (lI b) :: .long (lI a) :: st) ws := by
  subst hq
  intro H locs ls hP hD hS hl
  refine W.lcmp C.1 C.2.1 hdg ?_
  have e : lg_cmp (lI a) (lI b) = iI (if b < a then 1 else if a = b then 0 else -1) := by
    unfold lg_cmp
    have h1 : lI a > lI b ↔ b < a := lI_lt hb0 ha0
    have h2 : lI a = lI b ↔ a = b := ⟨fun h => by have := congrArg Int64.toInt h; rwa [lI_toInt ha0, lI_toInt hb0] at this, fun h => by rw [h]⟩
    by_cases c1 : b < a
    · rw [if_pos (h1.mpr c1), if_pos c1]; rfl
    · rw [if_neg (fun h => c1 (h1.mp h)), if_neg c1]
      by_cases c2 : a = b
      · rw [if_pos (h2.mpr c2), if_pos c2]; rfl
      · rw [if_neg (fun h => c2 (h2.mp h)), if_neg c2]; rfl
  rw [e]
  exact (k H locs ls hP hD hS hl)
theorem j_get (C : Cx p s m args c D tys A nL cc own) {CC : String} {T : u_T} {N ci index a q : Nat} {fs : List Value} {v : Value} (hin : ∀ w ∈ u_ws CC T N, w ∈ wtb) (hc : cls[ci]? = some (CC, T, N)) (q0 : Nat) (he : ws[q0]? = some (a, .inr (ci, fs))) (k0 : Nat) (hk : k0 < N) (hv : fs[k0]? = some v) (ht : (T k0).1 = CC) (hlink : Cond.fieldLink own index CC (T k0).2.1 (T k0).2.2.1 ∈ wtb) (hdg : decode cc pc = .ok (.getfield index, 3)) (hq : pc + 3 = q) (k : JJ p l e R s m args below meth c D A nL Q cells slots q lv (v :: st) ws) : JJ p l e R s m args below meth c D A nL Q cells slots pc lv (.ref a :: st) ws := by
  subst hq
  intro H locs ls hP hD hS hl
  exact va_get C.1 C.2.1 C.2.2.2.2.1 hin C.2.2.2.1 C.2.2.2.2.2.1 hP q0 he hc k0 hk (C.2.2.2.2.1 _ hlink) (fun _ h => by rw [ht] at h; exact h) hv hdg (k H locs ls hP hD hS hl)
theorem j_put (C : Cx p s m args c D tys A nL cc own) {CC : String} {T : u_T} {N ci index a q : Nat} {fs : List Value} {v : Value} {ty : FieldType} (hin : ∀ w ∈ u_ws CC T N, w ∈ wtb) (hc : cls[ci]? = some (CC, T, N)) (ty0 : Nat → FieldType) (hty : ∀ k, k < N → parseFieldDescriptor (T k).2.2.1 = some (ty0 k)) (hnm : ∀ a, a < N → ∀ b, b < N → a ≠ b → (T a).2.1 ≠ (T b).2.1) (q0 : Nat) (he : ws[q0]? = some (a, .inr (ci, fs))) (k0 : Nat) (hk : k0 < N) (ht : (T k0).1 = CC) (hlink : Cond.fieldLink own index CC (T k0).2.1 (T k0).2.2.1 ∈ wtb) (hfin : (T k0).2.2.2 = false) (hd : parseFieldDescriptor (T k0).2.2.1 = some ty) (hn : narrow ty v = v) (hfit : fits ty v = true) (hl0 : k0 < fs.length) (ws' : va_W) (hws : ws.set q0 (a, .inr (ci, fs.set k0 v)) = ws') (hdg : decode cc pc = .ok (.putfield index, 3)) (hq : pc + 3 = q) (k : JJ p l e R s m args below meth c D A nL Q cells slots q lv st ws') : JJ p l e R s m args below meth c D A nL Q cells slots pc lv (v :: .ref a :: st) ws := by
  subst hq
  subst hws
  intro H locs ls hP hD hS hl
  exact va_put C.1 C.2.1 C.2.2.2.2.1 hin ty0 hty hnm C.2.2.2.1 C.2.2.2.2.2.1 hP hD hS q0 he hc k0 hk (C.2.2.2.2.1 _ hlink) (fun _ h => by rw [ht] at h; exact h) hfin hd hn hfit hl0 hdg (fun H1 locs1 hP1 hD1 hS1 => k H1 locs1 ls hP1 hD1 hS1 hl)
theorem j_putF (C : Cx p s m args c D tys A nL cc own) {CC : String} {T : u_T} {N ci index a q : Nat} {fs : List Value} {v : Value} {ty : FieldType} (hin : ∀ w ∈ u_ws CC T N, w ∈ wtb) (hc : cls[ci]? = some (CC, T, N)) (ty0 : Nat → FieldType) (hty : ∀ k, k < N → parseFieldDescriptor (T k).2.2.1 = some (ty0 k)) (hnm : ∀ a, a < N → ∀ b, b < N → a ≠ b → (T a).2.1 ≠ (T b).2.1) (hi2 : meth.name = "<init>") (q0 : Nat) (he : ws[q0]? = some (a, .inr (ci, fs))) (k0 : Nat) (hk : k0 < N) (ht : (T k0).1 = CC) (hco : CC = own) (hlink : Cond.fieldLink own index CC (T k0).2.1 (T k0).2.2.1 ∈ wtb) (hfin : (T k0).2.2.2 = true) (hd : parseFieldDescriptor (T k0).2.2.1 = some ty) (hn : narrow ty v = v) (hfit : fits ty v = true) (hl0 : k0 < fs.length) (ws' : va_W) (hws : ws.set q0 (a, .inr (ci, fs.set k0 v)) = ws') (hdg : decode cc pc = .ok (.putfield index, 3)) (hq : pc + 3 = q) (k : JJ p l e R s m args below meth c D A nL Q cells slots q lv st ws') : JJ p l e R s m args below meth c D A nL Q cells slots pc lv (v :: .ref a :: st) ws := by
  subst hq
  subst hws
  intro H locs ls hP hD hS hl
  exact va_putF C.1 C.2.1 C.2.2.2.2.1 hin ty0 hty hnm C.2.2.2.1 C.2.2.2.2.2.1 hP hD hS q0 he hc k0 hk (C.2.2.2.2.1 _ hlink) (fun _ h => by rw [ht] at h; exact h) hfin hi2 (ht.trans hco) hd hn hfit hl0 hdg (fun H1 locs1 hP1 hD1 hS1 => k H1 locs1 ls hP1 hD1 hS1 hl)
theorem j_iald (C : Cx p s m args c D tys A nL cc own) {q a n : Nat} {cA : ClassId} {f : Nat → Int} {z : Int} (q0 t0 : Nat) (ha : ws[q0]? = some (a, aI cA n f)) (ht : tys[t0]? = some (cA, .int)) (hn : n < 2147483648) (hz : 0 ≤ z ∧ z < (n : Int)) (hdg : decode cc pc = .ok (.iaload, 1)) (hq : pc + 1 = q) (k : JJ p l e R s m args below meth c D A nL Q cells slots q lv (.int (iI (f z.toNat)) :: st) ws) : JJ p l e R s m args below meth c D A nL Q cells slots pc lv (.int (iI z) :: .ref a :: st) ws := by
  subst hq
  intro H locs ls hP hD hS hl
  refine va_iald C.1 C.2.1 C.2.2.2.2.2.1 hP q0 t0 ha ht (iI_in hz hn) hdg ?_
  rw [iI_clamp (by omega)]
  exact (k H locs ls hP hD hS hl)
theorem j_zald (C : Cx p s m args c D tys A nL cc own) {q a n : Nat} {cA : ClassId} {f : Nat → Int} {z : Int} (q0 t0 : Nat) (ha : ws[q0]? = some (a, aI cA n f)) (ht : tys[t0]? = some (cA, .boolean)) (hn : n < 2147483648) (hz : 0 ≤ z ∧ z < (n : Int)) (hdg : decode cc pc = .ok (.baload, 1)) (hq : pc + 1 = q) (k : JJ p l e R s m args below meth c D A nL Q cells slots q lv (.int (iI (f z.toNat)) :: st) ws) : JJ p l e R s m args below meth c D A nL Q cells slots pc lv (.int (iI z) :: .ref a :: st) ws := by
  subst hq
  intro H locs ls hP hD hS hl
  refine va_zald C.1 C.2.1 C.2.2.2.2.2.1 hP q0 t0 ha ht (iI_in hz hn) hdg ?_
  rw [iI_clamp (by omega)]
  exact (k H locs ls hP hD hS hl)
theorem j_iast (C : Cx p s m args c D tys A nL cc own) {q a n : Nat} {cA : ClassId} {f : Nat → Int} {z x : Int} (q0 t0 : Nat) (ha : ws[q0]? = some (a, aI cA n f)) (ht : tys[t0]? = some (cA, .int)) (hn : n < 2147483648) (hz : 0 ≤ z ∧ z < (n : Int)) (ws' : va_W) (hws : ws.set q0 (a, aI cA n (uI f z.toNat x)) = ws') (hdg : decode cc pc = .ok (.iastore, 1)) (hq : pc + 1 = q) (k : JJ p l e R s m args below meth c D A nL Q cells slots q lv st ws') : JJ p l e R s m args below meth c D A nL Q cells slots pc lv (.int (iI x) :: .int (iI z) :: .ref a :: st) ws := by
  subst hq
  subst hws
  intro H locs ls hP hD hS hl
  refine va_iast C.1 C.2.1 C.2.2.2.2.2.1 hP hD hS q0 t0 ha ht (iI_in hz hn) hdg ?_
  rw [iI_clamp (by omega), uI_upd]
  exact fun H1 locs1 hP1 hD1 hS1 => k H1 locs1 ls hP1 hD1 hS1 hl
theorem nar_b (x : Int) (hx : x = 0 ∨ x = 1) : vp_nar .boolean (iI x) = iI x := by
  rcases hx with rfl | rfl <;> rfl
theorem j_zast (C : Cx p s m args c D tys A nL cc own) {q a n : Nat} {cA : ClassId} {f : Nat → Int} {z x : Int} (q0 t0 : Nat) (ha : ws[q0]? = some (a, aI cA n f)) (ht : tys[t0]? = some (cA, .boolean)) (hn : n < 2147483648) (hz : 0 ≤ z ∧ z < (n : Int)) (hx : x = 0 ∨ x = 1) (ws' : va_W) (hws : ws.set q0 (a, aI cA n (uI f z.toNat x)) = ws') (hdg : decode cc pc = .ok (.bastore, 1)) (hq : pc + 1 = q) (k : JJ p l e R s m args below meth c D A nL Q cells slots q lv st ws') : JJ p l e R s m args below meth c D A nL Q cells slots pc lv (.int (iI x) :: .int (iI z) :: .ref a :: st) ws := by
  subst hq
  subst hws
  intro H locs ls hP hD hS hl
  refine va_zast C.1 C.2.1 C.2.2.2.2.2.1 hP hD hS q0 t0 ha ht (iI_in hz hn) hdg ?_
  rw [iI_clamp (by omega), nar_b x hx, uI_upd]
  exact fun H1 locs1 hP1 hD1 hS1 => k H1 locs1 ls hP1 hD1 hS1 hl
theorem j_alen (C : Cx p s m args c D tys A nL cc own) {q a n : Nat} {cA : ClassId} {f : Nat → Int} {ty : FieldType} (q0 t0 : Nat) (ha : ws[q0]? = some (a, aI cA n f)) (ht : tys[t0]? = some (cA, ty)) (hdg : decode cc pc = .ok (.arraylength, 1)) (hq : pc + 1 = q) (k : JJ p l e R s m args below meth c D A nL Q cells slots q lv (.int (iI (n : Int)) :: st) ws) : JJ p l e R s m args below meth c D A nL Q cells slots pc lv (.ref a :: st) ws := by
  subst hq
  intro H locs ls hP hD hS hl
  exact va_alen C.1 C.2.1 C.2.2.2.2.2.1 hP q0 t0 ha ht (iI_nat n) hdg (k H locs ls hP hD hS hl)
end JR
end
section
/-! CONTRACTS: on these values and in this world the method answers v and leaves the world w1 -/
def QD (D : va_G) (v : Option Value) (w1 : va_W) (A : Nat → Prop) : Array Value → State → Outcome → State → Prop := fun _ st oc t => (oc = .returned v ∧ va_P D cls w1 t.heap ∧ va_D A w1) ∧ va_F A st t
def PD (D : va_G) (tys : List (ClassId × FieldType)) (sz : Nat) (av : List Value) (w0 : va_W) : Array Value → State → Prop := va_Pc av (fun U => U.heap.size = sz ∧ va_P D cls w0 U.heap ∧ va_K D cls tys U ∧ va_D (fun _ => True) w0 ∧ NN U)
def Dt (l : Launch) (D : va_G) (tys : List (ClassId × FieldType)) (y : MethodName) (wds : List Cond) (rm : Room) (av : List Value) (w0 : va_W) (v : Option Value) (w1 : va_W) : Prop :=
  ∀ sz : Nat, Met l y wds rm (PD D tys sz av w0) (QD D v w1 (va_A w0 sz)) rm.cells rm.slots (va_A w0 sz)
/-- where the method makes cells: the world behind it has addresses that nobody knows -/
def QE (D : va_G) {ι : Type} (w1 : ι → va_W) (A : Nat → Prop) : Array Value → State → Outcome → State → Prop := fun _ st oc t => (∃ i : ι, oc = .returned none ∧ va_P D cls (w1 i) t.heap ∧ va_D A (w1 i)) ∧ va_F A st t
def De (l : Launch) (D : va_G) (tys : List (ClassId × FieldType)) (y : MethodName) (wds : List Cond) (rm : Room) (av : List Value) (w0 : va_W) {ι : Type} (w1 : ι → va_W) : Prop :=
  ∀ sz : Nat, Met l y wds rm (PD D tys sz av w0) (QE D w1 (va_A w0 sz)) rm.cells rm.slots (va_A w0 sz)
theorem PD.blind {D : va_G} {tys : List (ClassId × FieldType)} {sz : Nat} {av : List Value} {w0 : va_W} : FrameBlind (PD D tys sz av w0) := by
  intro a U g mk q
  obtain ⟨q0, q1, qP, qK, qD, qN⟩ := q
  exact ⟨q0, q1, qP, va_K.moved (u := U) (U := U.calling g mk a) (Vm.Alike.refl U.vm) qK, qD, NN.same (U := U.calling g mk a) rfl qN⟩
theorem Met.toJ {l : Launch} {D : va_G} {tys : List (ClassId × FieldType)} {y : MethodName} {rm : Room} {av : List Value} {w0 : va_W} {cc : ByteArray} {maxL n : Nat} {ret : Option FieldType} {own : String} (Qc : (Nat → Prop) → Array Value → State → Outcome → State → Prop)
    (hk : Mk y cc maxL ret n) (ho : y.cls = own) (hlen : (lg_sl av).length ≤ maxL)
    (body : ∀ (p : Program) (e : Env) (s : State) (m : MethodId) (args : Array Value) (below : List Frame) (meth : Method) (c : Code) (A : Nat → Prop), Cx p s m args c D tys A maxL cc own → meth.sig.returnType = ret → meth.locks = false → meth.name = y.name →
      JJ p l e rm s m args below meth c D A maxL (MQ below (Qc A) args s rm.cells rm.slots A) 0 0 0 (lv_args 0 av) [] w0) :
    ∀ sz : Nat, Met l y (Cond.code y cc maxL ret :: wtb) rm (PD D tys sz av w0) (Qc (va_A w0 sz)) rm.cells rm.slots (va_A w0 sz) := by
  intro sz
  refine va_MetF (cc := cc) (maxL := maxL) (ret := ret) hk.2.2.2.2.2 rfl ?_
  intro p e s m args below meth c s₁ B hml hv
  obtain ⟨rfl, hsz, hP, hK, hD0, hN⟩ := hv
  have hts := atoms_spec (ws := Cond.code y cc maxL ret :: wtb) B.pre
  have hown : s.vm.findClass own = some m.cls := by rw [← ho]; exact findClass_of_methodNamed B.named
  have hlocks := B.notSynchronized
  have hin : meth.name = y.name := (name_of_methodNamed B.named B.method).1
  subst hsz
  have hD := hD0.self (sz := s.heap.size)
  have hl := lv_entry av (n := maxL) hlen
  rw [lg_entry_eq]
  exact body p e s m _ below meth c (va_A w0 s.heap.size) ⟨B.exec, B.bytes, hml, hown, fun w h => hts w (List.mem_cons_of_mem _ h), hK, fun q h => Or.inr h, hN⟩ B.returns hlocks hin s.heap [] _ hP hD va_S.rf hl
section JC
variable {p : Program} {l : Launch} {e : Env} {R : Room} {s : State} {m : MethodId} {args : Array Value} {below : List Frame} {meth : Method} {c : Code} {D : va_G} {tys : List (ClassId × FieldType)} {A : Nat → Prop} {nL : Nat} {Q : State → Prop} {cells slots pc : Nat} {lv : List (Nat × Value)} {st : List Value} {ws : va_W} {cc : ByteArray} {own : String}
theorem j_widen {k n : Nat} (h1 : cells ≤ k) (h2 : slots ≤ n) (h : JJ p l e R s m args below meth c D A nL Q k n pc lv st ws) : JJ p l e R s m args below meth c D A nL Q cells slots pc lv st ws :=
  fun H locs ls hP hD hS hl => W.widen h1 h2 (h H locs ls hP hD hS hl)
/-- fewer locals -/
theorem j_lv {lv' : List (Nat × Value)} (is : List Nat) (h0 : lv_pick lv is = lv') (h : JJ p l e R s m args below meth c D A nL Q cells slots pc lv' st ws) : JJ p l e R s m args below meth c D A nL Q cells slots pc lv st ws :=
  fun H locs ls hP hD hS hl => h H locs ls hP hD hS (lv_sub hl is h0)
theorem j_iret (C : Cx p s m args c D tys A nL cc own) (hr : meth.sig.returnType = some .int) (hlk : meth.locks = false) {v : Option Value} {w1 : va_W} {x : Int32} (hdg : decode cc pc = .ok (.ireturn, 1)) (hv : v = some (.int x)) (hw : ws = w1) : JJ p l e R s m args below meth c D A nL (MQ below (QD D v w1 A) args s cells slots A) cells slots pc lv [.int x] ws := by
  subst hv
  subst hw
  intro H locs ls hP hD hS hl
  exact W.iret C.1 C.2.1 hr (fun t ht hW => ⟨⟨rfl, by rw [ht]; exact hP, hD⟩, hS.F ht⟩) hS.2.2 hdg hlk
theorem j_zret (C : Cx p s m args c D tys A nL cc own) (hr : meth.sig.returnType = some .boolean) (hlk : meth.locks = false) {v : Option Value} {w1 : va_W} {x : Int} (hx : x = 0 ∨ x = 1) (hdg : decode cc pc = .ok (.ireturn, 1)) (hv : v = some (.int (iI x))) (hw : ws = w1) : JJ p l e R s m args below meth c D A nL (MQ below (QD D v w1 A) args s cells slots A) cells slots pc lv [.int (iI x)] ws := by
  subst hv
  subst hw
  intro H locs ls hP hD hS hl
  exact W.zret (ty := .boolean) C.1 C.2.1 hr (by rcases hx with rfl | rfl <;> rfl) (fun t ht hW => ⟨⟨rfl, by rw [ht]; exact hP, hD⟩, hS.F ht⟩) hS.2.2 hdg hlk
theorem j_lret (C : Cx p s m args c D tys A nL cc own) (hr : meth.sig.returnType = some .long) (hlk : meth.locks = false) {v : Option Value} {w1 : va_W} {x : Int64} (hdg : decode cc pc = .ok (.lreturn, 1)) (hv : v = some (.long x)) (hw : ws = w1) : JJ p l e R s m args below meth c D A nL (MQ below (QD D v w1 A) args s cells slots A) cells slots pc lv [.long x] ws := by
  subst hv
  subst hw
  intro H locs ls hP hD hS hl
  exact W.lret C.1 C.2.1 hr (fun t ht hW => ⟨⟨rfl, by rw [ht]; exact hP, hD⟩, hS.F ht⟩) hS.2.2 hdg hlk
theorem j_vret (C : Cx p s m args c D tys A nL cc own) (hr : meth.sig.returnType = none) (hlk : meth.locks = false) {w1 : va_W} (hdg : decode cc pc = .ok (.return_, 1)) (hw : ws = w1) : JJ p l e R s m args below meth c D A nL (MQ below (QD D none w1 A) args s cells slots A) cells slots pc lv [] ws := by
  subst hw
  intro H locs ls hP hD hS hl
  exact W.vret C.1 C.2.1 hr (fun t ht hW => ⟨⟨rfl, by rw [ht]; exact hP, hD⟩, hS.F ht⟩) hS.2.2 hdg hlk
theorem j_eret (C : Cx p s m args c D tys A nL cc own) (hr : meth.sig.returnType = none) (hlk : meth.locks = false) {ι : Type} {w1 : ι → va_W} (i : ι) (hdg : decode cc pc = .ok (.return_, 1)) (hw : ws = w1 i) : JJ p l e R s m args below meth c D A nL (MQ below (QE D w1 A) args s cells slots A) cells slots pc lv [] ws := by
  subst hw
  intro H locs ls hP hD hS hl
  exact W.vret C.1 C.2.1 hr (fun t ht hW => ⟨⟨i, rfl, by rw [ht]; exact hP, hD⟩, hS.F ht⟩) hS.2.2 hdg hlk
/-- behind a call: what came back beside what stayed -/
theorem j_back (C : Cx p s m args c D tys A nL cc own) {H : Heap} {locs : List Loc} {ls : Array Slot} {mc ms q : Nat} {st0 rest st' : List Value} {wc wr w1 : va_W} {v : Option Value} {a : Array Value}
    (hP : va_P D cls ws H) (hD : va_D A ws) (hS : va_S A s.heap H locs) (hl : lv_has ls nL lv)
    (hr : va_Run p l e R s m args below meth c H locs cells slots mc ms (F0 m pc ls st0) rest (QD D v w1 (va_A wc H.size) a) (va_A wc H.size))
    (isC isR is : List Nat) (hC : isC.map (fun i => ws[i]?) = wc.map some) (hR : isR.map (fun i => ws[i]?) = wr.map some) (hn : va_nd isR = true) (hdis : ∀ i ∈ isR, i ∉ isC)
    (ws' : va_W) (h1 : is.map (fun i => (wr ++ w1)[i]?) = ws'.map some) (h2 : va_nd is = true) (hq : pc + 3 = q) (hst : v.toList ++ rest = st')
    (k : JJ p l e R s m args below meth c D A nL Q (cells + mc) (slots + ms) q lv st' ws') : W p l e R s m args below meth c H locs cells slots Q (F0 m pc ls st0) := by
  subst hq
  subst hst
  have hF := va_free (wc := wc) hD hS C.2.2.2.2.2.2.1 isC hC
  intro T hT X
  obtain ⟨v', st₀, t, T', L, h0, X', hL, e1, e2, ⟨⟨hv, hP1, hD1⟩, hz, hk⟩, stp⟩ := hr T hT X
  cases hv
  rw [h0] at hz hk
  rw [← e1] at hP1 hz hk
  obtain ⟨hPj, hDj⟩ := va_join hP hD isC isR hC hR hn hdis hk hF hP1 hD1
  have hPs : va_P D cls ws' T'.heap := by
    intro j qq hj
    have hh : (is.map (fun i => (wr ++ w1)[i]?))[j]? = some (some qq) := by rw [h1]; simp [hj]
    rw [List.getElem?_map] at hh
    cases hi : is[j]? with
    | none => rw [hi] at hh; cases hh
    | some i =>
      rw [hi] at hh
      exact hPj i qq (Option.some.inj hh)
  have hDs : va_D A ws' := hDj.sub is h2 h1
  obtain ⟨t2, a1, b1⟩ := k T'.heap (locs ++ L) ls hPs hDs ⟨Nat.le_trans hS.1 hz, fun q h1 h2 => by rw [hk q (Nat.lt_of_lt_of_le h1 hS.1) (fun z => h2 (hF q z))]; exact hS.2.1 q h1 h2, fun q hq => by
      rcases List.mem_append.mp hq with h | h
      · exact hS.2.2 q h
      · exact hF _ (hL q h)⟩ hl T' rfl X'
  exact ⟨t2, stp t2 a1, b1⟩
theorem j_pre (C : Cx p s m args c D tys A nL cc own) {H : Heap} {wc : va_W} (hP : va_P D cls ws H) (hD : va_D A ws) (isC : List Nat) (hC : isC.map (fun i => ws[i]?) = wc.map some) (hnC : va_nd isC = true) (av : List Value) : va_P D cls wc H ∧ ∀ U : State, U.heap = H → s.WarmedH U.vm → PD D tys H.size av wc av.toArray U := by
  have hPc : va_P D cls wc H := by
    intro j qq hj
    have hh : (isC.map (fun i => ws[i]?))[j]? = some (some qq) := by rw [hC]; simp [hj]
    rw [List.getElem?_map] at hh
    cases hi : isC[j]? with
    | none => rw [hi] at hh; cases hh
    | some i =>
      rw [hi] at hh
      exact hP i qq (Option.some.inj hh)
  have hDc : va_D A wc := hD.sub isC hnC hC
  exact ⟨hPc, fun U hU hW => ⟨rfl, by rw [hU], by rw [hU]; exact hPc, va_K.moved hW.alike C.2.2.2.2.2.1, hDc.weaken (fun _ _ _ _ => trivial), NN.warm hW C.2.2.2.2.2.2.2⟩⟩
theorem gV {own CC : String} {index mL n : Nat} {y : MethodName} {b : ByteArray} {ret : Option FieldType} (hm : Cond.methodLink own index y ∈ wtb) (hk : Mk y b mL ret n) (hi : Cond.instanceMethod y ∈ wtb) (hs : Cond.selects CC y y ∈ wtb) (hc : y.cls = CC) : GoodIn wtb (wsV own index CC y (Cond.code y b mL ret :: wtb)) := by
  subst hc
  intro w hw
  unfold wsV at hw
  rcases List.mem_append.mp hw with h | h
  · rcases List.mem_cons.mp h with h | h
    · rw [h]; exact ⟨hm, wtb_good hm⟩
    rcases List.mem_cons.mp h with h | h
    · rw [h]; exact ⟨hi, wtb_good hi⟩
    rcases List.mem_cons.mp h with h | h
    · rw [h]; exact ⟨hs, wtb_good hs⟩
    rcases List.mem_cons.mp h with h | h
    · rw [h]; exact ⟨hk.2.1, wtb_good hk.2.1⟩
    · exact absurd h List.not_mem_nil
  · exact wtb_cons hk.1 w h
theorem gS {own : String} {index mL n : Nat} {y : MethodName} {b : ByteArray} {ret : Option FieldType} (hm : Cond.methodLink own index y ∈ wtb) (hk : Mk y b mL ret n) (hs : Cond.static y ∈ wtb) : GoodIn wtb (va_wsS own index y (Cond.code y b mL ret :: wtb)) := by
  intro w hw
  unfold va_wsS at hw
  rcases List.mem_append.mp hw with h | h
  · rcases List.mem_cons.mp h with h | h
    · rw [h]; exact ⟨hm, wtb_good hm⟩
    rcases List.mem_cons.mp h with h | h
    · rw [h]; exact ⟨hs, wtb_good hs⟩
    rcases List.mem_cons.mp h with h | h
    · rw [h]; exact ⟨hk.2.1, wtb_good hk.2.1⟩
    · exact absurd h List.not_mem_nil
  · exact wtb_cons hk.1 w h
/-- invokevirtual -/
theorem j_callV (C : Cx p s m args c D tys A nL cc own) {index maxL n q : Nat} {y : MethodName} {bytes : ByteArray} {ret : Option FieldType} {rm : Room} {wc wr w1 : va_W} {v : Option Value} {CC : String} {T : u_T} {N ci b : Nat} {fs : List Value} (As rest : List Value) {st' : List Value}
    (hM : Dt l D tys y (Cond.code y bytes maxL ret :: wtb) rm (.ref b :: As) wc v w1) (hm : Cond.methodLink own index y ∈ wtb) (hk : Mk y bytes maxL ret n) (hi : Cond.instanceMethod y ∈ wtb) (hse : Cond.selects CC y y ∈ wtb) (hcc : y.cls = CC)
    (hc : cls[ci]? = some (CC, T, N)) (hwc : wc[0]? = some (b, .inr (ci, fs)))
    (isC isR is : List Nat) (hC : isC.map (fun i => ws[i]?) = wc.map some) (hnC : va_nd isC = true) (hR : isR.map (fun i => ws[i]?) = wr.map some) (hn : va_nd isR = true) (hdis : ∀ i ∈ isR, i ∉ isC)
    (ws' : va_W) (h1 : is.map (fun i => (wr ++ w1)[i]?) = ws'.map some) (h2 : va_nd is = true) (hst0 : As.reverse ++ .ref b :: rest = st) (hst : v.toList ++ rest = st') (hnn : As.length = n) (hcat : (rest.map fun v => v.category).sum ≤ 8)
    (hR0 : rm.frames + 1 ≤ R.frames ∧ 8 + (maxL + 11) + rm.locals ≤ R.locals) (hf : cells + rm.cells ≤ R.cells ∧ slots + rm.slots ≤ R.slots) (hdg : decode cc pc = .ok (.invokevirtual index, 3)) (hq : pc + 3 = q)
    (k : JJ p l e R s m args below meth c D A nL Q (cells + rm.cells) (slots + rm.slots) q lv st' ws') : JJ p l e R s m args below meth c D A nL Q cells slots pc lv st ws := by
  subst hst0
  intro H locs ls hP hD hS hl
  obtain ⟨hPc, hU⟩ := j_pre C hP hD isC hC hnC (.ref b :: As)
  exact j_back C hP hD hS hl (va_runV (As := As) (rest := rest) ⟨C.1, C.2.1, C.2.2.1, C.2.2.2.1, C.2.2.2.2.1⟩ (hM H.size) (cwV n C.2.2.2.2.1 (gV hm hk hi hse hcc) rfl rfl rfl ⟨hcc, hk.2.2.1, hk.2.2.2.1, hk.2.2.2.2.1⟩ hR0) ⟨PD.blind, va_recv C.2.2.2.2.2.1 hPc hc hwc, hU⟩ rfl hnn hl.1 rfl (lv_room hcat) hdg hf) isC isR is hC hR hn hdis ws' h1 h2 hq hst k
/-- invokestatic -/
theorem j_callS (C : Cx p s m args c D tys A nL cc own) {index maxL n q : Nat} {y : MethodName} {bytes : ByteArray} {ret : Option FieldType} {rm : Room} {wc wr w1 : va_W} {v : Option Value} (As rest : List Value) {st' : List Value}
    (hM : Dt l D tys y (Cond.code y bytes maxL ret :: wtb) rm As wc v w1) (hm : Cond.methodLink own index y ∈ wtb) (hk : Mk y bytes maxL ret n) (hs : Cond.static y ∈ wtb)
    (isC isR is : List Nat) (hC : isC.map (fun i => ws[i]?) = wc.map some) (hnC : va_nd isC = true) (hR : isR.map (fun i => ws[i]?) = wr.map some) (hn : va_nd isR = true) (hdis : ∀ i ∈ isR, i ∉ isC)
    (ws' : va_W) (h1 : is.map (fun i => (wr ++ w1)[i]?) = ws'.map some) (h2 : va_nd is = true) (hst0 : As.reverse ++ rest = st) (hst : v.toList ++ rest = st') (hnn : As.length = n) (hcat : (rest.map fun v => v.category).sum ≤ 8)
    (hR0 : rm.frames + 1 ≤ R.frames ∧ 8 + (maxL + 11) + rm.locals ≤ R.locals) (hf : cells + rm.cells ≤ R.cells ∧ slots + rm.slots ≤ R.slots) (hdg : decode cc pc = .ok (.invokestatic index, 3)) (hq : pc + 3 = q)
    (k : JJ p l e R s m args below meth c D A nL Q (cells + rm.cells) (slots + rm.slots) q lv st' ws') : JJ p l e R s m args below meth c D A nL Q cells slots pc lv st ws := by
  subst hst0
  intro H locs ls hP hD hS hl
  obtain ⟨hPc, hU⟩ := j_pre C hP hD isC hC hnC As
  exact j_back C hP hD hS hl (va_runS (As := As) (rest := rest) ⟨C.1, C.2.1, C.2.2.1, C.2.2.2.1, C.2.2.2.2.1⟩ (hM H.size) (va_cwS n C.2.2.2.2.1 (gS hm hk hs) rfl rfl rfl ⟨hk.2.2.1, hk.2.2.2.1, hk.2.2.2.2.1⟩ hR0) ⟨PD.blind, hU⟩ rfl hnn hl.1 rfl (lv_room hcat) hdg hf) isC isR is hC hR hn hdis ws' h1 h2 hq hst k
/-- invokestatic of a nest mate's private method -/
theorem j_callN (C : Cx p s m args c D tys A nL cc own) {index maxL n q : Nat} {y : MethodName} {bytes : ByteArray} {ret : Option FieldType} {rm : Room} {wc wr w1 : va_W} {v : Option Value} {host : String} (As rest : List Value) {st' : List Value} {nk : Nat}
    (hM : Dt l D tys y (Cond.code y bytes maxL ret :: wtb) rm As wc v w1) (hm : nst[nk]? = some (own, index, y, host)) (hk : Mk y bytes maxL ret n) (hs : Cond.static y ∈ wtb)
    (isC isR is : List Nat) (hC : isC.map (fun i => ws[i]?) = wc.map some) (hnC : va_nd isC = true) (hR : isR.map (fun i => ws[i]?) = wr.map some) (hn : va_nd isR = true) (hdis : ∀ i ∈ isR, i ∉ isC)
    (ws' : va_W) (h1 : is.map (fun i => (wr ++ w1)[i]?) = ws'.map some) (h2 : va_nd is = true) (hst0 : As.reverse ++ rest = st) (hst : v.toList ++ rest = st') (hnn : As.length = n) (hcat : (rest.map fun v => v.category).sum ≤ 8)
    (hR0 : rm.frames + 1 ≤ R.frames ∧ 8 + (maxL + 11) + rm.locals ≤ R.locals) (hf : cells + rm.cells ≤ R.cells ∧ slots + rm.slots ≤ R.slots) (hdg : decode cc pc = .ok (.invokestatic index, 3)) (hq : pc + 3 = q)
    (k : JJ p l e R s m args below meth c D A nL Q (cells + rm.cells) (slots + rm.slots) q lv st' ws') : JJ p l e R s m args below meth c D A nL Q cells slots pc lv st ws := by
  subst hst0
  intro H locs ls hP hD hS hl
  obtain ⟨hPc, hU⟩ := j_pre C hP hD isC hC hnC As
  exact j_back C hP hD hS hl (va_runSN (host := host) (As := As) (rest := rest) ⟨C.1, C.2.1, C.2.2.1, C.2.2.2.1, C.2.2.2.2.1⟩ (hM H.size) ⟨va_cnB n C.2.2.2.2.1 (wtb_cons hk.1) rfl rfl rfl (C.2.2.2.2.2.2.2 _ (List.mem_of_getElem? hm)) (C.2.2.2.2.1 _ hk.2.1) ⟨hk.2.2.1, hk.2.2.2.1, hk.2.2.2.2.1⟩ hR0, C.2.2.2.2.1 _ hs, trivial⟩ ⟨PD.blind, hU⟩ rfl hnn hl.1 rfl (lv_room hcat) hdg hf) isC isR is hC hR hn hdis ws' h1 h2 hq hst k
end JC
end
section
/-! choices by propositions, the least place, and the copying of arrays -/
noncomputable def ifP {α : Type} (p : Prop) (a b : α) : α := @ite α p (Classical.propDecidable p) a b
theorem ifP_t {α : Type} {p : Prop} {a b : α} (h : p) : ifP p a b = a := by unfold ifP; exact if_pos h
theorem ifP_f {α : Type} {p : Prop} {a b : α} (h : ¬ p) : ifP p a b = b := by unfold ifP; exact if_neg h
theorem ifP_c {α : Type} {p q : Prop} {a b : α} (h : p ↔ q) : ifP p a b = ifP q a b := by
  by_cases hp : p
  · rw [ifP_t hp, ifP_t (h.mp hp)]
  · rw [ifP_f hp, ifP_f (fun x => hp (h.mpr x))]
noncomputable def bI (p : Prop) : Int := ifP p 1 0
theorem bI_1 {p : Prop} (h : p) : bI p = 1 := ifP_t h
theorem bI_0 {p : Prop} (h : ¬ p) : bI p = 0 := ifP_f h
theorem bI_r (p : Prop) : 0 ≤ bI p ∧ bI p ≤ 1 := by
  by_cases h : p
  · rw [bI_1 h]; omega
  · rw [bI_0 h]; omega
theorem bI_z {p : Prop} (h : bI p = 0) : ¬ p := fun hp => by rw [bI_1 hp] at h; omega
theorem bI_n {p : Prop} (h : ¬ bI p = 0) : p := Classical.byContradiction fun hp => h (bI_0 hp)
theorem bI_c {p q : Prop} (h : p ↔ q) : bI p = bI q := ifP_c h
/-- the least j from 0 on below n of which p says yes; n when there is none -/
theorem lst_ex (p : Int → Prop) (n : Int) : ∃ r : Int, (0 ≤ r ∧ r < n ∧ p r ∧ ∀ j, 0 ≤ j → j < r → ¬ p j) ∨ (r = n ∧ ∀ j, 0 ≤ j → j < n → ¬ p j) := by
  by_cases h : ∃ k : Nat, (k : Int) < n ∧ p k
  · obtain ⟨k, ⟨h1, h2⟩, h3⟩ := pk_least (fun k : Nat => (k : Int) < n ∧ p k) h
    refine ⟨k, Or.inl ⟨by omega, h1, h2, fun j hj hk hp => ?_⟩⟩
    obtain ⟨i, rfl⟩ := Int.eq_ofNat_of_zero_le hj
    exact h3 i (by omega) ⟨by omega, hp⟩
  · refine ⟨n, Or.inr ⟨rfl, fun j hj hk hp => h ?_⟩⟩
    obtain ⟨i, rfl⟩ := Int.eq_ofNat_of_zero_le hj
    exact ⟨i, hk, hp⟩
noncomputable def lst (p : Int → Prop) (n : Int) : Int := Classical.choose (lst_ex p n)
theorem lst_sp (p : Int → Prop) (n : Int) : (0 ≤ lst p n ∧ lst p n < n ∧ p (lst p n) ∧ ∀ j, 0 ≤ j → j < lst p n → ¬ p j) ∨ (lst p n = n ∧ ∀ j, 0 ≤ j → j < n → ¬ p j) := Classical.choose_spec (lst_ex p n)
theorem lst_at {p : Int → Prop} {n r : Int} (h1 : 0 ≤ r) (h2 : r < n) (h3 : p r) (h4 : ∀ j, 0 ≤ j → j < r → ¬ p j) : lst p n = r := by
  rcases lst_sp p n with ⟨g1, g2, g3, g4⟩ | ⟨g1, g2⟩
  · rcases Int.lt_trichotomy (lst p n) r with h | h | h
    · exact absurd g3 (h4 _ g1 h)
    · exact h
    · exact absurd h3 (g4 _ h1 h)
  · exact absurd h3 (g2 r h1 h2)
theorem lst_no {p : Int → Prop} {n : Int} (h : ∀ j, 0 ≤ j → j < n → ¬ p j) : lst p n = n := by
  rcases lst_sp p n with ⟨g1, g2, g3, g4⟩ | ⟨g1, g2⟩
  · exact absurd g3 (h _ g1 g2)
  · exact g1
theorem lst_c {p q : Int → Prop} {n : Int} (h : ∀ j, 0 ≤ j → j < n → (p j ↔ q j)) : lst p n = lst q n := by
  rcases lst_sp p n with ⟨g1, g2, g3, g4⟩ | ⟨g1, g2⟩
  · exact (lst_at g1 g2 ((h _ g1 g2).mp g3) (fun j h1 h2 hq => g4 j h1 h2 ((h j h1 (by omega)).mpr hq))).symm
  · rw [g1]
    exact (lst_no (fun j h1 h2 hq => g2 j h1 h2 ((h j h1 h2).mpr hq))).symm
theorem cpy_iI (f g : Nat → Int) (sp dp n : Nat) : va_cpy (fun j => iI (f j)) (fun j => iI (g j)) sp dp n = fun j => iI (va_cpy f g sp dp n j) := by
  funext j
  simp only [va_cpy]
  split <;> rfl
section JCP
variable {p : Program} {l : Launch} {e : Env} {R : Room} {s : State} {m : MethodId} {args : Array Value} {below : List Frame} {meth : Method} {c : Code} {D : va_G} {tys : List (ClassId × FieldType)} {A : Nat → Prop} {nL : Nat} {Q : State → Prop} {cells slots pc : Nat} {lv : List (Nat × Value)} {st : List Value} {ws : va_W} {cc : ByteArray} {own : String}
theorem j_copy (C : Cx p s m args c D tys A nL cc own) {q index a0 a n0 n1 : Nat} {c0 c1 : ClassId} {f g : Nat → Int} {sp dp n : Int} (q0 q1 t0 t1 : Nat) (ha0 : ws[q0]? = some (a0, aI c0 n0 f)) (ha1 : ws[q1]? = some (a, aI c1 n1 g)) (ht0 : tys[t0]? = some (c0, .int)) (ht1 : tys[t1]? = some (c1, .int)) (hn0 : n0 < 2147483648) (hn1 : n1 < 2147483648) (h : 0 ≤ sp ∧ 0 ≤ dp ∧ 0 ≤ n ∧ sp + n ≤ (n0 : Int) ∧ dp + n ≤ (n1 : Int)) (hm : Cond.methodLink own index arraycopyName ∈ wtb)
    (hfr : 1 ≤ R.frames) (hlo : (st.map fun v => v.category).sum + (nativeFrameWords "java/lang/System" "arraycopy" 5 + 11) ≤ R.locals) (ws' : va_W) (hws : ws.set q1 (a, aI c1 n1 (va_cpy f g sp.toNat dp.toNat n.toNat)) = ws') (hdg : decode cc pc = .ok (.invokestatic index, 3)) (hq : pc + 3 = q)
    (k : JJ p l e R s m args below meth c D A nL Q cells slots q lv st ws') : JJ p l e R s m args below meth c D A nL Q cells slots pc lv (.int (iI n) :: .int (iI dp) :: .ref a :: .int (iI sp) :: .ref a0 :: st) ws := by
  subst hq
  subst hws
  intro H locs ls hP hD hS hl
  obtain ⟨h1, h2, h3, h4, h5⟩ := h
  have e1 : (iI sp).toNatClampNeg = sp.toNat := iI_clamp (by omega)
  have e2 : (iI dp).toNatClampNeg = dp.toNat := iI_clamp (by omega)
  have e3 : (iI n).toNatClampNeg = n.toNat := iI_clamp (by omega)
  have nn : ∀ z : Int, 0 ≤ z → z < 2147483648 → ¬ iI z < 0 := fun z hz hz2 hh => by
    have := (iI_lt (a := z) (b := 0) (by omega) (by omega)).mp hh
    omega
  refine va_copyi C.1 C.2.1 (C.2.2.1.trans hl.1.symm) C.2.2.2.1 (C.2.2.2.2.1 _ hm) (C.2.2.2.2.1 _ ac_na) (C.2.2.2.2.1 _ ac_st) (C.2.2.2.2.1 _ ac_ini) C.2.2.2.2.2.1 hP hD hS q0 q1 t0 t1 ha0 ha1 ht0 ht1 rfl (nn sp h1 (by omega)) (nn dp h2 (by omega)) (nn n h3 (by omega)) (by rw [e1, e3]; omega) (by rw [e2, e3]; omega) (fun i hi => rfl) hfr hlo hdg ?_
  rw [e1, e2, e3, cpy_iI]
  exact fun H1 locs1 hP1 hD1 hS1 => k H1 locs1 ls hP1 hD1 hS1 hl
end JCP
end
section
/-! contracts whose world behind has a part that nobody knows -/
def QX (D : va_G) {ι : Type} (v : Option Value) (w1 : ι → va_W) (A : Nat → Prop) : Array Value → State → Outcome → State → Prop := fun _ st oc t => (∃ i : ι, oc = .returned v ∧ va_P D cls (w1 i) t.heap ∧ va_D A (w1 i)) ∧ va_F A st t
def Dx (l : Launch) (D : va_G) (tys : List (ClassId × FieldType)) (y : MethodName) (wds : List Cond) (rm : Room) (av : List Value) (w0 : va_W) {ι : Type} (v : Option Value) (w1 : ι → va_W) : Prop :=
  ∀ sz : Nat, Met l y wds rm (PD D tys sz av w0) (QX D v w1 (va_A w0 sz)) rm.cells rm.slots (va_A w0 sz)
section JX
variable {p : Program} {l : Launch} {e : Env} {R : Room} {s : State} {m : MethodId} {args : Array Value} {below : List Frame} {meth : Method} {c : Code} {D : va_G} {tys : List (ClassId × FieldType)} {A : Nat → Prop} {nL : Nat} {Q : State → Prop} {cells slots pc : Nat} {lv : List (Nat × Value)} {st : List Value} {ws : va_W} {cc : ByteArray} {own : String}
theorem j_vretX (C : Cx p s m args c D tys A nL cc own) (hr : meth.sig.returnType = none) (hlk : meth.locks = false) {ι : Type} {w1 : ι → va_W} (i : ι) (hdg : decode cc pc = .ok (.return_, 1)) (hw : ws = w1 i) : JJ p l e R s m args below meth c D A nL (MQ below (QX D none w1 A) args s cells slots A) cells slots pc lv [] ws := by
  subst hw
  intro H locs ls hP hD hS hl
  exact W.vret C.1 C.2.1 hr (fun t ht hW => ⟨⟨i, rfl, by rw [ht]; exact hP, hD⟩, hS.F ht⟩) hS.2.2 hdg hlk
theorem j_iretX (C : Cx p s m args c D tys A nL cc own) (hr : meth.sig.returnType = some .int) (hlk : meth.locks = false) {ι : Type} {v : Option Value} {w1 : ι → va_W} {x : Int32} (i : ι) (hdg : decode cc pc = .ok (.ireturn, 1)) (hv : v = some (.int x)) (hw : ws = w1 i) : JJ p l e R s m args below meth c D A nL (MQ below (QX D v w1 A) args s cells slots A) cells slots pc lv [.int x] ws := by
  subst hv
  subst hw
  intro H locs ls hP hD hS hl
  exact W.iret C.1 C.2.1 hr (fun t ht hW => ⟨⟨i, rfl, by rw [ht]; exact hP, hD⟩, hS.F ht⟩) hS.2.2 hdg hlk
theorem j_backX (C : Cx p s m args c D tys A nL cc own) {H : Heap} {locs : List Loc} {ls : Array Slot} {mc ms q : Nat} {st0 rest st' : List Value} {wc wr : va_W} {ι : Type} {w1 : ι → va_W} {v : Option Value} {a : Array Value}
    (hP : va_P D cls ws H) (hD : va_D A ws) (hS : va_S A s.heap H locs) (hl : lv_has ls nL lv)
    (hr : va_Run p l e R s m args below meth c H locs cells slots mc ms (F0 m pc ls st0) rest (QX D v w1 (va_A wc H.size) a) (va_A wc H.size))
    (isC isR is : List Nat) (hC : isC.map (fun i => ws[i]?) = wc.map some) (hR : isR.map (fun i => ws[i]?) = wr.map some) (hn : va_nd isR = true) (hdis : ∀ i ∈ isR, i ∉ isC)
    (ws' : ι → va_W) (h1 : ∀ j, is.map (fun i => (wr ++ w1 j)[i]?) = (ws' j).map some) (h2 : va_nd is = true) (hq : pc + 3 = q) (hst : v.toList ++ rest = st')
    (k : ∀ j, JJ p l e R s m args below meth c D A nL Q (cells + mc) (slots + ms) q lv st' (ws' j)) : W p l e R s m args below meth c H locs cells slots Q (F0 m pc ls st0) := by
  subst hq
  subst hst
  have hF := va_free (wc := wc) hD hS C.2.2.2.2.2.2.1 isC hC
  intro T hT X
  obtain ⟨v', st₀, t, T', L, h0, X', hL, e1, e2, ⟨⟨j, hv, hP1, hD1⟩, hz, hk⟩, stp⟩ := hr T hT X
  cases hv
  rw [h0] at hz hk
  rw [← e1] at hP1 hz hk
  obtain ⟨hPj, hDj⟩ := va_join hP hD isC isR hC hR hn hdis hk hF hP1 hD1
  have hPs : va_P D cls (ws' j) T'.heap := by
    intro j2 qq hj
    have hh : (is.map (fun i => (wr ++ w1 j)[i]?))[j2]? = some (some qq) := by rw [h1 j]; simp [hj]
    rw [List.getElem?_map] at hh
    cases hi : is[j2]? with
    | none => rw [hi] at hh; cases hh
    | some i =>
      rw [hi] at hh
      exact hPj i qq (Option.some.inj hh)
  have hDs : va_D A (ws' j) := hDj.sub is h2 (h1 j)
  obtain ⟨t2, a1, b1⟩ := k j T'.heap (locs ++ L) ls hPs hDs ⟨Nat.le_trans hS.1 hz, fun q h1 h2 => by rw [hk q (Nat.lt_of_lt_of_le h1 hS.1) (fun z => h2 (hF q z))]; exact hS.2.1 q h1 h2, fun q hq => by
      rcases List.mem_append.mp hq with h | h
      · exact hS.2.2 q h
      · exact hF _ (hL q h)⟩ hl T' rfl X'
  exact ⟨t2, stp t2 a1, b1⟩
theorem j_callVX (C : Cx p s m args c D tys A nL cc own) {index maxL n q : Nat} {y : MethodName} {bytes : ByteArray} {ret : Option FieldType} {rm : Room} {wc wr : va_W} {ι : Type} {w1 : ι → va_W} {v : Option Value} {CC : String} {T : u_T} {N ci b : Nat} {fs : List Value} (As rest : List Value) {st' : List Value}
    (hM : Dx l D tys y (Cond.code y bytes maxL ret :: wtb) rm (.ref b :: As) wc v w1) (hm : Cond.methodLink own index y ∈ wtb) (hk : Mk y bytes maxL ret n) (hi : Cond.instanceMethod y ∈ wtb) (hse : Cond.selects CC y y ∈ wtb) (hcc : y.cls = CC)
    (hc : cls[ci]? = some (CC, T, N)) (hwc : wc[0]? = some (b, .inr (ci, fs)))
    (isC isR is : List Nat) (hC : isC.map (fun i => ws[i]?) = wc.map some) (hnC : va_nd isC = true) (hR : isR.map (fun i => ws[i]?) = wr.map some) (hn : va_nd isR = true) (hdis : ∀ i ∈ isR, i ∉ isC)
    (ws' : ι → va_W) (h1 : ∀ j, is.map (fun i => (wr ++ w1 j)[i]?) = (ws' j).map some) (h2 : va_nd is = true) (hst0 : As.reverse ++ .ref b :: rest = st) (hst : v.toList ++ rest = st') (hnn : As.length = n) (hcat : (rest.map fun v => v.category).sum ≤ 8)
    (hR0 : rm.frames + 1 ≤ R.frames ∧ 8 + (maxL + 11) + rm.locals ≤ R.locals) (hf : cells + rm.cells ≤ R.cells ∧ slots + rm.slots ≤ R.slots) (hdg : decode cc pc = .ok (.invokevirtual index, 3)) (hq : pc + 3 = q)
    (k : ∀ j, JJ p l e R s m args below meth c D A nL Q (cells + rm.cells) (slots + rm.slots) q lv st' (ws' j)) : JJ p l e R s m args below meth c D A nL Q cells slots pc lv st ws := by
  subst hst0
  intro H locs ls hP hD hS hl
  obtain ⟨hPc, hU⟩ := j_pre C hP hD isC hC hnC (.ref b :: As)
  exact j_backX C hP hD hS hl (va_runV (As := As) (rest := rest) ⟨C.1, C.2.1, C.2.2.1, C.2.2.2.1, C.2.2.2.2.1⟩ (hM H.size) (cwV n C.2.2.2.2.1 (gV hm hk hi hse hcc) rfl rfl rfl ⟨hcc, hk.2.2.1, hk.2.2.2.1, hk.2.2.2.2.1⟩ hR0) ⟨PD.blind, va_recv C.2.2.2.2.2.1 hPc hc hwc, hU⟩ rfl hnn hl.1 rfl (lv_room hcat) hdg hf) isC isR is hC hR hn hdis ws' h1 h2 hq hst k
/-- invokespecial of a constructor that makes cells -/
theorem j_callI (C : Cx p s m args c D tys A nL cc own) {index maxL n q : Nat} {y : MethodName} {bytes : ByteArray} {rm : Room} {wc wr : va_W} {ι : Type} {w1 : ι → va_W} {b : Nat} (As rest : List Value) {st' : List Value}
    (hM : Dx l D tys y (Cond.code y bytes maxL none :: wtb) rm (.ref b :: As) wc none w1) (hm : Cond.methodLink own index y ∈ wtb) (hk : Mk y bytes maxL none n) (hi : Cond.instanceMethod y ∈ wtb) (hy : y.name = "<init>")
    (isC isR is : List Nat) (hC : isC.map (fun i => ws[i]?) = wc.map some) (hnC : va_nd isC = true) (hR : isR.map (fun i => ws[i]?) = wr.map some) (hn : va_nd isR = true) (hdis : ∀ i ∈ isR, i ∉ isC)
    (ws' : ι → va_W) (h1 : ∀ j, is.map (fun i => (wr ++ w1 j)[i]?) = (ws' j).map some) (h2 : va_nd is = true) (hst0 : As.reverse ++ .ref b :: rest = st) (hnn : As.length = n) (hcat : (rest.map fun v => v.category).sum ≤ 8)
    (hR0 : rm.frames + 1 ≤ R.frames ∧ 8 + (maxL + 11) + rm.locals ≤ R.locals) (hf : cells + rm.cells ≤ R.cells ∧ slots + rm.slots ≤ R.slots) (hdg : decode cc pc = .ok (.invokespecial index, 3)) (hq : pc + 3 = q)
    (k : ∀ j, JJ p l e R s m args below meth c D A nL Q (cells + rm.cells) (slots + rm.slots) q lv rest (ws' j)) : JJ p l e R s m args below meth c D A nL Q cells slots pc lv st ws := by
  subst hst0
  intro H locs ls hP hD hS hl
  obtain ⟨hPc, hU⟩ := j_pre C hP hD isC hC hnC (.ref b :: As)
  exact j_backX C hP hD hS hl (va_runI (As := As) (rest := rest) ⟨C.1, C.2.1, C.2.2.1, C.2.2.2.1, C.2.2.2.2.1⟩ (hM H.size) (cwI n C.2.2.2.2.1 (wtb_cons hk.1) rfl rfl rfl (C.2.2.2.2.1 _ hk.2.1) (C.2.2.2.2.1 _ hm) (C.2.2.2.2.1 _ hi) hy ⟨hk.2.2.1, hk.2.2.2.1, hk.2.2.2.2.1⟩ hR0) ⟨PD.blind, hU⟩ rfl hnn hl.1 rfl (lv_room hcat) hdg hf) isC isR is hC hR hn hdis ws' h1 h2 hq rfl k
theorem j_callIN (C : Cx p s m args c D tys A nL cc own) {index maxL n q nk : Nat} {y : MethodName} {bytes : ByteArray} {rm : Room} {wc wr : va_W} {ι : Type} {w1 : ι → va_W} {b : Nat} {host : String} (As rest : List Value) {st' : List Value}
    (hM : Dx l D tys y (Cond.code y bytes maxL none :: wtb) rm (.ref b :: As) wc none w1) (hm : nst[nk]? = some (own, index, y, host)) (hk : Mk y bytes maxL none n) (hi : Cond.instanceMethod y ∈ wtb) (hy : y.name = "<init>")
    (isC isR is : List Nat) (hC : isC.map (fun i => ws[i]?) = wc.map some) (hnC : va_nd isC = true) (hR : isR.map (fun i => ws[i]?) = wr.map some) (hn : va_nd isR = true) (hdis : ∀ i ∈ isR, i ∉ isC)
    (ws' : ι → va_W) (h1 : ∀ j, is.map (fun i => (wr ++ w1 j)[i]?) = (ws' j).map some) (h2 : va_nd is = true) (hst0 : As.reverse ++ .ref b :: rest = st) (hnn : As.length = n) (hcat : (rest.map fun v => v.category).sum ≤ 8)
    (hR0 : rm.frames + 1 ≤ R.frames ∧ 8 + (maxL + 11) + rm.locals ≤ R.locals) (hf : cells + rm.cells ≤ R.cells ∧ slots + rm.slots ≤ R.slots) (hdg : decode cc pc = .ok (.invokespecial index, 3)) (hq : pc + 3 = q)
    (k : ∀ j, JJ p l e R s m args below meth c D A nL Q (cells + rm.cells) (slots + rm.slots) q lv rest (ws' j)) : JJ p l e R s m args below meth c D A nL Q cells slots pc lv st ws := by
  subst hst0
  intro H locs ls hP hD hS hl
  obtain ⟨hPc, hU⟩ := j_pre C hP hD isC hC hnC (.ref b :: As)
  exact j_backX C hP hD hS hl (va_runIN (host := host) (As := As) (rest := rest) ⟨C.1, C.2.1, C.2.2.1, C.2.2.2.1, C.2.2.2.2.1⟩ (hM H.size) ⟨va_cnB n C.2.2.2.2.1 (wtb_cons hk.1) rfl rfl rfl (C.2.2.2.2.2.2.2 _ (List.mem_of_getElem? hm)) (C.2.2.2.2.1 _ hk.2.1) ⟨hk.2.2.1, hk.2.2.2.1, hk.2.2.2.2.1⟩ hR0, hy, C.2.2.2.2.1 _ hi⟩ ⟨PD.blind, hU⟩ rfl hnn hl.1 rfl (lv_room hcat) hdg hf) isC isR is hC hR hn hdis ws' h1 h2 hq rfl k
/-- new, and a new array of ints or booleans -/
theorem j_new (C : Cx p s m args c D tys A nL cc own) {CC : String} {T : u_T} {N ci index q : Nat} {fs : List Value} (hin : ∀ w ∈ u_ws CC T N, w ∈ wtb) (ty0 : Nat → FieldType) (hty : ∀ k, k < N → parseFieldDescriptor (T k).2.2.1 = some (ty0 k)) (hc : cls[ci]? = some (CC, T, N)) (hcl : Cond.classLink own index CC ∈ wtb) (his : Cond.instantiable CC N ∈ wtb) (hini : Cond.initialized CC ∈ wtb) (hfs : ∀ j, j < N → defaultValue (ty0 j) = vp_V fs j) (hcells : cells + 1 ≤ R.cells) (hslots : slots + N ≤ R.slots) (hdg : decode cc pc = .ok (.new index, 3)) (hq : pc + 3 = q)
    (k : ∀ h : Nat, JJ p l e R s m args below meth c D A nL Q (cells + 1) (slots + N) q lv (.ref h :: st) (ws ++ [(h, .inr (ci, fs))])) : JJ p l e R s m args below meth c D A nL Q cells slots pc lv st ws := by
  subst hq
  intro H locs ls hP hD hS hl
  exact va_new C.1 C.2.1 C.2.2.2.2.1 hin ty0 hty C.2.2.2.1 (C.2.2.2.2.1 _ hcl) (C.2.2.2.2.1 _ his) (C.2.2.2.2.1 _ hini) C.2.2.2.2.2.1 hP hD hS C.2.2.2.2.2.2.1 hc hfs hcells hslots hdg (fun h H1 hP1 hD1 hS1 => k h H1 locs ls hP1 hD1 hS1 hl)
theorem j_newI (C : Cx p s m args c D tys A nL cc own) {q N : Nat} {cA : ClassId} {z : Int} (t0 : Nat) (ht : tys[t0]? = some (cA, .int)) (hz : z = (N : Int)) (hN : N < 100000) (hcells : cells + 1 ≤ R.cells) (hslots : slots + N ≤ R.slots) (hdg : decode cc pc = .ok (.newarray .int, 2)) (hq : pc + 2 = q)
    (k : ∀ h : Nat, JJ p l e R s m args below meth c D A nL Q (cells + 1) (slots + N) q lv (.ref h :: st) (ws ++ [(h, aI cA N (fun _ => 0))])) : JJ p l e R s m args below meth c D A nL Q cells slots pc lv (.int (iI z) :: st) ws := by
  subst hq
  subst hz
  intro H locs ls hP hD hS hl
  have hK := C.2.2.2.2.2.1
  refine va_newa (atype := .int) (ty := .int) (a0 := (N, .inl (fun _ => iI 0))) C.1 C.2.1 (C.2.2.2.2.1 _ ar_I) rfl hK hP hD hS C.2.2.2.2.2.2.1 (fun _ => rfl) (fun hh => by have := (iI_lt (a := (N : Int)) (b := 0) (by omega) (by omega)).mp hh; omega) (by rw [iI_clamp (by omega)]; rfl) (by show N * 4 ≤ _; omega) hcells hslots hdg (fun h cA2 H1 hK1 hP1 hD1 hS1 => ?_)
  have e1 : s.vm.findClass ("[" ++ FieldType.int.toString) = some cA2 := (hK1.2 tys.length (cA2, .int) (by simp)).2
  have e2 : s.vm.findClass ("[" ++ FieldType.int.toString) = some cA := (hK.2 t0 (cA, .int) ht).2
  have e3 : cA2 = cA := Option.some.inj (e1.symm.trans e2)
  subst e3
  exact k h H1 locs ls hP1 hD1 hS1 hl
theorem j_newZ (C : Cx p s m args c D tys A nL cc own) {q N : Nat} {cA : ClassId} {z : Int} (t0 : Nat) (ht : tys[t0]? = some (cA, .boolean)) (hz : z = (N : Int)) (hN : N < 100000) (hcells : cells + 1 ≤ R.cells) (hslots : slots + N ≤ R.slots) (hdg : decode cc pc = .ok (.newarray .boolean, 2)) (hq : pc + 2 = q)
    (k : ∀ h : Nat, JJ p l e R s m args below meth c D A nL Q (cells + 1) (slots + N) q lv (.ref h :: st) (ws ++ [(h, aI cA N (fun _ => 0))])) : JJ p l e R s m args below meth c D A nL Q cells slots pc lv (.int (iI z) :: st) ws := by
  subst hq
  subst hz
  intro H locs ls hP hD hS hl
  have hK := C.2.2.2.2.2.1
  refine va_newa (atype := .boolean) (ty := .boolean) (a0 := (N, .inl (fun _ => iI 0))) C.1 C.2.1 (C.2.2.2.2.1 _ ar_Z) rfl hK hP hD hS C.2.2.2.2.2.2.1 (fun _ => rfl) (fun hh => by have := (iI_lt (a := (N : Int)) (b := 0) (by omega) (by omega)).mp hh; omega) (by rw [iI_clamp (by omega)]; rfl) (by show N * 1 ≤ _; omega) hcells hslots hdg (fun h cA2 H1 hK1 hP1 hD1 hS1 => ?_)
  have e1 : s.vm.findClass ("[" ++ FieldType.boolean.toString) = some cA2 := (hK1.2 tys.length (cA2, .boolean) (by simp)).2
  have e2 : s.vm.findClass ("[" ++ FieldType.boolean.toString) = some cA := (hK.2 t0 (cA, .boolean) ht).2
  have e3 : cA2 = cA := Option.some.inj (e1.symm.trans e2)
  subst e3
  exact k h H1 locs ls hP1 hD1 hS1 hl
theorem j_oinit (C : Cx p s m args c D tys A nL cc own) {index q a : Nat} (hm : Cond.methodLink own index objectInit ∈ wtb) (hfr : 1 ≤ R.frames) (hlo : (st.map fun v => v.category).sum + 12 ≤ R.locals) (hdg : decode cc pc = .ok (.invokespecial index, 3)) (hq : pc + 3 = q)
    (k : JJ p l e R s m args below meth c D A nL Q cells slots q lv st ws) : JJ p l e R s m args below meth c D A nL Q cells slots pc lv (.ref a :: st) ws := by
  subst hq
  intro H locs ls hP hD hS hl
  refine W.objInit C.1 C.2.1 C.2.2.2.1 (C.2.2.2.2.1 _ hm) (C.2.2.2.2.1 _ oi_in) (C.2.2.2.2.1 _ oi_co) rfl (by rw [C.2.2.1]; exact hl.1) rfl hdg hfr (by show 2 * 0 + _ + 12 ≤ _; omega) ?_
  exact k H locs ls hP hD hS hl
end JX
end
section
/-! remainders of any number, exclusive or: by sign -/
def tm (a b : Int) : Int := if 0 ≤ a then a % b else -((-a) % b)
theorem iI_rems {a b : Int} (ha : -2147483648 ≤ a ∧ a < 2147483648) (hb : 0 < b ∧ b < 2147483648) : iI a - iI a / iI b * iI b = iI (tm a b) := by
  by_cases c : 0 ≤ a
  · rw [iI_rem (by omega) hb, show tm a b = a % b from if_pos c]
  · have e0 : a.tdiv b = -((-a) / b) := by
      rw [show a = -(-a) from by omega, Int.neg_tdiv, Int.tdiv_eq_ediv_of_nonneg (by omega), show (- -a : Int) = a from by omega]
    have r0 : 0 ≤ (-a) / b := Int.ediv_nonneg (by omega) (by omega)
    have r1 : (-a) / b ≤ -a := Int.ediv_le_self _ (by omega)
    have e1 : iI a / iI b = iI (-((-a) / b)) := by
      apply Int32.toInt_inj.mp
      rw [Int32.toInt_div_of_ne_right _ _ (fun h => by
        have h2 := congrArg Int32.toInt h
        rw [iI_toInt (by omega)] at h2
        have h3 : (-1 : Int32).toInt = -1 := by decide
        omega), iI_toInt ha, iI_toInt (by omega), iI_toInt (by omega), e0]
    rw [e1, iI_mul, iI_sub]
    congr 1
    rw [show tm a b = -((-a) % b) from if_neg c]
    have h4 := Int.mul_ediv_add_emod (-a) b
    rw [Int.mul_comm] at h4
    rw [Int.neg_mul]
    omega
def xr (a b : Int) : Int := (iI a ^^^ iI b).toInt
theorem xr_r (a b : Int) : -2147483648 ≤ xr a b ∧ xr a b < 2147483648 := iI_rg _
theorem xr_s {a b : Int} (ha : -2147483648 ≤ a ∧ a < 2147483648) (hb : 0 ≤ b ∧ b < 2147483648) : xr a b < 0 ↔ a < 0 := by
  have h1 : (iI b).toBitVec.msb = false := by
    rw [BitVec.msb_eq_toInt]
    simp only [decide_eq_false_iff_not]
    show ¬ (iI b).toInt < 0
    rw [iI_toInt (by omega)]
    omega
  have h2 : (iI a).toBitVec.msb = decide (a < 0) := by
    rw [BitVec.msb_eq_toInt]
    show decide ((iI a).toInt < 0) = _
    rw [iI_toInt ha]
  have h3 : ((iI a).toBitVec ^^^ (iI b).toBitVec).msb = decide (a < 0) := by
    rw [BitVec.msb_xor, h1, h2]
    simp
  rw [BitVec.msb_eq_toInt] at h3
  have h4 : xr a b = ((iI a).toBitVec ^^^ (iI b).toBitVec).toInt := rfl
  rw [h4]
  exact decide_eq_decide.mp h3
section JREM
variable {p : Program} {l : Launch} {e : Env} {R : Room} {s : State} {m : MethodId} {args : Array Value} {below : List Frame} {meth : Method} {c : Code} {D : va_G} {tys : List (ClassId × FieldType)} {A : Nat → Prop} {nL : Nat} {Q : State → Prop} {cells slots pc : Nat} {lv : List (Nat × Value)} {st : List Value} {ws : va_W} {cc : ByteArray} {own : String}
theorem j_iremT (C : Cx p s m args c D tys A nL cc own) {q : Nat} {a b : Int} (ha : -2147483648 ≤ a ∧ a < 2147483648) (hb : 0 < b ∧ b < 2147483648) (hdg : decode cc pc = .ok (.irem, 1)) (hq : pc + 1 = q) (k : JJ p l e R s m args below meth c D A nL Q cells slots q lv (.int (iI (tm a b)) :: st) ws) : JJ p l e R s m args below meth c D A nL Q cells slots pc lv (.int (iI b) :: .int (iI a) :: st) ws := by
  subst hq
  intro H locs ls hP hD hS hl
  exact lv_irem C.1 C.2.1 hdg (fun h => by have := (iI_eq (a := b) (b := 0) (by omega) (by omega)).mp h; omega) (by rw [iI_rems ha hb]; exact k H locs ls hP hD hS hl)
theorem j_ixor (C : Cx p s m args c D tys A nL cc own) {q : Nat} {a b : Int} (hdg : decode cc pc = .ok (.ixor, 1)) (hq : pc + 1 = q) (k : JJ p l e R s m args below meth c D A nL Q cells slots q lv (.int (iI (xr a b)) :: st) ws) : JJ p l e R s m args below meth c D A nL Q cells slots pc lv (.int (iI b) :: .int (iI a) :: st) ws := by
  subst hq
  intro H locs ls hP hD hS hl
  exact lv_ixor C.1 C.2.1 hdg (by rw [← iI_self (iI a ^^^ iI b)]; exact k H locs ls hP hD hS hl)
end JREM
end
section
abbrev ty2 (kI kZ : ClassId) : List (ClassId × FieldType) := [(kI, .int), (kZ, .boolean)]
def wW (kI kZ : ClassId) (x : Nat → Nat) (P : Nat → Int) (L : Nat → Int) (C : Nat → Int) (n : Int) (k : Int) : va_W := [(x 1, .inr (6, [.ref (x 2), .ref (x 3), .ref (x 4), .int (iI (n)), .int (iI (k))])), (x 2, aI kI 480 P), (x 3, aI kI 60 L), (x 4, aI kI 8 C)]
def wK (kI kZ : ClassId) (x : Nat → Nat) (S : Nat → Int) (B : Nat → Int) (E : Nat → Int) (Z : Nat → Int) (V : Nat → Int) (n : Int) (w : Int) : va_W := [(x 5, .inr (0, [.ref (x 6), .ref (x 7), .ref (x 8), .ref (x 9), .ref (x 10), .int (iI (n)), .int (iI (w))])), (x 6, aI kI 60 S), (x 7, aI kI 30 B), (x 8, aI kI 30 E), (x 9, aI kZ 26 Z), (x 10, aI kI 26 V)]
def wP (kI kZ : ClassId) (x : Nat → Nat) (W : Nat → Int) : va_W := [(x 11, .inr (1, [.ref (x 12)])), (x 12, aI kI 676 W)]
def wR (kI kZ : ClassId) (x : Nat → Nat) (P : Nat → Int) (S : Nat → Int) (n : Int) : va_W := [(x 13, .inr (3, [.ref (x 14), .ref (x 15), .int (iI (n))])), (x 14, aI kI 5200 P), (x 15, aI kI 200 S)]
def wY (kI kZ : ClassId) (x : Nat → Nat) (P : Nat → Int) : va_W := [(x 17, aI kI 26 P)]
def wS (kI kZ : ClassId) (x : Nat → Nat) (T : Nat → Int) (G : Nat → Int) (g : Int) (a : Int) (m : Int) (f : Int) (s : Int) : va_W := [(x 16, .inr (4, [.ref (x 1), .ref (x 5), .ref (x 13), .ref (x 17), .ref (x 18), .ref (x 19), .int (iI (g)), .int (iI (a)), .int (iI (m)), .int (iI (f)), .int (iI (s))])), (x 18, aI kZ 26 T), (x 19, aI kI 26 G)]
def wX (kI kZ : ClassId) (x : Nat → Nat) (P : Nat → Int) (n : Int) : va_W := [(x 20, .inr (2, [.ref (x 21), .int (iI (n))])), (x 21, aI kI 60 P)]
def wB (kI kZ : ClassId) (x : Nat → Nat) (F : Nat → Int) : va_W := [(x 22, .inr (5, [.ref (x 1), .ref (x 20), .ref (x 23)])), (x 23, aI kI 61 F)]
def wC (kI kZ : ClassId) (x : Nat → Nat)  : va_W := [(x 0, .inr (7, [.ref (x 1), .ref (x 5), .ref (x 11), .ref (x 13), .ref (x 16), .ref (x 20), .ref (x 22)]))]
def bP (a : Int) : Int := if 0 ≤ a ∧ a < 26 then 1 else 0
theorem bP_r (a : Int) : 0 ≤ bP a ∧ bP a ≤ 1 := by unfold bP; split <;> omega
theorem bP_0 {a : Int} (h : bP a = 0) : ¬ (0 ≤ a ∧ a < 26) := by unfold bP at h; split at h <;> omega
theorem bP_1 {a : Int} (h : ¬ bP a = 0) : 0 ≤ a ∧ a < 26 := by unfold bP at h; split at h <;> omega
def plOf (a : Int) : Int := if 97 ≤ a ∧ a < 123 then a - 97 else -1
theorem plOf_r (a : Int) : -1 ≤ plOf a ∧ plOf a < 26 := by unfold plOf; split <;> omega
def leOf (a : Int) : Int := if 0 ≤ a ∧ a < 26 then a + 97 else -1
def shL (a b : Int) : Int := if a = -1 then -1 else leOf ((a + b) % 26)
section JL
variable {p : Program} {l : Launch} {e : Env} {R : Room} {s : State} {m : MethodId} {args : Array Value} {below : List Frame} {meth : Method} {c : Code} {D : va_G} {tys : List (ClassId × FieldType)} {A : Nat → Prop} {nL : Nat} {Q : State → Prop} {cells slots pc : Nat} {lv : List (Nat × Value)} {st : List Value} {ws : va_W} {cc : ByteArray} {own : String}
theorem j_lconst0 (C : Cx p s m args c D tys A nL cc own) {q : Nat} (hdg : decode cc pc = .ok (.lconst 0, 1)) (hq : pc + 1 = q) (k : JJ p l e R s m args below meth c D A nL Q cells slots q lv (.long (lI 0) :: st) ws) : JJ p l e R s m args below meth c D A nL Q cells slots pc lv st ws := j_lconst (n := 0) C hdg hq k
end JL
end
section
set_option maxRecDepth 100000 in
set_option maxHeartbeats 4000000 in
theorem c_C_isPlace {l : Launch} {D : va_G} (kI kZ : ClassId) (x : Nat → Nat) (a : Int) (ha : (-2147483648 ≤ a ∧ a < 2147483648)) : Dt l D (ty2 kI kZ) y_C_isPlace w_C_isPlace { frames := 0, cells := 0, slots := 0, locals := 0 } [.int (iI (a))] ([]) (some (.int (iI (bP a)))) ([]) := by
  refine Met.toJ (own := R_C) (QD D (some (.int (iI (bP a)))) ([])) mk_C_isPlace rfl (Nat.le_of_ble_eq_true rfl) ?_
  intro p e s m args below meth c A C hr hlk hnm
  show JJ p l e { frames := 0, cells := 0, slots := 0, locals := 0 } s m args below meth c D A 1 (MQ below (QD D (some (.int (iI (bP a)))) ([]) A) args s 0 0 A) 0 0 0 [(0, .int (iI (a)))] [] ([])
  refine j_iload_n (q := 1) C 0 rfl d_C_isPlace_0 rfl ?_
  refine j_if_lt C 14 4 d_C_isPlace_1 rfl rfl (by omega) (fun c1 => ?_) (fun c1 => ?_)
  · refine j_iconst (q := 15) C d_C_isPlace_14 rfl ?_
    exact j_zret C hr hlk (by omega) d_C_isPlace_15 (congrArg (fun z => some (Value.int (iI z))) (show (bP a) = (0) from by unfold bP; split <;> omega)) rfl
  · refine j_iload_n (q := 5) C 0 rfl d_C_isPlace_4 rfl ?_
    refine j_bipush (q := 7) C d_C_isPlace_5 rfl rfl ?_
    refine j_icmp_ge C 14 10 d_C_isPlace_7 rfl rfl (by omega) (by omega) (fun c2 => ?_) (fun c2 => ?_)
    · refine j_iconst (q := 15) C d_C_isPlace_14 rfl ?_
      first | (exfalso; omega) | exact j_zret C hr hlk (by omega) d_C_isPlace_15 (congrArg (fun z => some (Value.int (iI z))) (show (bP a) = (0) from by unfold bP; split <;> omega)) rfl
    · refine j_iconst (q := 11) C d_C_isPlace_10 rfl ?_
      refine j_goto C 15 d_C_isPlace_11 rfl ?_
      first | (exfalso; omega) | exact j_zret C hr hlk (by omega) d_C_isPlace_15 (congrArg (fun z => some (Value.int (iI z))) (show (bP a) = (1) from by unfold bP; split <;> omega)) rfl
set_option maxRecDepth 100000 in
set_option maxHeartbeats 4000000 in
theorem c_C_isNumber {l : Launch} {D : va_G} (kI kZ : ClassId) (x : Nat → Nat) (a : Int) (ha : (-2147483648 ≤ a ∧ a < 2147483648)) : Dt l D (ty2 kI kZ) y_C_isNumber w_C_isNumber { frames := 0, cells := 0, slots := 0, locals := 0 } [.int (iI (a))] ([]) (some (.int (iI (bP a)))) ([]) := by
  refine Met.toJ (own := R_C) (QD D (some (.int (iI (bP a)))) ([])) mk_C_isNumber rfl (Nat.le_of_ble_eq_true rfl) ?_
  intro p e s m args below meth c A C hr hlk hnm
  show JJ p l e { frames := 0, cells := 0, slots := 0, locals := 0 } s m args below meth c D A 1 (MQ below (QD D (some (.int (iI (bP a)))) ([]) A) args s 0 0 A) 0 0 0 [(0, .int (iI (a)))] [] ([])
  refine j_iload_n (q := 1) C 0 rfl d_C_isNumber_0 rfl ?_
  refine j_if_lt C 14 4 d_C_isNumber_1 rfl rfl (by omega) (fun c1 => ?_) (fun c1 => ?_)
  · refine j_iconst (q := 15) C d_C_isNumber_14 rfl ?_
    exact j_zret C hr hlk (by omega) d_C_isNumber_15 (congrArg (fun z => some (Value.int (iI z))) (show (bP a) = (0) from by unfold bP; split <;> omega)) rfl
  · refine j_iload_n (q := 5) C 0 rfl d_C_isNumber_4 rfl ?_
    refine j_bipush (q := 7) C d_C_isNumber_5 rfl rfl ?_
    refine j_icmp_ge C 14 10 d_C_isNumber_7 rfl rfl (by omega) (by omega) (fun c2 => ?_) (fun c2 => ?_)
    · refine j_iconst (q := 15) C d_C_isNumber_14 rfl ?_
      first | (exfalso; omega) | exact j_zret C hr hlk (by omega) d_C_isNumber_15 (congrArg (fun z => some (Value.int (iI z))) (show (bP a) = (0) from by unfold bP; split <;> omega)) rfl
    · refine j_iconst (q := 11) C d_C_isNumber_10 rfl ?_
      refine j_goto C 15 d_C_isNumber_11 rfl ?_
      first | (exfalso; omega) | exact j_zret C hr hlk (by omega) d_C_isNumber_15 (congrArg (fun z => some (Value.int (iI z))) (show (bP a) = (1) from by unfold bP; split <;> omega)) rfl
set_option maxRecDepth 100000 in
set_option maxHeartbeats 4000000 in
theorem c_C_placeOf {l : Launch} {D : va_G} (kI kZ : ClassId) (x : Nat → Nat) (a : Int) (ha : (-2147483648 ≤ a ∧ a < 2147483648)) : Dt l D (ty2 kI kZ) y_C_placeOf w_C_placeOf { frames := 0, cells := 0, slots := 0, locals := 0 } [.int (iI (a))] ([]) (some (.int (iI (plOf a)))) ([]) := by
  refine Met.toJ (own := R_C) (QD D (some (.int (iI (plOf a)))) ([])) mk_C_placeOf rfl (Nat.le_of_ble_eq_true rfl) ?_
  intro p e s m args below meth c A C hr hlk hnm
  show JJ p l e { frames := 0, cells := 0, slots := 0, locals := 0 } s m args below meth c D A 2 (MQ below (QD D (some (.int (iI (plOf a)))) ([]) A) args s 0 0 A) 0 0 0 [(0, .int (iI (a)))] [] ([])
  refine j_iload_n (q := 1) C 0 rfl d_C_placeOf_0 rfl ?_
  refine j_bipush (q := 3) C d_C_placeOf_1 rfl rfl ?_
  refine j_icmp_lt C 16 6 d_C_placeOf_3 rfl rfl (by omega) (by omega) (fun c1 => ?_) (fun c1 => ?_)
  · refine j_iconst (q := 17) C d_C_placeOf_16 rfl ?_
    refine j_istore_n (q := 18) C [(0, .int (iI (a))), (1, .int (iI (0)))] rfl (by decide) d_C_placeOf_17 rfl ?_
    refine j_iload_n (q := 19) C 1 rfl d_C_placeOf_18 rfl ?_
    refine j_if_eq C 29 22 d_C_placeOf_19 rfl rfl (by omega) (fun c2 => ?_) (fun c2 => ?_)
    · refine j_iconst (q := 30) C d_C_placeOf_29 rfl ?_
      first | (exfalso; omega) | exact j_iret C hr hlk d_C_placeOf_30 (congrArg (fun z => some (Value.int (iI z))) (show (plOf a) = (-1) from by unfold plOf; split <;> omega)) rfl
    · exfalso; omega
  · refine j_iload_n (q := 7) C 0 rfl d_C_placeOf_6 rfl ?_
    refine j_bipush (q := 9) C d_C_placeOf_7 rfl rfl ?_
    refine j_icmp_ge C 16 12 d_C_placeOf_9 rfl rfl (by omega) (by omega) (fun c3 => ?_) (fun c3 => ?_)
    · refine j_iconst (q := 17) C d_C_placeOf_16 rfl ?_
      refine j_istore_n (q := 18) C [(0, .int (iI (a))), (1, .int (iI (0)))] rfl (by decide) d_C_placeOf_17 rfl ?_
      refine j_iload_n (q := 19) C 1 rfl d_C_placeOf_18 rfl ?_
      refine j_if_eq C 29 22 d_C_placeOf_19 rfl rfl (by omega) (fun c4 => ?_) (fun c4 => ?_)
      · refine j_iconst (q := 30) C d_C_placeOf_29 rfl ?_
        first | (exfalso; omega) | exact j_iret C hr hlk d_C_placeOf_30 (congrArg (fun z => some (Value.int (iI z))) (show (plOf a) = (-1) from by unfold plOf; split <;> omega)) rfl
      · exfalso; omega
    · refine j_iconst (q := 13) C d_C_placeOf_12 rfl ?_
      refine j_goto C 17 d_C_placeOf_13 rfl ?_
      refine j_istore_n (q := 18) C [(0, .int (iI (a))), (1, .int (iI (1)))] rfl (by decide) d_C_placeOf_17 rfl ?_
      refine j_iload_n (q := 19) C 1 rfl d_C_placeOf_18 rfl ?_
      refine j_if_eq C 29 22 d_C_placeOf_19 rfl rfl (by omega) (fun c5 => ?_) (fun c5 => ?_)
      · exfalso; omega
      · refine j_iload_n (q := 23) C 0 rfl d_C_placeOf_22 rfl ?_
        refine j_bipush (q := 25) C d_C_placeOf_23 rfl rfl ?_
        refine j_isub (q := 26) C d_C_placeOf_25 rfl ?_
        refine j_goto C 30 d_C_placeOf_26 rfl ?_
        first | (exfalso; omega) | exact j_iret C hr hlk d_C_placeOf_30 (congrArg (fun z => some (Value.int (iI z))) (show (plOf a) = (a - 97) from by unfold plOf; split <;> omega)) rfl
set_option maxRecDepth 100000 in
set_option maxHeartbeats 4000000 in
theorem c_C_letterOf {l : Launch} {D : va_G} (kI kZ : ClassId) (x : Nat → Nat) (a : Int) (ha : (-2147483648 ≤ a ∧ a < 2147483648)) : Dt l D (ty2 kI kZ) y_C_letterOf w_C_letterOf { frames := 1, cells := 0, slots := 0, locals := 20 } [.int (iI (a))] ([]) (some (.int (iI (leOf a)))) ([]) := by
  refine Met.toJ (own := R_C) (QD D (some (.int (iI (leOf a)))) ([])) mk_C_letterOf rfl (Nat.le_of_ble_eq_true rfl) ?_
  intro p e s m args below meth c A C hr hlk hnm
  show JJ p l e { frames := 1, cells := 0, slots := 0, locals := 20 } s m args below meth c D A 1 (MQ below (QD D (some (.int (iI (leOf a)))) ([]) A) args s 0 0 A) 0 0 0 [(0, .int (iI (a)))] [] ([])
  refine j_iload_n (q := 1) C 0 rfl d_C_letterOf_0 rfl ?_
  have e1 := bP_r a
  refine j_callS (q := 4) (wr := []) C [.int (iI (a))] [] (c_C_isPlace kI kZ x a (by omega)) ml_C_168 mk_C_isPlace st_C_isPlace [] [] [] rfl (by decide) rfl (by decide) (by decide) ([]) rfl (by decide) rfl rfl rfl (Nat.le_of_ble_eq_true rfl) ⟨Nat.le_of_ble_eq_true rfl, Nat.le_of_ble_eq_true rfl⟩ ⟨Nat.le_of_ble_eq_true rfl, Nat.le_of_ble_eq_true rfl⟩ d_C_letterOf_1 rfl ?_
  refine j_if_eq C 14 7 d_C_letterOf_4 rfl rfl (by omega) (fun c1 => ?_) (fun c1 => ?_)
  · have c1 := bP_0 c1
    refine j_iconst (q := 15) C d_C_letterOf_14 rfl ?_
    exact j_iret C hr hlk d_C_letterOf_15 (congrArg (fun z => some (Value.int (iI z))) (show (leOf a) = (-1) from by unfold leOf; split <;> omega)) rfl
  · have c1 := bP_1 c1
    refine j_iload_n (q := 8) C 0 rfl d_C_letterOf_7 rfl ?_
    refine j_bipush (q := 10) C d_C_letterOf_8 rfl rfl ?_
    refine j_iadd (q := 11) C d_C_letterOf_10 rfl ?_
    refine j_goto C 15 d_C_letterOf_11 rfl ?_
    exact j_iret C hr hlk d_C_letterOf_15 (congrArg (fun z => some (Value.int (iI z))) (show (leOf a) = (a + 97) from by unfold leOf; split <;> omega)) rfl
set_option maxRecDepth 100000 in
set_option maxHeartbeats 4000000 in
theorem c_C_shiftedPlace {l : Launch} {D : va_G} (kI kZ : ClassId) (x : Nat → Nat) (a b : Int) (ha : 0 ≤ a ∧ a < 26) (hb : 0 ≤ b ∧ b < 26) : Dt l D (ty2 kI kZ) y_C_shiftedPlace w_C_shiftedPlace { frames := 0, cells := 0, slots := 0, locals := 0 } [.int (iI (a)), .int (iI (b))] ([]) (some (.int (iI ((a + b) % 26)))) ([]) := by
  refine Met.toJ (own := R_C) (QD D (some (.int (iI ((a + b) % 26)))) ([])) mk_C_shiftedPlace rfl (Nat.le_of_ble_eq_true rfl) ?_
  intro p e s m args below meth c A C hr hlk hnm
  show JJ p l e { frames := 0, cells := 0, slots := 0, locals := 0 } s m args below meth c D A 2 (MQ below (QD D (some (.int (iI ((a + b) % 26)))) ([]) A) args s 0 0 A) 0 0 0 [(0, .int (iI (a))), (1, .int (iI (b)))] [] ([])
  refine j_iload_n (q := 1) C 0 rfl d_C_shiftedPlace_0 rfl ?_
  refine j_iload_n (q := 2) C 1 rfl d_C_shiftedPlace_1 rfl ?_
  refine j_iadd (q := 3) C d_C_shiftedPlace_2 rfl ?_
  refine j_bipush (q := 5) C d_C_shiftedPlace_3 rfl rfl ?_
  refine j_irem (q := 6) C (by omega) (by omega) d_C_shiftedPlace_5 rfl ?_
  exact j_iret C hr hlk d_C_shiftedPlace_6 rfl rfl
set_option maxRecDepth 100000 in
set_option maxHeartbeats 4000000 in
theorem c_C_shiftedLetter {l : Launch} {D : va_G} (kI kZ : ClassId) (x : Nat → Nat) (a b : Int) (ha : -1 ≤ a ∧ a < 26) (hb : 0 ≤ b ∧ b < 26) : Dt l D (ty2 kI kZ) y_C_shiftedLetter w_C_shiftedLetter { frames := 2, cells := 0, slots := 0, locals := 40 } [.int (iI (a)), .int (iI (b))] ([]) (some (.int (iI (shL a b)))) ([]) := by
  refine Met.toJ (own := R_C) (QD D (some (.int (iI (shL a b)))) ([])) mk_C_shiftedLetter rfl (Nat.le_of_ble_eq_true rfl) ?_
  intro p e s m args below meth c A C hr hlk hnm
  show JJ p l e { frames := 2, cells := 0, slots := 0, locals := 40 } s m args below meth c D A 2 (MQ below (QD D (some (.int (iI (shL a b)))) ([]) A) args s 0 0 A) 0 0 0 [(0, .int (iI (a))), (1, .int (iI (b)))] [] ([])
  refine j_iload_n (q := 1) C 0 rfl d_C_shiftedLetter_0 rfl ?_
  refine j_iconst (q := 2) C d_C_shiftedLetter_1 rfl ?_
  refine j_icmp_ne C 9 5 d_C_shiftedLetter_2 rfl rfl (by omega) (by omega) (fun c1 => ?_) (fun c1 => ?_)
  · refine j_iload_n (q := 10) C 0 rfl d_C_shiftedLetter_9 rfl ?_
    refine j_iload_n (q := 11) C 1 rfl d_C_shiftedLetter_10 rfl ?_
    have e11 : 0 ≤ (a + b) % 26 ∧ (a + b) % 26 < 26 := by omega
    refine j_callS (q := 14) (wr := []) C [.int (iI (a)), .int (iI (b))] [] (c_C_shiftedPlace kI kZ x a b (by omega) (by omega)) ml_C_165 mk_C_shiftedPlace st_C_shiftedPlace [] [] [] rfl (by decide) rfl (by decide) (by decide) ([]) rfl (by decide) rfl rfl rfl (Nat.le_of_ble_eq_true rfl) ⟨Nat.le_of_ble_eq_true rfl, Nat.le_of_ble_eq_true rfl⟩ ⟨Nat.le_of_ble_eq_true rfl, Nat.le_of_ble_eq_true rfl⟩ d_C_shiftedLetter_11 rfl ?_
    have e14 : -1 ≤ leOf ((a + b) % 26) ∧ leOf ((a + b) % 26) < 123 := by unfold leOf; split <;> omega
    refine j_callS (q := 17) (wr := []) C [.int (iI ((a + b) % 26))] [] (c_C_letterOf kI kZ x ((a + b) % 26) (by omega)) ml_C_102 mk_C_letterOf st_C_letterOf [] [] [] rfl (by decide) rfl (by decide) (by decide) ([]) rfl (by decide) rfl rfl rfl (Nat.le_of_ble_eq_true rfl) ⟨Nat.le_of_ble_eq_true rfl, Nat.le_of_ble_eq_true rfl⟩ ⟨Nat.le_of_ble_eq_true rfl, Nat.le_of_ble_eq_true rfl⟩ d_C_shiftedLetter_14 rfl ?_
    exact j_iret C hr hlk d_C_shiftedLetter_17 (congrArg (fun z => some (Value.int (iI z))) (show (shL a b) = (leOf ((a + b) % 26)) from by unfold shL; split <;> first | rfl | omega)) rfl
  · refine j_iconst (q := 6) C d_C_shiftedLetter_5 rfl ?_
    refine j_goto C 17 d_C_shiftedLetter_6 rfl ?_
    exact j_iret C hr hlk d_C_shiftedLetter_17 (congrArg (fun z => some (Value.int (iI z))) (show (shL a b) = (-1) from by unfold shL; split <;> first | rfl | omega)) rfl
end
section
def IW (WP WL WC : Nat → Int) (wn wk : Int) : Prop := (0 ≤ wn ∧ wn ≤ 60) ∧ (0 ≤ wk ∧ wk ≤ 8) ∧ (∀ j, 0 ≤ WL j ∧ WL j ≤ 8) ∧ (∀ j, -1 ≤ WP j ∧ WP j < 26) ∧ ∀ j, 0 ≤ WC j ∧ WC j < 26
def lnOf (WL : Nat → Int) (wn a : Int) : Int := if 0 ≤ a ∧ a < wn then WL a.toNat else 0
theorem lnOf_r {WP WL WC : Nat → Int} {wn wk : Int} (h : IW WP WL WC wn wk) (a : Int) : 0 ≤ lnOf WL wn a ∧ lnOf WL wn a ≤ 8 := by
  have := h.2.2.1 a.toNat
  unfold lnOf
  split <;> omega
theorem lnOf_in {WL : Nat → Int} {wn a : Int} (h : 0 < lnOf WL wn a) : 0 ≤ a ∧ a < wn := by
  unfold lnOf at h
  split at h <;> omega
def plAt (WP WL : Nat → Int) (wn a i : Int) : Int := if 0 ≤ i ∧ i < lnOf WL wn a then WP (a * 8 + i).toNat else -1
theorem plAt_r {WP WL WC : Nat → Int} {wn wk : Int} (h : IW WP WL WC wn wk) (a i : Int) : -1 ≤ plAt WP WL wn a i ∧ plAt WP WL wn a i < 26 := by
  have := h.2.2.2.1 (a * 8 + i).toNat
  unfold plAt
  split <;> omega
/-- the letters collected are the word a -/
def isC (WP WL WC : Nat → Int) (wn wk a : Int) : Prop := lnOf WL wn a = wk ∧ ∀ i : Int, 0 ≤ i → i < wk → plAt WP WL wn a i = WC i.toNat

set_option maxRecDepth 100000 in
set_option maxHeartbeats 4000000 in
theorem c_W_size {l : Launch} {D : va_G} (kI kZ : ClassId) (x : Nat → Nat) (WP WL WC : Nat → Int) (wn wk : Int) (hW : IW WP WL WC wn wk) : Dt l D (ty2 kI kZ) y_W_size w_W_size { frames := 0, cells := 0, slots := 0, locals := 0 } [.ref (x 1)] (wW kI kZ x WP WL WC wn wk) (some (.int (iI (wn)))) (wW kI kZ x WP WL WC wn wk) := by
  refine Met.toJ (own := R_W) (QD D (some (.int (iI (wn)))) (wW kI kZ x WP WL WC wn wk)) mk_W_size rfl (Nat.le_of_ble_eq_true rfl) ?_
  intro p e s m args below meth c A C hr hlk hnm
  show JJ p l e { frames := 0, cells := 0, slots := 0, locals := 0 } s m args below meth c D A 1 (MQ below (QD D (some (.int (iI (wn)))) (wW kI kZ x WP WL WC wn wk) A) args s 0 0 A) 0 0 0 [(0, .ref (x 1))] [] (wW kI kZ x WP WL WC wn wk)
  obtain ⟨hwn, hwk, hWL, hWP, hWC⟩ := id hW
  refine j_aload_n (q := 1) C 0 rfl d_W_size_0 rfl ?_
  refine j_get (q := 4) C i_W rfl 0 rfl 3 (by decide) rfl rfl fl_W_21 d_W_size_1 rfl ?_
  exact j_iret C hr hlk d_W_size_4 rfl rfl
set_option maxRecDepth 100000 in
set_option maxHeartbeats 4000000 in
theorem c_W_lengthOf {l : Launch} {D : va_G} (kI kZ : ClassId) (x : Nat → Nat) (WP WL WC : Nat → Int) (wn wk : Int) (hW : IW WP WL WC wn wk) (a : Int) (ha : (-2147483648 ≤ a ∧ a < 2147483648)) : Dt l D (ty2 kI kZ) y_W_lengthOf w_W_lengthOf { frames := 0, cells := 0, slots := 0, locals := 0 } [.ref (x 1), .int (iI (a))] (wW kI kZ x WP WL WC wn wk) (some (.int (iI (lnOf WL wn a)))) (wW kI kZ x WP WL WC wn wk) := by
  refine Met.toJ (own := R_W) (QD D (some (.int (iI (lnOf WL wn a)))) (wW kI kZ x WP WL WC wn wk)) mk_W_lengthOf rfl (Nat.le_of_ble_eq_true rfl) ?_
  intro p e s m args below meth c A C hr hlk hnm
  show JJ p l e { frames := 0, cells := 0, slots := 0, locals := 0 } s m args below meth c D A 2 (MQ below (QD D (some (.int (iI (lnOf WL wn a)))) (wW kI kZ x WP WL WC wn wk) A) args s 0 0 A) 0 0 0 [(0, .ref (x 1)), (1, .int (iI (a)))] [] (wW kI kZ x WP WL WC wn wk)
  obtain ⟨hwn, hwk, hWL, hWP, hWC⟩ := id hW
  refine j_iload_n (q := 1) C 1 rfl d_W_lengthOf_0 rfl ?_
  refine j_if_lt C 21 4 d_W_lengthOf_1 rfl rfl (by omega) (fun c1 => ?_) (fun c1 => ?_)
  · refine j_iconst (q := 22) C d_W_lengthOf_21 rfl ?_
    exact j_iret C hr hlk d_W_lengthOf_22 (congrArg (fun z => some (Value.int (iI z))) (show (lnOf WL wn a) = (0) from by unfold lnOf; split <;> first | rfl | omega)) rfl
  · refine j_iload_n (q := 5) C 1 rfl d_W_lengthOf_4 rfl ?_
    refine j_aload_n (q := 6) C 0 rfl d_W_lengthOf_5 rfl ?_
    refine j_get (q := 9) C i_W rfl 0 rfl 3 (by decide) rfl rfl fl_W_21 d_W_lengthOf_6 rfl ?_
    refine j_icmp_ge C 21 12 d_W_lengthOf_9 rfl rfl (by omega) (by omega) (fun c2 => ?_) (fun c2 => ?_)
    · refine j_iconst (q := 22) C d_W_lengthOf_21 rfl ?_
      first | (exfalso; omega) | exact j_iret C hr hlk d_W_lengthOf_22 (congrArg (fun z => some (Value.int (iI z))) (show (lnOf WL wn a) = (0) from by unfold lnOf; split <;> first | rfl | omega)) rfl
    · refine j_aload_n (q := 13) C 0 rfl d_W_lengthOf_12 rfl ?_
      refine j_get (q := 16) C i_W rfl 0 rfl 1 (by decide) rfl rfl fl_W_15 d_W_lengthOf_13 rfl ?_
      refine j_iload_n (q := 17) C 1 rfl d_W_lengthOf_16 rfl ?_
      refine j_iald (q := 18) C 2 0 rfl rfl (by decide) (by omega) d_W_lengthOf_17 rfl ?_
      have h17 := hWL a.toNat
      refine j_goto C 22 d_W_lengthOf_18 rfl ?_
      first | (exfalso; omega) | exact j_iret C hr hlk d_W_lengthOf_22 (congrArg (fun z => some (Value.int (iI z))) (show (lnOf WL wn a) = (WL a.toNat) from by unfold lnOf; split <;> first | rfl | omega)) rfl
set_option maxRecDepth 100000 in
set_option maxHeartbeats 4000000 in
theorem c_W_placeAt {l : Launch} {D : va_G} (kI kZ : ClassId) (x : Nat → Nat) (WP WL WC : Nat → Int) (wn wk : Int) (hW : IW WP WL WC wn wk) (a i : Int) (ha : (-2147483648 ≤ a ∧ a < 2147483648)) (hi : (-2147483648 ≤ i ∧ i < 2147483648)) : Dt l D (ty2 kI kZ) y_W_placeAt w_W_placeAt { frames := 1, cells := 0, slots := 0, locals := 21 } [.ref (x 1), .int (iI (a)), .int (iI (i))] (wW kI kZ x WP WL WC wn wk) (some (.int (iI (plAt WP WL wn a i)))) (wW kI kZ x WP WL WC wn wk) := by
  refine Met.toJ (own := R_W) (QD D (some (.int (iI (plAt WP WL wn a i)))) (wW kI kZ x WP WL WC wn wk)) mk_W_placeAt rfl (Nat.le_of_ble_eq_true rfl) ?_
  intro p e s m args below meth c A C hr hlk hnm
  show JJ p l e { frames := 1, cells := 0, slots := 0, locals := 21 } s m args below meth c D A 3 (MQ below (QD D (some (.int (iI (plAt WP WL wn a i)))) (wW kI kZ x WP WL WC wn wk) A) args s 0 0 A) 0 0 0 [(0, .ref (x 1)), (1, .int (iI (a))), (2, .int (iI (i)))] [] (wW kI kZ x WP WL WC wn wk)
  obtain ⟨hwn, hwk, hWL, hWP, hWC⟩ := id hW
  refine j_iload_n (q := 1) C 2 rfl d_W_placeAt_0 rfl ?_
  refine j_if_lt C 27 4 d_W_placeAt_1 rfl rfl (by omega) (fun c1 => ?_) (fun c1 => ?_)
  · refine j_iconst (q := 28) C d_W_placeAt_27 rfl ?_
    exact j_iret C hr hlk d_W_placeAt_28 (congrArg (fun z => some (Value.int (iI z))) (show (plAt WP WL wn a i) = (-1) from by unfold plAt; split <;> first | rfl | omega)) rfl
  · refine j_iload_n (q := 5) C 2 rfl d_W_placeAt_4 rfl ?_
    refine j_aload_n (q := 6) C 0 rfl d_W_placeAt_5 rfl ?_
    refine j_iload_n (q := 7) C 1 rfl d_W_placeAt_6 rfl ?_
    have e7 := lnOf_r hW a
    refine j_callV (q := 10) (wr := []) C [.int (iI (a))] [.int (iI (i))] (c_W_lengthOf kI kZ x WP WL WC wn wk hW a (by omega)) ml_W_36 mk_W_lengthOf in_W_lengthOf se_W_lengthOf rfl rfl rfl [0, 1, 2, 3] [] [0, 1, 2, 3] rfl (by decide) rfl (by decide) (by decide) (wW kI kZ x WP WL WC wn wk) rfl (by decide) rfl rfl rfl (Nat.le_of_ble_eq_true rfl) ⟨Nat.le_of_ble_eq_true rfl, Nat.le_of_ble_eq_true rfl⟩ ⟨Nat.le_of_ble_eq_true rfl, Nat.le_of_ble_eq_true rfl⟩ d_W_placeAt_7 rfl ?_
    refine j_icmp_ge C 27 13 d_W_placeAt_10 rfl rfl (by omega) (by omega) (fun c2 => ?_) (fun c2 => ?_)
    · refine j_iconst (q := 28) C d_W_placeAt_27 rfl ?_
      first | (exfalso; omega) | exact j_iret C hr hlk d_W_placeAt_28 (congrArg (fun z => some (Value.int (iI z))) (show (plAt WP WL wn a i) = (-1) from by unfold plAt; split <;> first | rfl | omega)) rfl
    · have k10 := lnOf_in (WL := WL) (wn := wn) (a := a) (by omega)
      refine j_aload_n (q := 14) C 0 rfl d_W_placeAt_13 rfl ?_
      refine j_get (q := 17) C i_W rfl 0 rfl 0 (by decide) rfl rfl fl_W_9 d_W_placeAt_14 rfl ?_
      refine j_iload_n (q := 18) C 1 rfl d_W_placeAt_17 rfl ?_
      refine j_bipush (q := 20) C d_W_placeAt_18 rfl rfl ?_
      refine j_imul (q := 21) C d_W_placeAt_20 rfl ?_
      refine j_iload_n (q := 22) C 2 rfl d_W_placeAt_21 rfl ?_
      refine j_iadd (q := 23) C d_W_placeAt_22 rfl ?_
      refine j_iald (q := 24) C 1 0 rfl rfl (by decide) (by omega) d_W_placeAt_23 rfl ?_
      have h23 := hWP ((a * 8) + i).toNat
      refine j_goto C 28 d_W_placeAt_24 rfl ?_
      first | (exfalso; omega) | exact j_iret C hr hlk d_W_placeAt_28 (congrArg (fun z => some (Value.int (iI z))) (show (plAt WP WL wn a i) = (WP ((a * 8) + i).toNat) from by unfold plAt; split <;> first | rfl | omega)) rfl
set_option maxRecDepth 100000 in
set_option maxHeartbeats 4000000 in
theorem c_W_collect {l : Launch} {D : va_G} (kI kZ : ClassId) (x : Nat → Nat) (WP WL WC : Nat → Int) (wn wk : Int) (hW : IW WP WL WC wn wk) (a : Int) (ha : (-2147483648 ≤ a ∧ a < 2147483648)) : Dt l D (ty2 kI kZ) y_W_collect w_W_collect { frames := 1, cells := 0, slots := 0, locals := 20 } [.ref (x 1), .int (iI (a))] (wW kI kZ x WP WL WC wn wk) (some (.int (iI (if (0 ≤ a ∧ a < 26) ∧ wk < 8 then 1 else 0)))) (wW kI kZ x WP WL (if (0 ≤ a ∧ a < 26) ∧ wk < 8 then uI WC wk.toNat a else WC) wn (if (0 ≤ a ∧ a < 26) ∧ wk < 8 then wk + 1 else wk)) := by
  refine Met.toJ (own := R_W) (QD D (some (.int (iI (if (0 ≤ a ∧ a < 26) ∧ wk < 8 then 1 else 0)))) (wW kI kZ x WP WL (if (0 ≤ a ∧ a < 26) ∧ wk < 8 then uI WC wk.toNat a else WC) wn (if (0 ≤ a ∧ a < 26) ∧ wk < 8 then wk + 1 else wk))) mk_W_collect rfl (Nat.le_of_ble_eq_true rfl) ?_
  intro p e s m args below meth c A C hr hlk hnm
  show JJ p l e { frames := 1, cells := 0, slots := 0, locals := 20 } s m args below meth c D A 2 (MQ below (QD D (some (.int (iI (if (0 ≤ a ∧ a < 26) ∧ wk < 8 then 1 else 0)))) (wW kI kZ x WP WL (if (0 ≤ a ∧ a < 26) ∧ wk < 8 then uI WC wk.toNat a else WC) wn (if (0 ≤ a ∧ a < 26) ∧ wk < 8 then wk + 1 else wk)) A) args s 0 0 A) 0 0 0 [(0, .ref (x 1)), (1, .int (iI (a)))] [] (wW kI kZ x WP WL WC wn wk)
  obtain ⟨hwn, hwk, hWL, hWP, hWC⟩ := id hW
  refine j_iload_n (q := 1) C 1 rfl d_W_collect_0 rfl ?_
  have e1 := bP_r a
  refine j_callN (q := 4) (wr := wW kI kZ x WP WL WC wn wk) C [.int (iI (a))] [] (c_C_isPlace kI kZ x a (by omega)) nl_W_28 mk_C_isPlace st_C_isPlace [] [0, 1, 2, 3] [0, 1, 2, 3] rfl (by decide) rfl (by decide) (by decide) (wW kI kZ x WP WL WC wn wk) rfl (by decide) rfl rfl rfl (Nat.le_of_ble_eq_true rfl) ⟨Nat.le_of_ble_eq_true rfl, Nat.le_of_ble_eq_true rfl⟩ ⟨Nat.le_of_ble_eq_true rfl, Nat.le_of_ble_eq_true rfl⟩ d_W_collect_1 rfl ?_
  refine j_if_eq C 16 7 d_W_collect_4 rfl rfl (by omega) (fun c1 => ?_) (fun c1 => ?_)
  · have c1 := bP_0 c1
    refine j_iconst (q := 17) C d_W_collect_16 rfl ?_
    exact j_zret C hr hlk (by omega) d_W_collect_17 (congrArg (fun z => some (Value.int (iI z))) (show (if (0 ≤ a ∧ a < 26) ∧ wk < 8 then 1 else 0) = (0) from by split <;> omega)) (by repeat (first | rfl | (rw [if_pos (by omega)]) | (rw [if_neg (by omega)])))
  · have c1 := bP_1 c1
    refine j_aload_n (q := 8) C 0 rfl d_W_collect_7 rfl ?_
    refine j_get (q := 11) C i_W rfl 0 rfl 4 (by decide) rfl rfl fl_W_25 d_W_collect_8 rfl ?_
    refine j_bipush (q := 13) C d_W_collect_11 rfl rfl ?_
    refine j_icmp_lt C 18 16 d_W_collect_13 rfl rfl (by omega) (by omega) (fun c2 => ?_) (fun c2 => ?_)
    · refine j_aload_n (q := 19) C 0 rfl d_W_collect_18 rfl ?_
      refine j_get (q := 22) C i_W rfl 0 rfl 2 (by decide) rfl rfl fl_W_18 d_W_collect_19 rfl ?_
      refine j_aload_n (q := 23) C 0 rfl d_W_collect_22 rfl ?_
      refine j_get (q := 26) C i_W rfl 0 rfl 4 (by decide) rfl rfl fl_W_25 d_W_collect_23 rfl ?_
      refine j_iload_n (q := 27) C 1 rfl d_W_collect_26 rfl ?_
      refine j_iast (q := 28) C 3 0 rfl rfl (by decide) (by omega) (wW kI kZ x WP WL (uI WC wk.toNat a) wn wk) rfl d_W_collect_27 rfl ?_
      refine j_aload_n (q := 29) C 0 rfl d_W_collect_28 rfl ?_
      refine j_dup (q := 30) C rfl d_W_collect_29 rfl ?_
      refine j_get (q := 33) C i_W rfl 0 rfl 4 (by decide) rfl rfl fl_W_25 d_W_collect_30 rfl ?_
      refine j_iconst (q := 34) C d_W_collect_33 rfl ?_
      refine j_iadd (q := 35) C d_W_collect_34 rfl ?_
      refine j_put (q := 38) (ty := .int) C i_W rfl t_W t_W_ok n_W 0 rfl 4 (by decide) rfl fl_W_25 rfl (by decide +kernel) rfl rfl (Nat.le_of_ble_eq_true rfl) (wW kI kZ x WP WL (uI WC wk.toNat a) wn (wk + 1)) rfl d_W_collect_35 rfl ?_
      refine j_iconst (q := 39) C d_W_collect_38 rfl ?_
      first | (exfalso; omega) | exact j_zret C hr hlk (by omega) d_W_collect_39 (congrArg (fun z => some (Value.int (iI z))) (show (if (0 ≤ a ∧ a < 26) ∧ wk < 8 then 1 else 0) = (1) from by split <;> omega)) (by repeat (first | rfl | (rw [if_pos (by omega)]) | (rw [if_neg (by omega)])))
    · refine j_iconst (q := 17) C d_W_collect_16 rfl ?_
      first | (exfalso; omega) | exact j_zret C hr hlk (by omega) d_W_collect_17 (congrArg (fun z => some (Value.int (iI z))) (show (if (0 ≤ a ∧ a < 26) ∧ wk < 8 then 1 else 0) = (0) from by split <;> omega)) (by repeat (first | rfl | (rw [if_pos (by omega)]) | (rw [if_neg (by omega)])))
set_option maxRecDepth 100000 in
set_option maxHeartbeats 4000000 in
theorem c_W_isCollected {l : Launch} {D : va_G} (kI kZ : ClassId) (x : Nat → Nat) (WP WL WC : Nat → Int) (wn wk : Int) (hW : IW WP WL WC wn wk) (a : Int) (ha : (-2147483648 ≤ a ∧ a < 2147483648)) : Dt l D (ty2 kI kZ) y_W_isCollected w_W_isCollected { frames := 2, cells := 0, slots := 0, locals := 43 } [.ref (x 1), .int (iI (a))] (wW kI kZ x WP WL WC wn wk) (some (.int (iI (bI (isC WP WL WC wn wk a))))) (wW kI kZ x WP WL WC wn wk) := by
  refine Met.toJ (own := R_W) (QD D (some (.int (iI (bI (isC WP WL WC wn wk a))))) (wW kI kZ x WP WL WC wn wk)) mk_W_isCollected rfl (Nat.le_of_ble_eq_true rfl) ?_
  intro p e s m args below meth c A C hr hlk hnm
  show JJ p l e { frames := 2, cells := 0, slots := 0, locals := 43 } s m args below meth c D A 3 (MQ below (QD D (some (.int (iI (bI (isC WP WL WC wn wk a))))) (wW kI kZ x WP WL WC wn wk) A) args s 0 0 A) 0 0 0 [(0, .ref (x 1)), (1, .int (iI (a)))] [] (wW kI kZ x WP WL WC wn wk)
  obtain ⟨hwn, hwk, hWL, hWP, hWC⟩ := id hW
  refine j_aload_n (q := 1) C 0 rfl d_W_isCollected_0 rfl ?_
  refine j_iload_n (q := 2) C 1 rfl d_W_isCollected_1 rfl ?_
  have e2 := lnOf_r hW a
  refine j_callV (q := 5) (wr := []) C [.int (iI (a))] [] (c_W_lengthOf kI kZ x WP WL WC wn wk hW a (by omega)) ml_W_36 mk_W_lengthOf in_W_lengthOf se_W_lengthOf rfl rfl rfl [0, 1, 2, 3] [] [0, 1, 2, 3] rfl (by decide) rfl (by decide) (by decide) (wW kI kZ x WP WL WC wn wk) rfl (by decide) rfl rfl rfl (Nat.le_of_ble_eq_true rfl) ⟨Nat.le_of_ble_eq_true rfl, Nat.le_of_ble_eq_true rfl⟩ ⟨Nat.le_of_ble_eq_true rfl, Nat.le_of_ble_eq_true rfl⟩ d_W_isCollected_2 rfl ?_
  refine j_aload_n (q := 6) C 0 rfl d_W_isCollected_5 rfl ?_
  refine j_get (q := 9) C i_W rfl 0 rfl 4 (by decide) rfl rfl fl_W_25 d_W_isCollected_6 rfl ?_
  refine j_icmp_eq C 14 12 d_W_isCollected_9 rfl rfl (by omega) (by omega) (fun c1 => ?_) (fun c1 => ?_)
  · refine j_iconst (q := 15) C d_W_isCollected_14 rfl ?_
    refine j_istore_n (q := 16) C [(0, .ref (x 1)), (1, .int (iI (a))), (2, .int (iI (0)))] rfl (by decide) d_W_isCollected_15 rfl ?_
    have lp16 : ∀ (N : Nat) (i : Int), (0 ≤ i ∧ i ≤ wk) → (∀ j : Int, 0 ≤ j → j < i → plAt WP WL wn a j = WC j.toNat) → (wk - i).toNat < N → JJ p l e { frames := 2, cells := 0, slots := 0, locals := 43 } s m args below meth c D A 3 (MQ below (QD D (some (.int (iI (bI (isC WP WL WC wn wk a))))) (wW kI kZ x WP WL WC wn wk) A) args s 0 0 A) 0 0 16 [(0, .ref (x 1)), (1, .int (iI (a))), (2, .int (iI (i)))] [] (wW kI kZ x WP WL WC wn wk) := by
      intro N
      induction N with
      | zero =>
        intro i i0 i1 hN
        omega
      | succ N ih =>
        intro i i0 i1 hN
        refine j_iload_n (q := 17) C 2 rfl d_W_isCollected_16 rfl ?_
        refine j_aload_n (q := 18) C 0 rfl d_W_isCollected_17 rfl ?_
        refine j_get (q := 21) C i_W rfl 0 rfl 4 (by decide) rfl rfl fl_W_25 d_W_isCollected_18 rfl ?_
        refine j_icmp_ge C 47 24 d_W_isCollected_21 rfl rfl (by omega) (by omega) (fun c2 => ?_) (fun c2 => ?_)
        · refine j_iconst (q := 48) C d_W_isCollected_47 rfl ?_
          first | (exfalso; omega) | exact j_zret C hr hlk (by omega) d_W_isCollected_48 (congrArg (fun z => some (Value.int (iI z))) (show (bI (isC WP WL WC wn wk a)) = (1) from bI_1 ⟨by omega, fun j h1 h2 => i1 j h1 (by omega)⟩)) rfl
        · refine j_aload_n (q := 25) C 0 rfl d_W_isCollected_24 rfl ?_
          refine j_iload_n (q := 26) C 1 rfl d_W_isCollected_25 rfl ?_
          refine j_iload_n (q := 27) C 2 rfl d_W_isCollected_26 rfl ?_
          have e27 := plAt_r hW a i
          refine j_callV (q := 30) (wr := []) C [.int (iI (a)), .int (iI (i))] [] (c_W_placeAt kI kZ x WP WL WC wn wk hW a i (by omega) (by omega)) ml_W_46 mk_W_placeAt in_W_placeAt se_W_placeAt rfl rfl rfl [0, 1, 2, 3] [] [0, 1, 2, 3] rfl (by decide) rfl (by decide) (by decide) (wW kI kZ x WP WL WC wn wk) rfl (by decide) rfl rfl rfl (Nat.le_of_ble_eq_true rfl) ⟨Nat.le_of_ble_eq_true rfl, Nat.le_of_ble_eq_true rfl⟩ ⟨Nat.le_of_ble_eq_true rfl, Nat.le_of_ble_eq_true rfl⟩ d_W_isCollected_27 rfl ?_
          refine j_aload_n (q := 31) C 0 rfl d_W_isCollected_30 rfl ?_
          refine j_get (q := 34) C i_W rfl 0 rfl 2 (by decide) rfl rfl fl_W_18 d_W_isCollected_31 rfl ?_
          refine j_iload_n (q := 35) C 2 rfl d_W_isCollected_34 rfl ?_
          refine j_iald (q := 36) C 3 0 rfl rfl (by decide) (by omega) d_W_isCollected_35 rfl ?_
          have h35 := hWC i.toNat
          refine j_icmp_eq C 41 39 d_W_isCollected_36 rfl rfl (by omega) (by omega) (fun c3 => ?_) (fun c3 => ?_)
          · refine j_iinc (q := 44) C 2 [(0, .ref (x 1)), (1, .int (iI (a))), (2, .int (iI (i + 1)))] rfl rfl (by decide) d_W_isCollected_41 rfl ?_
            refine j_goto C 16 d_W_isCollected_44 rfl ?_
            exact ih (i + 1) (by omega) (fun j h1 h2 => by rcases (show j < i ∨ j = i by omega) with h | h; exact i1 j h1 h; rw [h]; omega) (by omega)
          · refine j_iconst (q := 40) C d_W_isCollected_39 rfl ?_
            first | (exfalso; omega) | exact j_zret C hr hlk (by omega) d_W_isCollected_40 (congrArg (fun z => some (Value.int (iI z))) (show (bI (isC WP WL WC wn wk a)) = (0) from bI_0 (fun h => by have := h.2 i (by omega) (by omega); omega))) rfl
    exact lp16 ((wk).toNat + 1) 0 (by omega) (fun j h1 h2 => by omega) (by omega)
  · refine j_iconst (q := 13) C d_W_isCollected_12 rfl ?_
    first | (exfalso; omega) | exact j_zret C hr hlk (by omega) d_W_isCollected_13 (congrArg (fun z => some (Value.int (iI z))) (show (bI (isC WP WL WC wn wk a)) = (0) from bI_0 (fun h => by have := h.1; omega))) rfl
/-- a word is entered -/
def ad (wn : Int) : Prop := wn < 60

set_option maxRecDepth 100000 in
set_option maxHeartbeats 4000000 in
theorem c_W_addCollected {l : Launch} {D : va_G} (kI kZ : ClassId) (x : Nat → Nat) (WP WL WC : Nat → Int) (wn wk : Int) (hW : IW WP WL WC wn wk) : Dt l D (ty2 kI kZ) y_W_addCollected w_W_addCollected { frames := 1, cells := 0, slots := 0, locals := 60 } [.ref (x 1)] (wW kI kZ x WP WL WC wn wk) (some (.int (iI (if wn < 60 then wn else -1)))) (wW kI kZ x (if wn < 60 then va_cpy WC WP (0 : Int).toNat (wn * 8).toNat wk.toNat else WP) (if wn < 60 then uI WL wn.toNat wk else WL) WC (if wn < 60 then wn + 1 else wn) wk) := by
  refine Met.toJ (own := R_W) (QD D (some (.int (iI (if wn < 60 then wn else -1)))) (wW kI kZ x (if wn < 60 then va_cpy WC WP (0 : Int).toNat (wn * 8).toNat wk.toNat else WP) (if wn < 60 then uI WL wn.toNat wk else WL) WC (if wn < 60 then wn + 1 else wn) wk)) mk_W_addCollected rfl (Nat.le_of_ble_eq_true rfl) ?_
  intro p e s m args below meth c A C hr hlk hnm
  show JJ p l e { frames := 1, cells := 0, slots := 0, locals := 60 } s m args below meth c D A 2 (MQ below (QD D (some (.int (iI (if wn < 60 then wn else -1)))) (wW kI kZ x (if wn < 60 then va_cpy WC WP (0 : Int).toNat (wn * 8).toNat wk.toNat else WP) (if wn < 60 then uI WL wn.toNat wk else WL) WC (if wn < 60 then wn + 1 else wn) wk) A) args s 0 0 A) 0 0 0 [(0, .ref (x 1))] [] (wW kI kZ x WP WL WC wn wk)
  obtain ⟨hwn, hwk, hWL, hWP, hWC⟩ := id hW
  refine j_aload_n (q := 1) C 0 rfl d_W_addCollected_0 rfl ?_
  refine j_get (q := 4) C i_W rfl 0 rfl 3 (by decide) rfl rfl fl_W_21 d_W_addCollected_1 rfl ?_
  refine j_bipush (q := 6) C d_W_addCollected_4 rfl rfl ?_
  refine j_icmp_lt C 11 9 d_W_addCollected_6 rfl rfl (by omega) (by omega) (fun c1 => ?_) (fun c1 => ?_)
  · refine j_aload_n (q := 12) C 0 rfl d_W_addCollected_11 rfl ?_
    refine j_get (q := 15) C i_W rfl 0 rfl 3 (by decide) rfl rfl fl_W_21 d_W_addCollected_12 rfl ?_
    refine j_istore_n (q := 16) C [(0, .ref (x 1)), (1, .int (iI (wn)))] rfl (by decide) d_W_addCollected_15 rfl ?_
    refine j_aload_n (q := 17) C 0 rfl d_W_addCollected_16 rfl ?_
    refine j_get (q := 20) C i_W rfl 0 rfl 2 (by decide) rfl rfl fl_W_18 d_W_addCollected_17 rfl ?_
    refine j_iconst (q := 21) C d_W_addCollected_20 rfl ?_
    refine j_aload_n (q := 22) C 0 rfl d_W_addCollected_21 rfl ?_
    refine j_get (q := 25) C i_W rfl 0 rfl 0 (by decide) rfl rfl fl_W_9 d_W_addCollected_22 rfl ?_
    refine j_iload_n (q := 26) C 1 rfl d_W_addCollected_25 rfl ?_
    refine j_bipush (q := 28) C d_W_addCollected_26 rfl rfl ?_
    refine j_imul (q := 29) C d_W_addCollected_28 rfl ?_
    refine j_aload_n (q := 30) C 0 rfl d_W_addCollected_29 rfl ?_
    refine j_get (q := 33) C i_W rfl 0 rfl 4 (by decide) rfl rfl fl_W_25 d_W_addCollected_30 rfl ?_
    refine j_copy (q := 36) C 3 1 0 0 rfl rfl rfl rfl (by decide) (by decide) (by omega) ml_W_50 (Nat.le_of_ble_eq_true rfl) (Nat.le_of_ble_eq_true rfl) (wW kI kZ x (va_cpy WC WP (0 : Int).toNat (wn * 8).toNat wk.toNat) WL WC wn wk) rfl d_W_addCollected_33 rfl ?_
    refine j_aload_n (q := 37) C 0 rfl d_W_addCollected_36 rfl ?_
    refine j_get (q := 40) C i_W rfl 0 rfl 1 (by decide) rfl rfl fl_W_15 d_W_addCollected_37 rfl ?_
    refine j_iload_n (q := 41) C 1 rfl d_W_addCollected_40 rfl ?_
    refine j_aload_n (q := 42) C 0 rfl d_W_addCollected_41 rfl ?_
    refine j_get (q := 45) C i_W rfl 0 rfl 4 (by decide) rfl rfl fl_W_25 d_W_addCollected_42 rfl ?_
    refine j_iast (q := 46) C 2 0 rfl rfl (by decide) (by omega) (wW kI kZ x (va_cpy WC WP (0 : Int).toNat (wn * 8).toNat wk.toNat) (uI WL wn.toNat wk) WC wn wk) rfl d_W_addCollected_45 rfl ?_
    refine j_aload_n (q := 47) C 0 rfl d_W_addCollected_46 rfl ?_
    refine j_dup (q := 48) C rfl d_W_addCollected_47 rfl ?_
    refine j_get (q := 51) C i_W rfl 0 rfl 3 (by decide) rfl rfl fl_W_21 d_W_addCollected_48 rfl ?_
    refine j_iconst (q := 52) C d_W_addCollected_51 rfl ?_
    refine j_iadd (q := 53) C d_W_addCollected_52 rfl ?_
    refine j_put (q := 56) (ty := .int) C i_W rfl t_W t_W_ok n_W 0 rfl 3 (by decide) rfl fl_W_21 rfl (by decide +kernel) rfl rfl (Nat.le_of_ble_eq_true rfl) (wW kI kZ x (va_cpy WC WP (0 : Int).toNat (wn * 8).toNat wk.toNat) (uI WL wn.toNat wk) WC (wn + 1) wk) rfl d_W_addCollected_53 rfl ?_
    refine j_iload_n (q := 57) C 1 rfl d_W_addCollected_56 rfl ?_
    exact j_iret C hr hlk d_W_addCollected_57 (congrArg (fun z => some (Value.int (iI z))) (show (if wn < 60 then wn else -1) = (wn) from by split <;> omega)) (by repeat (first | rfl | (rw [if_pos (by omega)]) | (rw [if_neg (by omega)])))
  · refine j_iconst (q := 10) C d_W_addCollected_9 rfl ?_
    exact j_iret C hr hlk d_W_addCollected_10 (congrArg (fun z => some (Value.int (iI z))) (show (if wn < 60 then wn else -1) = (-1) from by split <;> omega)) (by repeat (first | rfl | (rw [if_pos (by omega)]) | (rw [if_neg (by omega)])))
/-- the least word that the letters collected are; wn when there is none -/
noncomputable def fdC (WP WL WC : Nat → Int) (wn wk : Int) : Int := lst (isC WP WL WC wn wk) wn
theorem fdC_r {WP WL WC : Nat → Int} {wn wk : Int} (h : 0 ≤ wn) : 0 ≤ fdC WP WL WC wn wk ∧ fdC WP WL WC wn wk ≤ wn := by
  unfold fdC
  rcases lst_sp (isC WP WL WC wn wk) wn with ⟨h1, h2, -, -⟩ | ⟨h1, -⟩ <;> omega
/-- the word is entered: it isn't there and there are not 60 -/
def adC (WP WL WC : Nat → Int) (wn wk : Int) : Prop := fdC WP WL WC wn wk = wn ∧ wn < 60
noncomputable def nrC (WP WL WC : Nat → Int) (wn wk : Int) : Int := if fdC WP WL WC wn wk < wn then fdC WP WL WC wn wk else if wn < 60 then wn else -1
noncomputable def wpC (WP WL WC : Nat → Int) (wn wk : Int) : Nat → Int := if fdC WP WL WC wn wk < wn then WP else if wn < 60 then va_cpy WC WP (0 : Int).toNat (wn * 8).toNat wk.toNat else WP
noncomputable def wlC (WP WL WC : Nat → Int) (wn wk : Int) : Nat → Int := if fdC WP WL WC wn wk < wn then WL else if wn < 60 then uI WL wn.toNat wk else WL
noncomputable def wnC (WP WL WC : Nat → Int) (wn wk : Int) : Int := if fdC WP WL WC wn wk < wn then wn else if wn < 60 then wn + 1 else wn

set_option maxRecDepth 100000 in
set_option maxHeartbeats 4000000 in
theorem c_W_numberOfCollected {l : Launch} {D : va_G} (kI kZ : ClassId) (x : Nat → Nat) (WP WL WC : Nat → Int) (wn wk : Int) (hW : IW WP WL WC wn wk) : Dt l D (ty2 kI kZ) y_W_numberOfCollected w_W_numberOfCollected { frames := 3, cells := 0, slots := 0, locals := 81 } [.ref (x 1)] (wW kI kZ x WP WL WC wn wk) (some (.int (iI (nrC WP WL WC wn wk)))) (wW kI kZ x (wpC WP WL WC wn wk) (wlC WP WL WC wn wk) WC (wnC WP WL WC wn wk) wk) := by
  refine Met.toJ (own := R_W) (QD D (some (.int (iI (nrC WP WL WC wn wk)))) (wW kI kZ x (wpC WP WL WC wn wk) (wlC WP WL WC wn wk) WC (wnC WP WL WC wn wk) wk)) mk_W_numberOfCollected rfl (Nat.le_of_ble_eq_true rfl) ?_
  intro p e s m args below meth c A C hr hlk hnm
  show JJ p l e { frames := 3, cells := 0, slots := 0, locals := 81 } s m args below meth c D A 2 (MQ below (QD D (some (.int (iI (nrC WP WL WC wn wk)))) (wW kI kZ x (wpC WP WL WC wn wk) (wlC WP WL WC wn wk) WC (wnC WP WL WC wn wk) wk) A) args s 0 0 A) 0 0 0 [(0, .ref (x 1))] [] (wW kI kZ x WP WL WC wn wk)
  obtain ⟨hwn, hwk, hWL, hWP, hWC⟩ := id hW
  refine j_iconst (q := 1) C d_W_numberOfCollected_0 rfl ?_
  refine j_istore_n (q := 2) C [(0, .ref (x 1)), (1, .int (iI (0)))] rfl (by decide) d_W_numberOfCollected_1 rfl ?_
  have lp2 : ∀ (N : Nat) (i : Int), (0 ≤ i ∧ i ≤ wn) → (∀ j : Int, 0 ≤ j → j < i → ¬ isC WP WL WC wn wk j) → (wn - i).toNat < N → JJ p l e { frames := 3, cells := 0, slots := 0, locals := 81 } s m args below meth c D A 2 (MQ below (QD D (some (.int (iI (nrC WP WL WC wn wk)))) (wW kI kZ x (wpC WP WL WC wn wk) (wlC WP WL WC wn wk) WC (wnC WP WL WC wn wk) wk) A) args s 0 0 A) 0 0 2 [(0, .ref (x 1)), (1, .int (iI (i)))] [] (wW kI kZ x WP WL WC wn wk) := by
    intro N
    induction N with
    | zero =>
      intro i i0 i1 hN
      omega
    | succ N ih =>
      intro i i0 i1 hN
      refine j_iload_n (q := 3) C 1 rfl d_W_numberOfCollected_2 rfl ?_
      refine j_aload_n (q := 4) C 0 rfl d_W_numberOfCollected_3 rfl ?_
      refine j_get (q := 7) C i_W rfl 0 rfl 3 (by decide) rfl rfl fl_W_21 d_W_numberOfCollected_4 rfl ?_
      refine j_icmp_ge C 26 10 d_W_numberOfCollected_7 rfl rfl (by omega) (by omega) (fun c1 => ?_) (fun c1 => ?_)
      · have f7 : fdC WP WL WC wn wk = wn := lst_no (fun j h1 h2 => i1 j h1 (by omega))
        refine j_aload_n (q := 27) C 0 rfl d_W_numberOfCollected_26 rfl ?_
        refine j_callV (q := 30) (wr := []) C [] [] (c_W_addCollected kI kZ x WP WL WC wn wk hW) ml_W_43 mk_W_addCollected in_W_addCollected se_W_addCollected rfl rfl rfl [0, 1, 2, 3] [] [0, 1, 2, 3] rfl (by decide) rfl (by decide) (by decide) (wW kI kZ x (if wn < 60 then va_cpy WC WP (0 : Int).toNat (wn * 8).toNat wk.toNat else WP) (if wn < 60 then uI WL wn.toNat wk else WL) WC (if wn < 60 then wn + 1 else wn) wk) rfl (by decide) rfl rfl rfl (Nat.le_of_ble_eq_true rfl) ⟨Nat.le_of_ble_eq_true rfl, Nat.le_of_ble_eq_true rfl⟩ ⟨Nat.le_of_ble_eq_true rfl, Nat.le_of_ble_eq_true rfl⟩ d_W_numberOfCollected_27 rfl ?_
        exact j_iret C hr hlk d_W_numberOfCollected_30 (congrArg (fun z => some (Value.int (iI z))) (show (nrC WP WL WC wn wk) = (if wn < 60 then wn else -1) from by unfold nrC; rw [f7, if_neg (by omega)])) (by unfold wpC wlC wnC; simp only [f7, if_neg (show ¬ wn < wn from by omega)])
      · refine j_aload_n (q := 11) C 0 rfl d_W_numberOfCollected_10 rfl ?_
        refine j_iload_n (q := 12) C 1 rfl d_W_numberOfCollected_11 rfl ?_
        have e12 := bI_r (isC WP WL WC wn wk i)
        refine j_callV (q := 15) (wr := []) C [.int (iI (i))] [] (c_W_isCollected kI kZ x WP WL WC wn wk hW i (by omega)) ml_W_40 mk_W_isCollected in_W_isCollected se_W_isCollected rfl rfl rfl [0, 1, 2, 3] [] [0, 1, 2, 3] rfl (by decide) rfl (by decide) (by decide) (wW kI kZ x WP WL WC wn wk) rfl (by decide) rfl rfl rfl (Nat.le_of_ble_eq_true rfl) ⟨Nat.le_of_ble_eq_true rfl, Nat.le_of_ble_eq_true rfl⟩ ⟨Nat.le_of_ble_eq_true rfl, Nat.le_of_ble_eq_true rfl⟩ d_W_numberOfCollected_12 rfl ?_
        refine j_if_eq C 20 18 d_W_numberOfCollected_15 rfl rfl (by omega) (fun c2 => ?_) (fun c2 => ?_)
        · have c2 := bI_z c2
          refine j_iinc (q := 23) C 1 [(0, .ref (x 1)), (1, .int (iI (i + 1)))] rfl rfl (by decide) d_W_numberOfCollected_20 rfl ?_
          refine j_goto C 2 d_W_numberOfCollected_23 rfl ?_
          exact ih (i + 1) (by omega) (fun j h1 h2 => by rcases (show j < i ∨ j = i by omega) with h | h; exact i1 j h1 h; rw [h]; exact c2) (by omega)
        · have c2 := bI_n c2
          have f15 : fdC WP WL WC wn wk = i := lst_at i0.1 (by omega) c2 i1
          refine j_iload_n (q := 19) C 1 rfl d_W_numberOfCollected_18 rfl ?_
          first | (exfalso; omega) | exact j_iret C hr hlk d_W_numberOfCollected_19 (congrArg (fun z => some (Value.int (iI z))) (show (nrC WP WL WC wn wk) = (i) from by unfold nrC; rw [f15, if_pos (by omega)])) (by unfold wpC wlC wnC; rw [f15, if_pos (by omega), if_pos (by omega), if_pos (by omega)])
  exact lp2 ((wn).toNat + 1) 0 (by omega) (fun j h1 h2 => by omega) (by omega)
set_option maxRecDepth 100000 in
set_option maxHeartbeats 4000000 in
theorem c_W_takeCollected {l : Launch} {D : va_G} (kI kZ : ClassId) (x : Nat → Nat) (WP WL WC : Nat → Int) (wn wk : Int) (hW : IW WP WL WC wn wk) : Dt l D (ty2 kI kZ) y_W_takeCollected w_W_takeCollected { frames := 4, cells := 0, slots := 0, locals := 102 } [.ref (x 1)] (wW kI kZ x WP WL WC wn wk) (some (.int (iI (if wk = 0 then -1 else nrC WP WL WC wn wk)))) (wW kI kZ x (if wk = 0 then WP else wpC WP WL WC wn wk) (if wk = 0 then WL else wlC WP WL WC wn wk) WC (if wk = 0 then wn else wnC WP WL WC wn wk) 0) := by
  refine Met.toJ (own := R_W) (QD D (some (.int (iI (if wk = 0 then -1 else nrC WP WL WC wn wk)))) (wW kI kZ x (if wk = 0 then WP else wpC WP WL WC wn wk) (if wk = 0 then WL else wlC WP WL WC wn wk) WC (if wk = 0 then wn else wnC WP WL WC wn wk) 0)) mk_W_takeCollected rfl (Nat.le_of_ble_eq_true rfl) ?_
  intro p e s m args below meth c A C hr hlk hnm
  show JJ p l e { frames := 4, cells := 0, slots := 0, locals := 102 } s m args below meth c D A 2 (MQ below (QD D (some (.int (iI (if wk = 0 then -1 else nrC WP WL WC wn wk)))) (wW kI kZ x (if wk = 0 then WP else wpC WP WL WC wn wk) (if wk = 0 then WL else wlC WP WL WC wn wk) WC (if wk = 0 then wn else wnC WP WL WC wn wk) 0) A) args s 0 0 A) 0 0 0 [(0, .ref (x 1))] [] (wW kI kZ x WP WL WC wn wk)
  obtain ⟨hwn, hwk, hWL, hWP, hWC⟩ := id hW
  refine j_aload_n (q := 1) C 0 rfl d_W_takeCollected_0 rfl ?_
  refine j_get (q := 4) C i_W rfl 0 rfl 4 (by decide) rfl rfl fl_W_25 d_W_takeCollected_1 rfl ?_
  refine j_if_ne C 11 7 d_W_takeCollected_4 rfl rfl (by omega) (fun c1 => ?_) (fun c1 => ?_)
  · refine j_aload_n (q := 12) C 0 rfl d_W_takeCollected_11 rfl ?_
    refine j_callV (q := 15) (wr := []) C [] [] (c_W_numberOfCollected kI kZ x WP WL WC wn wk hW) ml_W_32 mk_W_numberOfCollected in_W_numberOfCollected se_W_numberOfCollected rfl rfl rfl [0, 1, 2, 3] [] [0, 1, 2, 3] rfl (by decide) rfl (by decide) (by decide) (wW kI kZ x (wpC WP WL WC wn wk) (wlC WP WL WC wn wk) WC (wnC WP WL WC wn wk) wk) rfl (by decide) rfl rfl rfl (Nat.le_of_ble_eq_true rfl) ⟨Nat.le_of_ble_eq_true rfl, Nat.le_of_ble_eq_true rfl⟩ ⟨Nat.le_of_ble_eq_true rfl, Nat.le_of_ble_eq_true rfl⟩ d_W_takeCollected_12 rfl ?_
    refine j_istore_n (q := 16) C [(0, .ref (x 1)), (1, .int (iI (nrC WP WL WC wn wk)))] rfl (by decide) d_W_takeCollected_15 rfl ?_
    refine j_aload_n (q := 17) C 0 rfl d_W_takeCollected_16 rfl ?_
    refine j_iconst (q := 18) C d_W_takeCollected_17 rfl ?_
    refine j_put (q := 21) (ty := .int) C i_W rfl t_W t_W_ok n_W 0 rfl 4 (by decide) rfl fl_W_25 rfl (by decide +kernel) rfl rfl (Nat.le_of_ble_eq_true rfl) (wW kI kZ x (wpC WP WL WC wn wk) (wlC WP WL WC wn wk) WC (wnC WP WL WC wn wk) 0) rfl d_W_takeCollected_18 rfl ?_
    refine j_iload_n (q := 22) C 1 rfl d_W_takeCollected_21 rfl ?_
    exact j_iret C hr hlk d_W_takeCollected_22 (congrArg (fun z => some (Value.int (iI z))) (show (if wk = 0 then -1 else nrC WP WL WC wn wk) = (nrC WP WL WC wn wk) from by split <;> first | rfl | omega)) (by repeat (first | rfl | (rw [if_pos (by omega)]) | (rw [if_neg (by omega)])))
  · refine j_iconst (q := 8) C d_W_takeCollected_7 rfl ?_
    refine j_goto C 15 d_W_takeCollected_8 rfl ?_
    refine j_istore_n (q := 16) C [(0, .ref (x 1)), (1, .int (iI (-1)))] rfl (by decide) d_W_takeCollected_15 rfl ?_
    refine j_aload_n (q := 17) C 0 rfl d_W_takeCollected_16 rfl ?_
    refine j_iconst (q := 18) C d_W_takeCollected_17 rfl ?_
    refine j_put (q := 21) (ty := .int) C i_W rfl t_W t_W_ok n_W 0 rfl 4 (by decide) rfl fl_W_25 rfl (by decide +kernel) rfl rfl (Nat.le_of_ble_eq_true rfl) (wW kI kZ x WP WL WC wn 0) rfl d_W_takeCollected_18 rfl ?_
    refine j_iload_n (q := 22) C 1 rfl d_W_takeCollected_21 rfl ?_
    exact j_iret C hr hlk d_W_takeCollected_22 (congrArg (fun z => some (Value.int (iI z))) (show (if wk = 0 then -1 else nrC WP WL WC wn wk) = (-1) from by split <;> first | rfl | omega)) (by repeat (first | rfl | (rw [if_pos (by omega)]) | (rw [if_neg (by omega)])))
end
section
def wtOf (PW : Nat → Int) (a b : Int) : Int := if (0 ≤ a ∧ a < 26) ∧ (0 ≤ b ∧ b < 26) then PW (a * 26 + b).toNat else 0
theorem wtOf_r {PW : Nat → Int} (h : ∀ j, -1000 ≤ PW j ∧ PW j ≤ 1000) (a b : Int) : -1000 ≤ wtOf PW a b ∧ wtOf PW a b ≤ 1000 := by
  have := h (a * 26 + b).toNat
  unfold wtOf
  split <;> omega
def okW (a b v : Int) : Prop := ((0 ≤ a ∧ a < 26) ∧ (0 ≤ b ∧ b < 26)) ∧ (-1000 ≤ v ∧ v ≤ 1000)
def IX (XP : Nat → Int) (xn : Int) : Prop := (0 ≤ xn ∧ xn ≤ 60) ∧ ∀ j, 0 ≤ XP j ∧ XP j < 26
def sgAt (f : Nat → Int) (n i : Int) : Int := if 0 ≤ i ∧ i < n then f i.toNat else -1
theorem sgAt_r {f : Nat → Int} (h : ∀ j, -1 ≤ f j ∧ f j < 26) (n i : Int) : -1 ≤ sgAt f n i ∧ sgAt f n i < 26 := by
  have := h i.toNat
  unfold sgAt
  split <;> omega
theorem IX.b {XP : Nat → Int} {xn : Int} (h : IX XP xn) : ∀ j, -1 ≤ XP j ∧ XP j < 26 := fun j => by have := h.2 j; omega

set_option maxRecDepth 100000 in
set_option maxHeartbeats 4000000 in
theorem c_P_weigh {l : Launch} {D : va_G} (kI kZ : ClassId) (x : Nat → Nat) (PW : Nat → Int) (hP : ∀ j, -1000 ≤ PW j ∧ PW j ≤ 1000) (a b v : Int) (ha : (-2147483648 ≤ a ∧ a < 2147483648)) (hb : (-2147483648 ≤ b ∧ b < 2147483648)) (hv : (-2147483648 ≤ v ∧ v < 2147483648)) : Dt l D (ty2 kI kZ) y_P_weigh w_P_weigh { frames := 1, cells := 0, slots := 0, locals := 20 } [.ref (x 11), .int (iI (a)), .int (iI (b)), .int (iI (v))] (wP kI kZ x PW) (some (.int (iI (if ((0 ≤ a ∧ a < 26) ∧ (0 ≤ b ∧ b < 26)) ∧ (-1000 ≤ v ∧ v ≤ 1000) then 1 else 0)))) (wP kI kZ x (if ((0 ≤ a ∧ a < 26) ∧ (0 ≤ b ∧ b < 26)) ∧ (-1000 ≤ v ∧ v ≤ 1000) then uI PW (a * 26 + b).toNat v else PW)) := by
  refine Met.toJ (own := R_P) (QD D (some (.int (iI (if ((0 ≤ a ∧ a < 26) ∧ (0 ≤ b ∧ b < 26)) ∧ (-1000 ≤ v ∧ v ≤ 1000) then 1 else 0)))) (wP kI kZ x (if ((0 ≤ a ∧ a < 26) ∧ (0 ≤ b ∧ b < 26)) ∧ (-1000 ≤ v ∧ v ≤ 1000) then uI PW (a * 26 + b).toNat v else PW))) mk_P_weigh rfl (Nat.le_of_ble_eq_true rfl) ?_
  intro p e s m args below meth c A C hr hlk hnm
  show JJ p l e { frames := 1, cells := 0, slots := 0, locals := 20 } s m args below meth c D A 4 (MQ below (QD D (some (.int (iI (if ((0 ≤ a ∧ a < 26) ∧ (0 ≤ b ∧ b < 26)) ∧ (-1000 ≤ v ∧ v ≤ 1000) then 1 else 0)))) (wP kI kZ x (if ((0 ≤ a ∧ a < 26) ∧ (0 ≤ b ∧ b < 26)) ∧ (-1000 ≤ v ∧ v ≤ 1000) then uI PW (a * 26 + b).toNat v else PW)) A) args s 0 0 A) 0 0 0 [(0, .ref (x 11)), (1, .int (iI (a))), (2, .int (iI (b))), (3, .int (iI (v)))] [] (wP kI kZ x PW)
  refine j_iload_n (q := 1) C 1 rfl d_P_weigh_0 rfl ?_
  have e1 := bP_r a
  refine j_callN (q := 4) (wr := wP kI kZ x PW) C [.int (iI (a))] [] (c_C_isPlace kI kZ x a (by omega)) nl_P_15 mk_C_isPlace st_C_isPlace [] [0, 1] [0, 1] rfl (by decide) rfl (by decide) (by decide) (wP kI kZ x PW) rfl (by decide) rfl rfl rfl (Nat.le_of_ble_eq_true rfl) ⟨Nat.le_of_ble_eq_true rfl, Nat.le_of_ble_eq_true rfl⟩ ⟨Nat.le_of_ble_eq_true rfl, Nat.le_of_ble_eq_true rfl⟩ d_P_weigh_1 rfl ?_
  refine j_if_eq C 28 7 d_P_weigh_4 rfl rfl (by omega) (fun c1 => ?_) (fun c1 => ?_)
  · have c1 := bP_0 c1
    refine j_iconst (q := 29) C d_P_weigh_28 rfl ?_
    exact j_zret C hr hlk (by omega) d_P_weigh_29 (congrArg (fun z => some (Value.int (iI z))) (show (if ((0 ≤ a ∧ a < 26) ∧ (0 ≤ b ∧ b < 26)) ∧ (-1000 ≤ v ∧ v ≤ 1000) then 1 else 0) = (0) from by split <;> omega)) (by repeat (first | rfl | (rw [if_pos (by omega)]) | (rw [if_neg (by omega)])))
  · have c1 := bP_1 c1
    refine j_iload_n (q := 8) C 2 rfl d_P_weigh_7 rfl ?_
    have e8 := bP_r b
    refine j_callN (q := 11) (wr := wP kI kZ x PW) C [.int (iI (b))] [] (c_C_isPlace kI kZ x b (by omega)) nl_P_15 mk_C_isPlace st_C_isPlace [] [0, 1] [0, 1] rfl (by decide) rfl (by decide) (by decide) (wP kI kZ x PW) rfl (by decide) rfl rfl rfl (Nat.le_of_ble_eq_true rfl) ⟨Nat.le_of_ble_eq_true rfl, Nat.le_of_ble_eq_true rfl⟩ ⟨Nat.le_of_ble_eq_true rfl, Nat.le_of_ble_eq_true rfl⟩ d_P_weigh_8 rfl ?_
    refine j_if_eq C 28 14 d_P_weigh_11 rfl rfl (by omega) (fun c2 => ?_) (fun c2 => ?_)
    · have c2 := bP_0 c2
      refine j_iconst (q := 29) C d_P_weigh_28 rfl ?_
      first | (exfalso; omega) | exact j_zret C hr hlk (by omega) d_P_weigh_29 (congrArg (fun z => some (Value.int (iI z))) (show (if ((0 ≤ a ∧ a < 26) ∧ (0 ≤ b ∧ b < 26)) ∧ (-1000 ≤ v ∧ v ≤ 1000) then 1 else 0) = (0) from by split <;> omega)) (by repeat (first | rfl | (rw [if_pos (by omega)]) | (rw [if_neg (by omega)])))
    · have c2 := bP_1 c2
      refine j_iload_n (q := 15) C 3 rfl d_P_weigh_14 rfl ?_
      refine j_sipush (q := 18) C d_P_weigh_15 rfl rfl ?_
      refine j_icmp_lt C 28 21 d_P_weigh_18 rfl rfl (by omega) (by omega) (fun c3 => ?_) (fun c3 => ?_)
      · refine j_iconst (q := 29) C d_P_weigh_28 rfl ?_
        first | (exfalso; omega) | exact j_zret C hr hlk (by omega) d_P_weigh_29 (congrArg (fun z => some (Value.int (iI z))) (show (if ((0 ≤ a ∧ a < 26) ∧ (0 ≤ b ∧ b < 26)) ∧ (-1000 ≤ v ∧ v ≤ 1000) then 1 else 0) = (0) from by split <;> omega)) (by repeat (first | rfl | (rw [if_pos (by omega)]) | (rw [if_neg (by omega)])))
      · refine j_iload_n (q := 22) C 3 rfl d_P_weigh_21 rfl ?_
        refine j_sipush (q := 25) C d_P_weigh_22 rfl rfl ?_
        refine j_icmp_le C 30 28 d_P_weigh_25 rfl rfl (by omega) (by omega) (fun c4 => ?_) (fun c4 => ?_)
        · refine j_aload_n (q := 31) C 0 rfl d_P_weigh_30 rfl ?_
          refine j_get (q := 34) C i_P rfl 0 rfl 0 (by decide) rfl rfl fl_P_9 d_P_weigh_31 rfl ?_
          refine j_iload_n (q := 35) C 1 rfl d_P_weigh_34 rfl ?_
          refine j_bipush (q := 37) C d_P_weigh_35 rfl rfl ?_
          refine j_imul (q := 38) C d_P_weigh_37 rfl ?_
          refine j_iload_n (q := 39) C 2 rfl d_P_weigh_38 rfl ?_
          refine j_iadd (q := 40) C d_P_weigh_39 rfl ?_
          refine j_iload_n (q := 41) C 3 rfl d_P_weigh_40 rfl ?_
          refine j_iast (q := 42) C 1 0 rfl rfl (by decide) (by omega) (wP kI kZ x (uI PW ((a * 26) + b).toNat v)) rfl d_P_weigh_41 rfl ?_
          refine j_iconst (q := 43) C d_P_weigh_42 rfl ?_
          first | (exfalso; omega) | exact j_zret C hr hlk (by omega) d_P_weigh_43 (congrArg (fun z => some (Value.int (iI z))) (show (if ((0 ≤ a ∧ a < 26) ∧ (0 ≤ b ∧ b < 26)) ∧ (-1000 ≤ v ∧ v ≤ 1000) then 1 else 0) = (1) from by split <;> omega)) (by repeat (first | rfl | (rw [if_pos (by omega)]) | (rw [if_neg (by omega)])))
        · refine j_iconst (q := 29) C d_P_weigh_28 rfl ?_
          first | (exfalso; omega) | exact j_zret C hr hlk (by omega) d_P_weigh_29 (congrArg (fun z => some (Value.int (iI z))) (show (if ((0 ≤ a ∧ a < 26) ∧ (0 ≤ b ∧ b < 26)) ∧ (-1000 ≤ v ∧ v ≤ 1000) then 1 else 0) = (0) from by split <;> omega)) (by repeat (first | rfl | (rw [if_pos (by omega)]) | (rw [if_neg (by omega)])))
set_option maxRecDepth 100000 in
set_option maxHeartbeats 4000000 in
theorem c_P_weightOf {l : Launch} {D : va_G} (kI kZ : ClassId) (x : Nat → Nat) (PW : Nat → Int) (hP : ∀ j, -1000 ≤ PW j ∧ PW j ≤ 1000) (a b : Int) (ha : (-2147483648 ≤ a ∧ a < 2147483648)) (hb : (-2147483648 ≤ b ∧ b < 2147483648)) : Dt l D (ty2 kI kZ) y_P_weightOf w_P_weightOf { frames := 1, cells := 0, slots := 0, locals := 20 } [.ref (x 11), .int (iI (a)), .int (iI (b))] (wP kI kZ x PW) (some (.int (iI (wtOf PW a b)))) (wP kI kZ x PW) := by
  refine Met.toJ (own := R_P) (QD D (some (.int (iI (wtOf PW a b)))) (wP kI kZ x PW)) mk_P_weightOf rfl (Nat.le_of_ble_eq_true rfl) ?_
  intro p e s m args below meth c A C hr hlk hnm
  show JJ p l e { frames := 1, cells := 0, slots := 0, locals := 20 } s m args below meth c D A 3 (MQ below (QD D (some (.int (iI (wtOf PW a b)))) (wP kI kZ x PW) A) args s 0 0 A) 0 0 0 [(0, .ref (x 11)), (1, .int (iI (a))), (2, .int (iI (b)))] [] (wP kI kZ x PW)
  refine j_iload_n (q := 1) C 1 rfl d_P_weightOf_0 rfl ?_
  have e1 := bP_r a
  refine j_callN (q := 4) (wr := wP kI kZ x PW) C [.int (iI (a))] [] (c_C_isPlace kI kZ x a (by omega)) nl_P_15 mk_C_isPlace st_C_isPlace [] [0, 1] [0, 1] rfl (by decide) rfl (by decide) (by decide) (wP kI kZ x PW) rfl (by decide) rfl rfl rfl (Nat.le_of_ble_eq_true rfl) ⟨Nat.le_of_ble_eq_true rfl, Nat.le_of_ble_eq_true rfl⟩ ⟨Nat.le_of_ble_eq_true rfl, Nat.le_of_ble_eq_true rfl⟩ d_P_weightOf_1 rfl ?_
  refine j_if_eq C 28 7 d_P_weightOf_4 rfl rfl (by omega) (fun c1 => ?_) (fun c1 => ?_)
  · have c1 := bP_0 c1
    refine j_iconst (q := 29) C d_P_weightOf_28 rfl ?_
    exact j_iret C hr hlk d_P_weightOf_29 (congrArg (fun z => some (Value.int (iI z))) (show (wtOf PW a b) = (0) from by unfold wtOf; split <;> first | rfl | omega)) rfl
  · have c1 := bP_1 c1
    refine j_iload_n (q := 8) C 2 rfl d_P_weightOf_7 rfl ?_
    have e8 := bP_r b
    refine j_callN (q := 11) (wr := wP kI kZ x PW) C [.int (iI (b))] [] (c_C_isPlace kI kZ x b (by omega)) nl_P_15 mk_C_isPlace st_C_isPlace [] [0, 1] [0, 1] rfl (by decide) rfl (by decide) (by decide) (wP kI kZ x PW) rfl (by decide) rfl rfl rfl (Nat.le_of_ble_eq_true rfl) ⟨Nat.le_of_ble_eq_true rfl, Nat.le_of_ble_eq_true rfl⟩ ⟨Nat.le_of_ble_eq_true rfl, Nat.le_of_ble_eq_true rfl⟩ d_P_weightOf_8 rfl ?_
    refine j_if_eq C 28 14 d_P_weightOf_11 rfl rfl (by omega) (fun c2 => ?_) (fun c2 => ?_)
    · have c2 := bP_0 c2
      refine j_iconst (q := 29) C d_P_weightOf_28 rfl ?_
      first | (exfalso; omega) | exact j_iret C hr hlk d_P_weightOf_29 (congrArg (fun z => some (Value.int (iI z))) (show (wtOf PW a b) = (0) from by unfold wtOf; split <;> first | rfl | omega)) rfl
    · have c2 := bP_1 c2
      refine j_aload_n (q := 15) C 0 rfl d_P_weightOf_14 rfl ?_
      refine j_get (q := 18) C i_P rfl 0 rfl 0 (by decide) rfl rfl fl_P_9 d_P_weightOf_15 rfl ?_
      refine j_iload_n (q := 19) C 1 rfl d_P_weightOf_18 rfl ?_
      refine j_bipush (q := 21) C d_P_weightOf_19 rfl rfl ?_
      refine j_imul (q := 22) C d_P_weightOf_21 rfl ?_
      refine j_iload_n (q := 23) C 2 rfl d_P_weightOf_22 rfl ?_
      refine j_iadd (q := 24) C d_P_weightOf_23 rfl ?_
      refine j_iald (q := 25) C 1 0 rfl rfl (by decide) (by omega) d_P_weightOf_24 rfl ?_
      have h24 := hP ((a * 26) + b).toNat
      refine j_goto C 29 d_P_weightOf_25 rfl ?_
      first | (exfalso; omega) | exact j_iret C hr hlk d_P_weightOf_29 (congrArg (fun z => some (Value.int (iI z))) (show (wtOf PW a b) = (PW ((a * 26) + b).toNat) from by unfold wtOf; split <;> first | rfl | omega)) rfl
set_option maxRecDepth 100000 in
set_option maxHeartbeats 4000000 in
theorem c_X_append {l : Launch} {D : va_G} (kI kZ : ClassId) (x : Nat → Nat) (XP : Nat → Int) (xn : Int) (hX : IX XP xn) (a : Int) (ha : (-2147483648 ≤ a ∧ a < 2147483648)) : Dt l D (ty2 kI kZ) y_X_append w_X_append { frames := 1, cells := 0, slots := 0, locals := 20 } [.ref (x 20), .int (iI (a))] (wX kI kZ x XP xn) (some (.int (iI (if (0 ≤ a ∧ a < 26) ∧ xn < 60 then 1 else 0)))) (wX kI kZ x (if (0 ≤ a ∧ a < 26) ∧ xn < 60 then uI XP xn.toNat a else XP) (if (0 ≤ a ∧ a < 26) ∧ xn < 60 then xn + 1 else xn)) := by
  refine Met.toJ (own := R_X) (QD D (some (.int (iI (if (0 ≤ a ∧ a < 26) ∧ xn < 60 then 1 else 0)))) (wX kI kZ x (if (0 ≤ a ∧ a < 26) ∧ xn < 60 then uI XP xn.toNat a else XP) (if (0 ≤ a ∧ a < 26) ∧ xn < 60 then xn + 1 else xn))) mk_X_append rfl (Nat.le_of_ble_eq_true rfl) ?_
  intro p e s m args below meth c A C hr hlk hnm
  show JJ p l e { frames := 1, cells := 0, slots := 0, locals := 20 } s m args below meth c D A 2 (MQ below (QD D (some (.int (iI (if (0 ≤ a ∧ a < 26) ∧ xn < 60 then 1 else 0)))) (wX kI kZ x (if (0 ≤ a ∧ a < 26) ∧ xn < 60 then uI XP xn.toNat a else XP) (if (0 ≤ a ∧ a < 26) ∧ xn < 60 then xn + 1 else xn)) A) args s 0 0 A) 0 0 0 [(0, .ref (x 20)), (1, .int (iI (a)))] [] (wX kI kZ x XP xn)
  obtain ⟨hxn, hXP⟩ := id hX
  refine j_iload_n (q := 1) C 1 rfl d_X_append_0 rfl ?_
  have e1 := bP_r a
  refine j_callN (q := 4) (wr := wX kI kZ x XP xn) C [.int (iI (a))] [] (c_C_isPlace kI kZ x a (by omega)) nl_X_19 mk_C_isPlace st_C_isPlace [] [0, 1] [0, 1] rfl (by decide) rfl (by decide) (by decide) (wX kI kZ x XP xn) rfl (by decide) rfl rfl rfl (Nat.le_of_ble_eq_true rfl) ⟨Nat.le_of_ble_eq_true rfl, Nat.le_of_ble_eq_true rfl⟩ ⟨Nat.le_of_ble_eq_true rfl, Nat.le_of_ble_eq_true rfl⟩ d_X_append_1 rfl ?_
  refine j_if_eq C 16 7 d_X_append_4 rfl rfl (by omega) (fun c1 => ?_) (fun c1 => ?_)
  · have c1 := bP_0 c1
    refine j_iconst (q := 17) C d_X_append_16 rfl ?_
    exact j_zret C hr hlk (by omega) d_X_append_17 (congrArg (fun z => some (Value.int (iI z))) (show (if (0 ≤ a ∧ a < 26) ∧ xn < 60 then 1 else 0) = (0) from by split <;> omega)) (by repeat (first | rfl | (rw [if_pos (by omega)]) | (rw [if_neg (by omega)])))
  · have c1 := bP_1 c1
    refine j_aload_n (q := 8) C 0 rfl d_X_append_7 rfl ?_
    refine j_get (q := 11) C i_X rfl 0 rfl 1 (by decide) rfl rfl fl_X_15 d_X_append_8 rfl ?_
    refine j_bipush (q := 13) C d_X_append_11 rfl rfl ?_
    refine j_icmp_lt C 18 16 d_X_append_13 rfl rfl (by omega) (by omega) (fun c2 => ?_) (fun c2 => ?_)
    · refine j_aload_n (q := 19) C 0 rfl d_X_append_18 rfl ?_
      refine j_get (q := 22) C i_X rfl 0 rfl 0 (by decide) rfl rfl fl_X_9 d_X_append_19 rfl ?_
      refine j_aload_n (q := 23) C 0 rfl d_X_append_22 rfl ?_
      refine j_get (q := 26) C i_X rfl 0 rfl 1 (by decide) rfl rfl fl_X_15 d_X_append_23 rfl ?_
      refine j_iload_n (q := 27) C 1 rfl d_X_append_26 rfl ?_
      refine j_iast (q := 28) C 1 0 rfl rfl (by decide) (by omega) (wX kI kZ x (uI XP xn.toNat a) xn) rfl d_X_append_27 rfl ?_
      refine j_aload_n (q := 29) C 0 rfl d_X_append_28 rfl ?_
      refine j_dup (q := 30) C rfl d_X_append_29 rfl ?_
      refine j_get (q := 33) C i_X rfl 0 rfl 1 (by decide) rfl rfl fl_X_15 d_X_append_30 rfl ?_
      refine j_iconst (q := 34) C d_X_append_33 rfl ?_
      refine j_iadd (q := 35) C d_X_append_34 rfl ?_
      refine j_put (q := 38) (ty := .int) C i_X rfl t_X t_X_ok n_X 0 rfl 1 (by decide) rfl fl_X_15 rfl (by decide +kernel) rfl rfl (Nat.le_of_ble_eq_true rfl) (wX kI kZ x (uI XP xn.toNat a) (xn + 1)) rfl d_X_append_35 rfl ?_
      refine j_iconst (q := 39) C d_X_append_38 rfl ?_
      first | (exfalso; omega) | exact j_zret C hr hlk (by omega) d_X_append_39 (congrArg (fun z => some (Value.int (iI z))) (show (if (0 ≤ a ∧ a < 26) ∧ xn < 60 then 1 else 0) = (1) from by split <;> omega)) (by repeat (first | rfl | (rw [if_pos (by omega)]) | (rw [if_neg (by omega)])))
    · refine j_iconst (q := 17) C d_X_append_16 rfl ?_
      first | (exfalso; omega) | exact j_zret C hr hlk (by omega) d_X_append_17 (congrArg (fun z => some (Value.int (iI z))) (show (if (0 ≤ a ∧ a < 26) ∧ xn < 60 then 1 else 0) = (0) from by split <;> omega)) (by repeat (first | rfl | (rw [if_pos (by omega)]) | (rw [if_neg (by omega)])))
set_option maxRecDepth 100000 in
set_option maxHeartbeats 4000000 in
theorem c_X_empty {l : Launch} {D : va_G} (kI kZ : ClassId) (x : Nat → Nat) (XP : Nat → Int) (xn : Int) (hX : IX XP xn) : Dt l D (ty2 kI kZ) y_X_empty w_X_empty { frames := 0, cells := 0, slots := 0, locals := 0 } [.ref (x 20)] (wX kI kZ x XP xn) none (wX kI kZ x XP 0) := by
  refine Met.toJ (own := R_X) (QD D none (wX kI kZ x XP 0)) mk_X_empty rfl (Nat.le_of_ble_eq_true rfl) ?_
  intro p e s m args below meth c A C hr hlk hnm
  show JJ p l e { frames := 0, cells := 0, slots := 0, locals := 0 } s m args below meth c D A 1 (MQ below (QD D none (wX kI kZ x XP 0) A) args s 0 0 A) 0 0 0 [(0, .ref (x 20))] [] (wX kI kZ x XP xn)
  refine j_aload_n (q := 1) C 0 rfl d_X_empty_0 rfl ?_
  refine j_iconst (q := 2) C d_X_empty_1 rfl ?_
  refine j_put (q := 5) (ty := .int) C i_X rfl t_X t_X_ok n_X 0 rfl 1 (by decide) rfl fl_X_15 rfl (by decide +kernel) rfl rfl (Nat.le_of_ble_eq_true rfl) (wX kI kZ x XP 0) rfl d_X_empty_2 rfl ?_
  exact j_vret C hr hlk d_X_empty_5 rfl
set_option maxRecDepth 100000 in
set_option maxHeartbeats 4000000 in
theorem c_X_size {l : Launch} {D : va_G} (kI kZ : ClassId) (x : Nat → Nat) (XP : Nat → Int) (xn : Int) (hX : IX XP xn) : Dt l D (ty2 kI kZ) y_X_size w_X_size { frames := 0, cells := 0, slots := 0, locals := 0 } [.ref (x 20)] (wX kI kZ x XP xn) (some (.int (iI (xn)))) (wX kI kZ x XP xn) := by
  refine Met.toJ (own := R_X) (QD D (some (.int (iI (xn)))) (wX kI kZ x XP xn)) mk_X_size rfl (Nat.le_of_ble_eq_true rfl) ?_
  intro p e s m args below meth c A C hr hlk hnm
  show JJ p l e { frames := 0, cells := 0, slots := 0, locals := 0 } s m args below meth c D A 1 (MQ below (QD D (some (.int (iI (xn)))) (wX kI kZ x XP xn) A) args s 0 0 A) 0 0 0 [(0, .ref (x 20))] [] (wX kI kZ x XP xn)
  refine j_aload_n (q := 1) C 0 rfl d_X_size_0 rfl ?_
  refine j_get (q := 4) C i_X rfl 0 rfl 1 (by decide) rfl rfl fl_X_15 d_X_size_1 rfl ?_
  exact j_iret C hr hlk d_X_size_4 rfl rfl
set_option maxRecDepth 100000 in
set_option maxHeartbeats 4000000 in
theorem c_X_placeAt {l : Launch} {D : va_G} (kI kZ : ClassId) (x : Nat → Nat) (XP : Nat → Int) (xn : Int) (hX : IX XP xn) (a : Int) (ha : (-2147483648 ≤ a ∧ a < 2147483648)) : Dt l D (ty2 kI kZ) y_X_placeAt w_X_placeAt { frames := 0, cells := 0, slots := 0, locals := 0 } [.ref (x 20), .int (iI (a))] (wX kI kZ x XP xn) (some (.int (iI (sgAt XP xn a)))) (wX kI kZ x XP xn) := by
  refine Met.toJ (own := R_X) (QD D (some (.int (iI (sgAt XP xn a)))) (wX kI kZ x XP xn)) mk_X_placeAt rfl (Nat.le_of_ble_eq_true rfl) ?_
  intro p e s m args below meth c A C hr hlk hnm
  show JJ p l e { frames := 0, cells := 0, slots := 0, locals := 0 } s m args below meth c D A 2 (MQ below (QD D (some (.int (iI (sgAt XP xn a)))) (wX kI kZ x XP xn) A) args s 0 0 A) 0 0 0 [(0, .ref (x 20)), (1, .int (iI (a)))] [] (wX kI kZ x XP xn)
  obtain ⟨hxn, hXP⟩ := id hX
  refine j_iload_n (q := 1) C 1 rfl d_X_placeAt_0 rfl ?_
  refine j_if_lt C 21 4 d_X_placeAt_1 rfl rfl (by omega) (fun c1 => ?_) (fun c1 => ?_)
  · refine j_iconst (q := 22) C d_X_placeAt_21 rfl ?_
    exact j_iret C hr hlk d_X_placeAt_22 (congrArg (fun z => some (Value.int (iI z))) (show (sgAt XP xn a) = (-1) from by unfold sgAt; split <;> first | rfl | omega)) rfl
  · refine j_iload_n (q := 5) C 1 rfl d_X_placeAt_4 rfl ?_
    refine j_aload_n (q := 6) C 0 rfl d_X_placeAt_5 rfl ?_
    refine j_get (q := 9) C i_X rfl 0 rfl 1 (by decide) rfl rfl fl_X_15 d_X_placeAt_6 rfl ?_
    refine j_icmp_ge C 21 12 d_X_placeAt_9 rfl rfl (by omega) (by omega) (fun c2 => ?_) (fun c2 => ?_)
    · refine j_iconst (q := 22) C d_X_placeAt_21 rfl ?_
      first | (exfalso; omega) | exact j_iret C hr hlk d_X_placeAt_22 (congrArg (fun z => some (Value.int (iI z))) (show (sgAt XP xn a) = (-1) from by unfold sgAt; split <;> first | rfl | omega)) rfl
    · refine j_aload_n (q := 13) C 0 rfl d_X_placeAt_12 rfl ?_
      refine j_get (q := 16) C i_X rfl 0 rfl 0 (by decide) rfl rfl fl_X_9 d_X_placeAt_13 rfl ?_
      refine j_iload_n (q := 17) C 1 rfl d_X_placeAt_16 rfl ?_
      refine j_iald (q := 18) C 1 0 rfl rfl (by decide) (by omega) d_X_placeAt_17 rfl ?_
      have h17 := hXP a.toNat
      refine j_goto C 22 d_X_placeAt_18 rfl ?_
      first | (exfalso; omega) | exact j_iret C hr hlk d_X_placeAt_22 (congrArg (fun z => some (Value.int (iI z))) (show (sgAt XP xn a) = (XP a.toNat) from by unfold sgAt; split <;> first | rfl | omega)) rfl
end
section
def IK (KS KB KE KZ KV : Nat → Int) (kn kw : Int) : Prop := (0 ≤ kn ∧ kn ≤ 60) ∧ (0 ≤ kw ∧ kw ≤ 30) ∧ (∀ j, -1 ≤ KS j ∧ KS j < 26) ∧ (∀ j, 0 ≤ KB j ∧ KB j < 60) ∧ (∀ j, 0 ≤ KE j ∧ KE j ≤ 60) ∧ (∀ j, 0 ≤ KZ j ∧ KZ j ≤ 1) ∧ ∀ j, -1 ≤ KV j ∧ KV j < 26
theorem lnK_r {KE : Nat → Int} (h : ∀ j, 0 ≤ KE j ∧ KE j ≤ 60) (n a : Int) : 0 ≤ lnOf KE n a ∧ lnOf KE n a ≤ 60 := by
  have := h a.toNat
  unfold lnOf
  split <;> omega
def ctK (KZ : Nat → Int) (a : Int) : Int := if (0 ≤ a ∧ a < 26) ∧ ¬ KZ a.toNat = 0 then 1 else 0
theorem ctK_r (KZ : Nat → Int) (a : Int) : 0 ≤ ctK KZ a ∧ ctK KZ a ≤ 1 := by unfold ctK; split <;> omega
def nmAt (KS KB KE : Nat → Int) (kn kw a i : Int) : Int := if 0 ≤ i ∧ i < lnOf KE kw a then sgAt KS kn (KB a.toNat + i) else -1
theorem nmAt_r {KS KB KE : Nat → Int} (h : ∀ j, -1 ≤ KS j ∧ KS j < 26) (kn kw a i : Int) : -1 ≤ nmAt KS KB KE kn kw a i ∧ nmAt KS KB KE kn kw a i < 26 := by
  have := sgAt_r h kn (KB a.toNat + i)
  unfold nmAt
  split <;> omega
def kpAt (KV : Nat → Int) (a : Int) : Int := if 0 ≤ a ∧ a < 26 then KV a.toNat else -1
theorem kpAt_r {KV : Nat → Int} (h : ∀ j, -1 ≤ KV j ∧ KV j < 26) (a : Int) : -1 ≤ kpAt KV a ∧ kpAt KV a < 26 := by
  have := h a.toNat
  unfold kpAt
  split <;> omega
/-- a codeword begins with the sign that comes -/
def gB (KS : Nat → Int) (kn kw : Int) : Prop := sgAt KS kn (kn - 1) = -1 ∧ kw < 30

set_option maxRecDepth 100000 in
set_option maxHeartbeats 4000000 in
theorem c_K_size {l : Launch} {D : va_G} (kI kZ : ClassId) (x : Nat → Nat) (KS KB KE KZ KV : Nat → Int) (kn kw : Int) (hK : IK KS KB KE KZ KV kn kw) : Dt l D (ty2 kI kZ) y_K_size w_K_size { frames := 0, cells := 0, slots := 0, locals := 0 } [.ref (x 5)] (wK kI kZ x KS KB KE KZ KV kn kw) (some (.int (iI (kn)))) (wK kI kZ x KS KB KE KZ KV kn kw) := by
  refine Met.toJ (own := R_K) (QD D (some (.int (iI (kn)))) (wK kI kZ x KS KB KE KZ KV kn kw)) mk_K_size rfl (Nat.le_of_ble_eq_true rfl) ?_
  intro p e s m args below meth c A C hr hlk hnm
  show JJ p l e { frames := 0, cells := 0, slots := 0, locals := 0 } s m args below meth c D A 1 (MQ below (QD D (some (.int (iI (kn)))) (wK kI kZ x KS KB KE KZ KV kn kw) A) args s 0 0 A) 0 0 0 [(0, .ref (x 5))] [] (wK kI kZ x KS KB KE KZ KV kn kw)
  refine j_aload_n (q := 1) C 0 rfl d_K_size_0 rfl ?_
  refine j_get (q := 4) C i_K rfl 0 rfl 5 (by decide) rfl rfl fl_K_28 d_K_size_1 rfl ?_
  exact j_iret C hr hlk d_K_size_4 rfl rfl
set_option maxRecDepth 100000 in
set_option maxHeartbeats 4000000 in
theorem c_K_codewordCount {l : Launch} {D : va_G} (kI kZ : ClassId) (x : Nat → Nat) (KS KB KE KZ KV : Nat → Int) (kn kw : Int) (hK : IK KS KB KE KZ KV kn kw) : Dt l D (ty2 kI kZ) y_K_codewordCount w_K_codewordCount { frames := 0, cells := 0, slots := 0, locals := 0 } [.ref (x 5)] (wK kI kZ x KS KB KE KZ KV kn kw) (some (.int (iI (kw)))) (wK kI kZ x KS KB KE KZ KV kn kw) := by
  refine Met.toJ (own := R_K) (QD D (some (.int (iI (kw)))) (wK kI kZ x KS KB KE KZ KV kn kw)) mk_K_codewordCount rfl (Nat.le_of_ble_eq_true rfl) ?_
  intro p e s m args below meth c A C hr hlk hnm
  show JJ p l e { frames := 0, cells := 0, slots := 0, locals := 0 } s m args below meth c D A 1 (MQ below (QD D (some (.int (iI (kw)))) (wK kI kZ x KS KB KE KZ KV kn kw) A) args s 0 0 A) 0 0 0 [(0, .ref (x 5))] [] (wK kI kZ x KS KB KE KZ KV kn kw)
  refine j_aload_n (q := 1) C 0 rfl d_K_codewordCount_0 rfl ?_
  refine j_get (q := 4) C i_K rfl 0 rfl 6 (by decide) rfl rfl fl_K_32 d_K_codewordCount_1 rfl ?_
  exact j_iret C hr hlk d_K_codewordCount_4 rfl rfl
set_option maxRecDepth 100000 in
set_option maxHeartbeats 4000000 in
theorem c_K_signAt {l : Launch} {D : va_G} (kI kZ : ClassId) (x : Nat → Nat) (KS KB KE KZ KV : Nat → Int) (kn kw : Int) (hK : IK KS KB KE KZ KV kn kw) (a : Int) (ha : (-2147483648 ≤ a ∧ a < 2147483648)) : Dt l D (ty2 kI kZ) y_K_signAt w_K_signAt { frames := 0, cells := 0, slots := 0, locals := 0 } [.ref (x 5), .int (iI (a))] (wK kI kZ x KS KB KE KZ KV kn kw) (some (.int (iI (sgAt KS kn a)))) (wK kI kZ x KS KB KE KZ KV kn kw) := by
  refine Met.toJ (own := R_K) (QD D (some (.int (iI (sgAt KS kn a)))) (wK kI kZ x KS KB KE KZ KV kn kw)) mk_K_signAt rfl (Nat.le_of_ble_eq_true rfl) ?_
  intro p e s m args below meth c A C hr hlk hnm
  show JJ p l e { frames := 0, cells := 0, slots := 0, locals := 0 } s m args below meth c D A 2 (MQ below (QD D (some (.int (iI (sgAt KS kn a)))) (wK kI kZ x KS KB KE KZ KV kn kw) A) args s 0 0 A) 0 0 0 [(0, .ref (x 5)), (1, .int (iI (a)))] [] (wK kI kZ x KS KB KE KZ KV kn kw)
  obtain ⟨hkn, hkw, hKS, hKB, hKE, hKZ, hKV⟩ := id hK
  refine j_iload_n (q := 1) C 1 rfl d_K_signAt_0 rfl ?_
  refine j_if_lt C 21 4 d_K_signAt_1 rfl rfl (by omega) (fun c1 => ?_) (fun c1 => ?_)
  · refine j_iconst (q := 22) C d_K_signAt_21 rfl ?_
    exact j_iret C hr hlk d_K_signAt_22 (congrArg (fun z => some (Value.int (iI z))) (show (sgAt KS kn a) = (-1) from by unfold sgAt; split <;> first | rfl | omega)) rfl
  · refine j_iload_n (q := 5) C 1 rfl d_K_signAt_4 rfl ?_
    refine j_aload_n (q := 6) C 0 rfl d_K_signAt_5 rfl ?_
    refine j_get (q := 9) C i_K rfl 0 rfl 5 (by decide) rfl rfl fl_K_28 d_K_signAt_6 rfl ?_
    refine j_icmp_ge C 21 12 d_K_signAt_9 rfl rfl (by omega) (by omega) (fun c2 => ?_) (fun c2 => ?_)
    · refine j_iconst (q := 22) C d_K_signAt_21 rfl ?_
      first | (exfalso; omega) | exact j_iret C hr hlk d_K_signAt_22 (congrArg (fun z => some (Value.int (iI z))) (show (sgAt KS kn a) = (-1) from by unfold sgAt; split <;> first | rfl | omega)) rfl
    · refine j_aload_n (q := 13) C 0 rfl d_K_signAt_12 rfl ?_
      refine j_get (q := 16) C i_K rfl 0 rfl 0 (by decide) rfl rfl fl_K_9 d_K_signAt_13 rfl ?_
      refine j_iload_n (q := 17) C 1 rfl d_K_signAt_16 rfl ?_
      refine j_iald (q := 18) C 1 0 rfl rfl (by decide) (by omega) d_K_signAt_17 rfl ?_
      have h17 := hKS a.toNat
      refine j_goto C 22 d_K_signAt_18 rfl ?_
      first | (exfalso; omega) | exact j_iret C hr hlk d_K_signAt_22 (congrArg (fun z => some (Value.int (iI z))) (show (sgAt KS kn a) = (KS a.toNat) from by unfold sgAt; split <;> first | rfl | omega)) rfl
set_option maxRecDepth 100000 in
set_option maxHeartbeats 4000000 in
theorem c_K_contains {l : Launch} {D : va_G} (kI kZ : ClassId) (x : Nat → Nat) (KS KB KE KZ KV : Nat → Int) (kn kw : Int) (hK : IK KS KB KE KZ KV kn kw) (a : Int) (ha : (-2147483648 ≤ a ∧ a < 2147483648)) : Dt l D (ty2 kI kZ) y_K_contains w_K_contains { frames := 1, cells := 0, slots := 0, locals := 20 } [.ref (x 5), .int (iI (a))] (wK kI kZ x KS KB KE KZ KV kn kw) (some (.int (iI (ctK KZ a)))) (wK kI kZ x KS KB KE KZ KV kn kw) := by
  refine Met.toJ (own := R_K) (QD D (some (.int (iI (ctK KZ a)))) (wK kI kZ x KS KB KE KZ KV kn kw)) mk_K_contains rfl (Nat.le_of_ble_eq_true rfl) ?_
  intro p e s m args below meth c A C hr hlk hnm
  show JJ p l e { frames := 1, cells := 0, slots := 0, locals := 20 } s m args below meth c D A 2 (MQ below (QD D (some (.int (iI (ctK KZ a)))) (wK kI kZ x KS KB KE KZ KV kn kw) A) args s 0 0 A) 0 0 0 [(0, .ref (x 5)), (1, .int (iI (a)))] [] (wK kI kZ x KS KB KE KZ KV kn kw)
  obtain ⟨hkn, hkw, hKS, hKB, hKE, hKZ, hKV⟩ := id hK
  refine j_iload_n (q := 1) C 1 rfl d_K_contains_0 rfl ?_
  have e1 := bP_r a
  refine j_callN (q := 4) (wr := wK kI kZ x KS KB KE KZ KV kn kw) C [.int (iI (a))] [] (c_C_isNumber kI kZ x a (by omega)) nl_K_41 mk_C_isNumber st_C_isNumber [] [0, 1, 2, 3, 4, 5] [0, 1, 2, 3, 4, 5] rfl (by decide) rfl (by decide) (by decide) (wK kI kZ x KS KB KE KZ KV kn kw) rfl (by decide) rfl rfl rfl (Nat.le_of_ble_eq_true rfl) ⟨Nat.le_of_ble_eq_true rfl, Nat.le_of_ble_eq_true rfl⟩ ⟨Nat.le_of_ble_eq_true rfl, Nat.le_of_ble_eq_true rfl⟩ d_K_contains_1 rfl ?_
  refine j_if_eq C 20 7 d_K_contains_4 rfl rfl (by omega) (fun c1 => ?_) (fun c1 => ?_)
  · have c1 := bP_0 c1
    refine j_iconst (q := 21) C d_K_contains_20 rfl ?_
    exact j_zret C hr hlk (by omega) d_K_contains_21 (congrArg (fun z => some (Value.int (iI z))) (show (ctK KZ a) = (0) from by unfold ctK; split <;> omega)) rfl
  · have c1 := bP_1 c1
    refine j_aload_n (q := 8) C 0 rfl d_K_contains_7 rfl ?_
    refine j_get (q := 11) C i_K rfl 0 rfl 3 (by decide) rfl rfl fl_K_21 d_K_contains_8 rfl ?_
    refine j_iload_n (q := 12) C 1 rfl d_K_contains_11 rfl ?_
    refine j_zald (q := 13) C 4 1 rfl rfl (by decide) (by omega) d_K_contains_12 rfl ?_
    have h12 := hKZ a.toNat
    refine j_if_eq C 20 16 d_K_contains_13 rfl rfl (by omega) (fun c2 => ?_) (fun c2 => ?_)
    · refine j_iconst (q := 21) C d_K_contains_20 rfl ?_
      first | (exfalso; omega) | exact j_zret C hr hlk (by omega) d_K_contains_21 (congrArg (fun z => some (Value.int (iI z))) (show (ctK KZ a) = (0) from by unfold ctK; split <;> omega)) rfl
    · refine j_iconst (q := 17) C d_K_contains_16 rfl ?_
      refine j_goto C 21 d_K_contains_17 rfl ?_
      first | (exfalso; omega) | exact j_zret C hr hlk (by omega) d_K_contains_21 (congrArg (fun z => some (Value.int (iI z))) (show (ctK KZ a) = (1) from by unfold ctK; split <;> omega)) rfl
set_option maxRecDepth 100000 in
set_option maxHeartbeats 4000000 in
theorem c_K_codewordLength {l : Launch} {D : va_G} (kI kZ : ClassId) (x : Nat → Nat) (KS KB KE KZ KV : Nat → Int) (kn kw : Int) (hK : IK KS KB KE KZ KV kn kw) (a : Int) (ha : (-2147483648 ≤ a ∧ a < 2147483648)) : Dt l D (ty2 kI kZ) y_K_codewordLength w_K_codewordLength { frames := 0, cells := 0, slots := 0, locals := 0 } [.ref (x 5), .int (iI (a))] (wK kI kZ x KS KB KE KZ KV kn kw) (some (.int (iI (lnOf KE kw a)))) (wK kI kZ x KS KB KE KZ KV kn kw) := by
  refine Met.toJ (own := R_K) (QD D (some (.int (iI (lnOf KE kw a)))) (wK kI kZ x KS KB KE KZ KV kn kw)) mk_K_codewordLength rfl (Nat.le_of_ble_eq_true rfl) ?_
  intro p e s m args below meth c A C hr hlk hnm
  show JJ p l e { frames := 0, cells := 0, slots := 0, locals := 0 } s m args below meth c D A 2 (MQ below (QD D (some (.int (iI (lnOf KE kw a)))) (wK kI kZ x KS KB KE KZ KV kn kw) A) args s 0 0 A) 0 0 0 [(0, .ref (x 5)), (1, .int (iI (a)))] [] (wK kI kZ x KS KB KE KZ KV kn kw)
  obtain ⟨hkn, hkw, hKS, hKB, hKE, hKZ, hKV⟩ := id hK
  refine j_iload_n (q := 1) C 1 rfl d_K_codewordLength_0 rfl ?_
  refine j_if_lt C 21 4 d_K_codewordLength_1 rfl rfl (by omega) (fun c1 => ?_) (fun c1 => ?_)
  · refine j_iconst (q := 22) C d_K_codewordLength_21 rfl ?_
    exact j_iret C hr hlk d_K_codewordLength_22 (congrArg (fun z => some (Value.int (iI z))) (show (lnOf KE kw a) = (0) from by unfold lnOf; split <;> first | rfl | omega)) rfl
  · refine j_iload_n (q := 5) C 1 rfl d_K_codewordLength_4 rfl ?_
    refine j_aload_n (q := 6) C 0 rfl d_K_codewordLength_5 rfl ?_
    refine j_get (q := 9) C i_K rfl 0 rfl 6 (by decide) rfl rfl fl_K_32 d_K_codewordLength_6 rfl ?_
    refine j_icmp_ge C 21 12 d_K_codewordLength_9 rfl rfl (by omega) (by omega) (fun c2 => ?_) (fun c2 => ?_)
    · refine j_iconst (q := 22) C d_K_codewordLength_21 rfl ?_
      first | (exfalso; omega) | exact j_iret C hr hlk d_K_codewordLength_22 (congrArg (fun z => some (Value.int (iI z))) (show (lnOf KE kw a) = (0) from by unfold lnOf; split <;> first | rfl | omega)) rfl
    · refine j_aload_n (q := 13) C 0 rfl d_K_codewordLength_12 rfl ?_
      refine j_get (q := 16) C i_K rfl 0 rfl 2 (by decide) rfl rfl fl_K_18 d_K_codewordLength_13 rfl ?_
      refine j_iload_n (q := 17) C 1 rfl d_K_codewordLength_16 rfl ?_
      refine j_iald (q := 18) C 3 0 rfl rfl (by decide) (by omega) d_K_codewordLength_17 rfl ?_
      have h17 := hKE a.toNat
      refine j_goto C 22 d_K_codewordLength_18 rfl ?_
      first | (exfalso; omega) | exact j_iret C hr hlk d_K_codewordLength_22 (congrArg (fun z => some (Value.int (iI z))) (show (lnOf KE kw a) = (KE a.toNat) from by unfold lnOf; split <;> first | rfl | omega)) rfl
set_option maxRecDepth 100000 in
set_option maxHeartbeats 4000000 in
theorem c_K_numberAt {l : Launch} {D : va_G} (kI kZ : ClassId) (x : Nat → Nat) (KS KB KE KZ KV : Nat → Int) (kn kw : Int) (hK : IK KS KB KE KZ KV kn kw) (a i : Int) (ha : (-2147483648 ≤ a ∧ a < 2147483648)) (hi : (-2147483648 ≤ i ∧ i < 2147483648)) : Dt l D (ty2 kI kZ) y_K_numberAt w_K_numberAt { frames := 1, cells := 0, slots := 0, locals := 21 } [.ref (x 5), .int (iI (a)), .int (iI (i))] (wK kI kZ x KS KB KE KZ KV kn kw) (some (.int (iI (nmAt KS KB KE kn kw a i)))) (wK kI kZ x KS KB KE KZ KV kn kw) := by
  refine Met.toJ (own := R_K) (QD D (some (.int (iI (nmAt KS KB KE kn kw a i)))) (wK kI kZ x KS KB KE KZ KV kn kw)) mk_K_numberAt rfl (Nat.le_of_ble_eq_true rfl) ?_
  intro p e s m args below meth c A C hr hlk hnm
  show JJ p l e { frames := 1, cells := 0, slots := 0, locals := 21 } s m args below meth c D A 3 (MQ below (QD D (some (.int (iI (nmAt KS KB KE kn kw a i)))) (wK kI kZ x KS KB KE KZ KV kn kw) A) args s 0 0 A) 0 0 0 [(0, .ref (x 5)), (1, .int (iI (a))), (2, .int (iI (i)))] [] (wK kI kZ x KS KB KE KZ KV kn kw)
  obtain ⟨hkn, hkw, hKS, hKB, hKE, hKZ, hKV⟩ := id hK
  refine j_iload_n (q := 1) C 2 rfl d_K_numberAt_0 rfl ?_
  refine j_if_lt C 28 4 d_K_numberAt_1 rfl rfl (by omega) (fun c1 => ?_) (fun c1 => ?_)
  · refine j_iconst (q := 29) C d_K_numberAt_28 rfl ?_
    exact j_iret C hr hlk d_K_numberAt_29 (congrArg (fun z => some (Value.int (iI z))) (show (nmAt KS KB KE kn kw a i) = (-1) from by unfold nmAt; split <;> first | rfl | omega)) rfl
  · refine j_iload_n (q := 5) C 2 rfl d_K_numberAt_4 rfl ?_
    refine j_aload_n (q := 6) C 0 rfl d_K_numberAt_5 rfl ?_
    refine j_iload_n (q := 7) C 1 rfl d_K_numberAt_6 rfl ?_
    have e7 := lnK_r hKE kw a
    refine j_callV (q := 10) (wr := []) C [.int (iI (a))] [.int (iI (i))] (c_K_codewordLength kI kZ x KS KB KE KZ KV kn kw hK a (by omega)) ml_K_48 mk_K_codewordLength in_K_codewordLength se_K_codewordLength rfl rfl rfl [0, 1, 2, 3, 4, 5] [] [0, 1, 2, 3, 4, 5] rfl (by decide) rfl (by decide) (by decide) (wK kI kZ x KS KB KE KZ KV kn kw) rfl (by decide) rfl rfl rfl (Nat.le_of_ble_eq_true rfl) ⟨Nat.le_of_ble_eq_true rfl, Nat.le_of_ble_eq_true rfl⟩ ⟨Nat.le_of_ble_eq_true rfl, Nat.le_of_ble_eq_true rfl⟩ d_K_numberAt_7 rfl ?_
    refine j_icmp_ge C 28 13 d_K_numberAt_10 rfl rfl (by omega) (by omega) (fun c2 => ?_) (fun c2 => ?_)
    · refine j_iconst (q := 29) C d_K_numberAt_28 rfl ?_
      first | (exfalso; omega) | exact j_iret C hr hlk d_K_numberAt_29 (congrArg (fun z => some (Value.int (iI z))) (show (nmAt KS KB KE kn kw a i) = (-1) from by unfold nmAt; split <;> first | rfl | omega)) rfl
    · have k10 := lnOf_in (WL := KE) (wn := kw) (a := a) (by omega)
      refine j_aload_n (q := 14) C 0 rfl d_K_numberAt_13 rfl ?_
      refine j_aload_n (q := 15) C 0 rfl d_K_numberAt_14 rfl ?_
      refine j_get (q := 18) C i_K rfl 0 rfl 1 (by decide) rfl rfl fl_K_15 d_K_numberAt_15 rfl ?_
      refine j_iload_n (q := 19) C 1 rfl d_K_numberAt_18 rfl ?_
      refine j_iald (q := 20) C 2 0 rfl rfl (by decide) (by omega) d_K_numberAt_19 rfl ?_
      have h19 := hKB a.toNat
      refine j_iload_n (q := 21) C 2 rfl d_K_numberAt_20 rfl ?_
      refine j_iadd (q := 22) C d_K_numberAt_21 rfl ?_
      have e22 := sgAt_r hKS kn ((KB a.toNat) + i)
      refine j_callV (q := 25) (wr := []) C [.int (iI ((KB a.toNat) + i))] [] (c_K_signAt kI kZ x KS KB KE KZ KV kn kw hK ((KB a.toNat) + i) (by omega)) ml_K_52 mk_K_signAt in_K_signAt se_K_signAt rfl rfl rfl [0, 1, 2, 3, 4, 5] [] [0, 1, 2, 3, 4, 5] rfl (by decide) rfl (by decide) (by decide) (wK kI kZ x KS KB KE KZ KV kn kw) rfl (by decide) rfl rfl rfl (Nat.le_of_ble_eq_true rfl) ⟨Nat.le_of_ble_eq_true rfl, Nat.le_of_ble_eq_true rfl⟩ ⟨Nat.le_of_ble_eq_true rfl, Nat.le_of_ble_eq_true rfl⟩ d_K_numberAt_22 rfl ?_
      refine j_goto C 29 d_K_numberAt_25 rfl ?_
      first | (exfalso; omega) | exact j_iret C hr hlk d_K_numberAt_29 (congrArg (fun z => some (Value.int (iI z))) (show (nmAt KS KB KE kn kw a i) = (sgAt KS kn ((KB a.toNat) + i)) from by unfold nmAt; split <;> first | rfl | omega)) rfl
set_option maxRecDepth 100000 in
set_option maxHeartbeats 4000000 in
theorem c_K_keepPlace {l : Launch} {D : va_G} (kI kZ : ClassId) (x : Nat → Nat) (KS KB KE KZ KV : Nat → Int) (kn kw : Int) (hK : IK KS KB KE KZ KV kn kw) (a v : Int) (ha : (-2147483648 ≤ a ∧ a < 2147483648)) (hv : (-2147483648 ≤ v ∧ v < 2147483648)) : Dt l D (ty2 kI kZ) y_K_keepPlace w_K_keepPlace { frames := 1, cells := 0, slots := 0, locals := 20 } [.ref (x 5), .int (iI (a)), .int (iI (v))] (wK kI kZ x KS KB KE KZ KV kn kw) none (wK kI kZ x KS KB KE KZ (if 0 ≤ a ∧ a < 26 then uI KV a.toNat v else KV) kn kw) := by
  refine Met.toJ (own := R_K) (QD D none (wK kI kZ x KS KB KE KZ (if 0 ≤ a ∧ a < 26 then uI KV a.toNat v else KV) kn kw)) mk_K_keepPlace rfl (Nat.le_of_ble_eq_true rfl) ?_
  intro p e s m args below meth c A C hr hlk hnm
  show JJ p l e { frames := 1, cells := 0, slots := 0, locals := 20 } s m args below meth c D A 3 (MQ below (QD D none (wK kI kZ x KS KB KE KZ (if 0 ≤ a ∧ a < 26 then uI KV a.toNat v else KV) kn kw) A) args s 0 0 A) 0 0 0 [(0, .ref (x 5)), (1, .int (iI (a))), (2, .int (iI (v)))] [] (wK kI kZ x KS KB KE KZ KV kn kw)
  obtain ⟨hkn, hkw, hKS, hKB, hKE, hKZ, hKV⟩ := id hK
  refine j_iload_n (q := 1) C 1 rfl d_K_keepPlace_0 rfl ?_
  have e1 := bP_r a
  refine j_callN (q := 4) (wr := wK kI kZ x KS KB KE KZ KV kn kw) C [.int (iI (a))] [] (c_C_isNumber kI kZ x a (by omega)) nl_K_41 mk_C_isNumber st_C_isNumber [] [0, 1, 2, 3, 4, 5] [0, 1, 2, 3, 4, 5] rfl (by decide) rfl (by decide) (by decide) (wK kI kZ x KS KB KE KZ KV kn kw) rfl (by decide) rfl rfl rfl (Nat.le_of_ble_eq_true rfl) ⟨Nat.le_of_ble_eq_true rfl, Nat.le_of_ble_eq_true rfl⟩ ⟨Nat.le_of_ble_eq_true rfl, Nat.le_of_ble_eq_true rfl⟩ d_K_keepPlace_1 rfl ?_
  refine j_if_eq C 14 7 d_K_keepPlace_4 rfl rfl (by omega) (fun c1 => ?_) (fun c1 => ?_)
  · have c1 := bP_0 c1
    exact j_vret C hr hlk d_K_keepPlace_14 (by repeat (first | rfl | (rw [if_pos (by omega)]) | (rw [if_neg (by omega)])))
  · have c1 := bP_1 c1
    refine j_aload_n (q := 8) C 0 rfl d_K_keepPlace_7 rfl ?_
    refine j_get (q := 11) C i_K rfl 0 rfl 4 (by decide) rfl rfl fl_K_25 d_K_keepPlace_8 rfl ?_
    refine j_iload_n (q := 12) C 1 rfl d_K_keepPlace_11 rfl ?_
    refine j_iload_n (q := 13) C 2 rfl d_K_keepPlace_12 rfl ?_
    refine j_iast (q := 14) C 5 0 rfl rfl (by decide) (by omega) (wK kI kZ x KS KB KE KZ (uI KV a.toNat v) kn kw) rfl d_K_keepPlace_13 rfl ?_
    exact j_vret C hr hlk d_K_keepPlace_14 (by repeat (first | rfl | (rw [if_pos (by omega)]) | (rw [if_neg (by omega)])))
set_option maxRecDepth 100000 in
set_option maxHeartbeats 4000000 in
theorem c_K_keptPlace {l : Launch} {D : va_G} (kI kZ : ClassId) (x : Nat → Nat) (KS KB KE KZ KV : Nat → Int) (kn kw : Int) (hK : IK KS KB KE KZ KV kn kw) (a : Int) (ha : (-2147483648 ≤ a ∧ a < 2147483648)) : Dt l D (ty2 kI kZ) y_K_keptPlace w_K_keptPlace { frames := 1, cells := 0, slots := 0, locals := 20 } [.ref (x 5), .int (iI (a))] (wK kI kZ x KS KB KE KZ KV kn kw) (some (.int (iI (kpAt KV a)))) (wK kI kZ x KS KB KE KZ KV kn kw) := by
  refine Met.toJ (own := R_K) (QD D (some (.int (iI (kpAt KV a)))) (wK kI kZ x KS KB KE KZ KV kn kw)) mk_K_keptPlace rfl (Nat.le_of_ble_eq_true rfl) ?_
  intro p e s m args below meth c A C hr hlk hnm
  show JJ p l e { frames := 1, cells := 0, slots := 0, locals := 20 } s m args below meth c D A 2 (MQ below (QD D (some (.int (iI (kpAt KV a)))) (wK kI kZ x KS KB KE KZ KV kn kw) A) args s 0 0 A) 0 0 0 [(0, .ref (x 5)), (1, .int (iI (a)))] [] (wK kI kZ x KS KB KE KZ KV kn kw)
  obtain ⟨hkn, hkw, hKS, hKB, hKE, hKZ, hKV⟩ := id hK
  refine j_iload_n (q := 1) C 1 rfl d_K_keptPlace_0 rfl ?_
  have e1 := bP_r a
  refine j_callN (q := 4) (wr := wK kI kZ x KS KB KE KZ KV kn kw) C [.int (iI (a))] [] (c_C_isNumber kI kZ x a (by omega)) nl_K_41 mk_C_isNumber st_C_isNumber [] [0, 1, 2, 3, 4, 5] [0, 1, 2, 3, 4, 5] rfl (by decide) rfl (by decide) (by decide) (wK kI kZ x KS KB KE KZ KV kn kw) rfl (by decide) rfl rfl rfl (Nat.le_of_ble_eq_true rfl) ⟨Nat.le_of_ble_eq_true rfl, Nat.le_of_ble_eq_true rfl⟩ ⟨Nat.le_of_ble_eq_true rfl, Nat.le_of_ble_eq_true rfl⟩ d_K_keptPlace_1 rfl ?_
  refine j_if_eq C 16 7 d_K_keptPlace_4 rfl rfl (by omega) (fun c1 => ?_) (fun c1 => ?_)
  · have c1 := bP_0 c1
    refine j_iconst (q := 17) C d_K_keptPlace_16 rfl ?_
    exact j_iret C hr hlk d_K_keptPlace_17 (congrArg (fun z => some (Value.int (iI z))) (show (kpAt KV a) = (-1) from by unfold kpAt; split <;> first | rfl | omega)) rfl
  · have c1 := bP_1 c1
    refine j_aload_n (q := 8) C 0 rfl d_K_keptPlace_7 rfl ?_
    refine j_get (q := 11) C i_K rfl 0 rfl 4 (by decide) rfl rfl fl_K_25 d_K_keptPlace_8 rfl ?_
    refine j_iload_n (q := 12) C 1 rfl d_K_keptPlace_11 rfl ?_
    refine j_iald (q := 13) C 5 0 rfl rfl (by decide) (by omega) d_K_keptPlace_12 rfl ?_
    have h12 := hKV a.toNat
    refine j_goto C 17 d_K_keptPlace_13 rfl ?_
    exact j_iret C hr hlk d_K_keptPlace_17 (congrArg (fun z => some (Value.int (iI z))) (show (kpAt KV a) = (KV a.toNat) from by unfold kpAt; split <;> first | rfl | omega)) rfl
def kwG (KS : Nat → Int) (kn kw : Int) : Int := if sgAt KS kn (kn - 1) = -1 ∧ kw < 30 then kw + 1 else kw
def kbG (KS KB : Nat → Int) (kn kw : Int) : Nat → Int := if sgAt KS kn (kn - 1) = -1 ∧ kw < 30 then uI KB kw.toNat kn else KB
def keH (KS KE : Nat → Int) (kn kw : Int) : Nat → Int := if sgAt KS kn (kn - 1) = -1 ∧ kw < 30 then uI KE kw.toNat 0 else KE
def keG (KS KE : Nat → Int) (kn kw : Int) : Nat → Int := if 0 < kwG KS kn kw then uI (keH KS KE kn kw) (kwG KS kn kw - 1).toNat (keH KS KE kn kw (kwG KS kn kw - 1).toNat + 1) else keH KS KE kn kw

set_option maxRecDepth 100000 in
set_option maxHeartbeats 4000000 in
theorem c_K_growCodeword {l : Launch} {D : va_G} (kI kZ : ClassId) (x : Nat → Nat) (KS KB KE KZ KV : Nat → Int) (kn kw : Int) (hK : IK KS KB KE KZ KV kn kw) : Dt l D (ty2 kI kZ) y_K_growCodeword w_K_growCodeword { frames := 1, cells := 0, slots := 0, locals := 21 } [.ref (x 5)] (wK kI kZ x KS KB KE KZ KV kn kw) none (wK kI kZ x KS (kbG KS KB kn kw) (keG KS KE kn kw) KZ KV kn (kwG KS kn kw)) := by
  refine Met.toJ (own := R_K) (QD D none (wK kI kZ x KS (kbG KS KB kn kw) (keG KS KE kn kw) KZ KV kn (kwG KS kn kw))) mk_K_growCodeword rfl (Nat.le_of_ble_eq_true rfl) ?_
  intro p e s m args below meth c A C hr hlk hnm
  show JJ p l e { frames := 1, cells := 0, slots := 0, locals := 21 } s m args below meth c D A 2 (MQ below (QD D none (wK kI kZ x KS (kbG KS KB kn kw) (keG KS KE kn kw) KZ KV kn (kwG KS kn kw)) A) args s 0 0 A) 0 0 0 [(0, .ref (x 5))] [] (wK kI kZ x KS KB KE KZ KV kn kw)
  obtain ⟨hkn, hkw, hKS, hKB, hKE, hKZ, hKV⟩ := id hK
  refine j_aload_n (q := 1) C 0 rfl d_K_growCodeword_0 rfl ?_
  refine j_aload_n (q := 2) C 0 rfl d_K_growCodeword_1 rfl ?_
  refine j_get (q := 5) C i_K rfl 0 rfl 5 (by decide) rfl rfl fl_K_28 d_K_growCodeword_2 rfl ?_
  refine j_iconst (q := 6) C d_K_growCodeword_5 rfl ?_
  refine j_isub (q := 7) C d_K_growCodeword_6 rfl ?_
  have e7 := sgAt_r hKS kn (kn - 1)
  refine j_callV (q := 10) (wr := []) C [.int (iI (kn - 1))] [] (c_K_signAt kI kZ x KS KB KE KZ KV kn kw hK (kn - 1) (by omega)) ml_K_52 mk_K_signAt in_K_signAt se_K_signAt rfl rfl rfl [0, 1, 2, 3, 4, 5] [] [0, 1, 2, 3, 4, 5] rfl (by decide) rfl (by decide) (by decide) (wK kI kZ x KS KB KE KZ KV kn kw) rfl (by decide) rfl rfl rfl (Nat.le_of_ble_eq_true rfl) ⟨Nat.le_of_ble_eq_true rfl, Nat.le_of_ble_eq_true rfl⟩ ⟨Nat.le_of_ble_eq_true rfl, Nat.le_of_ble_eq_true rfl⟩ d_K_growCodeword_7 rfl ?_
  refine j_iconst (q := 11) C d_K_growCodeword_10 rfl ?_
  refine j_icmp_ne C 18 14 d_K_growCodeword_11 rfl rfl (by omega) (by omega) (fun c1 => ?_) (fun c1 => ?_)
  · refine j_iconst (q := 19) C d_K_growCodeword_18 rfl ?_
    refine j_istore_n (q := 20) C [(0, .ref (x 5)), (1, .int (iI (0)))] rfl (by decide) d_K_growCodeword_19 rfl ?_
    refine j_iload_n (q := 21) C 1 rfl d_K_growCodeword_20 rfl ?_
    refine j_if_eq C 66 24 d_K_growCodeword_21 rfl rfl (by omega) (fun c2 => ?_) (fun c2 => ?_)
    · refine j_aload_n (q := 67) C 0 rfl d_K_growCodeword_66 rfl ?_
      refine j_get (q := 70) C i_K rfl 0 rfl 6 (by decide) rfl rfl fl_K_32 d_K_growCodeword_67 rfl ?_
      refine j_if_le C 88 73 d_K_growCodeword_70 rfl rfl (by omega) (fun c3 => ?_) (fun c3 => ?_)
      · first | (exfalso; omega) | exact j_vret C hr hlk d_K_growCodeword_88 (by have k1 : kwG KS kn kw = kw := (by unfold kwG; split <;> omega); have k2 : kbG KS KB kn kw = KB := (by unfold kbG; first | rw [if_pos (by omega)] | rw [if_neg (by omega)]); have k3 : keH KS KE kn kw = KE := (by unfold keH; first | rw [if_pos (by omega)] | rw [if_neg (by omega)]); unfold keG; rw [k1, k2, k3]; first | rw [if_pos (by omega)] | rw [if_neg (by omega)])
      · refine j_aload_n (q := 74) C 0 rfl d_K_growCodeword_73 rfl ?_
        refine j_get (q := 77) C i_K rfl 0 rfl 2 (by decide) rfl rfl fl_K_18 d_K_growCodeword_74 rfl ?_
        refine j_aload_n (q := 78) C 0 rfl d_K_growCodeword_77 rfl ?_
        refine j_get (q := 81) C i_K rfl 0 rfl 6 (by decide) rfl rfl fl_K_32 d_K_growCodeword_78 rfl ?_
        refine j_iconst (q := 82) C d_K_growCodeword_81 rfl ?_
        refine j_isub (q := 83) C d_K_growCodeword_82 rfl ?_
        refine j_dup2 (q := 84) C rfl rfl d_K_growCodeword_83 rfl ?_
        refine j_iald (q := 85) C 3 0 rfl rfl (by decide) (by omega) d_K_growCodeword_84 rfl ?_
        have h84 := hKE (kw - 1).toNat
        refine j_iconst (q := 86) C d_K_growCodeword_85 rfl ?_
        refine j_iadd (q := 87) C d_K_growCodeword_86 rfl ?_
        refine j_iast (q := 88) C 3 0 rfl rfl (by decide) (by omega) (wK kI kZ x KS KB (uI KE (kw - 1).toNat ((KE (kw - 1).toNat) + 1)) KZ KV kn kw) rfl d_K_growCodeword_87 rfl ?_
        first | (exfalso; omega) | exact j_vret C hr hlk d_K_growCodeword_88 (by have k1 : kwG KS kn kw = kw := (by unfold kwG; split <;> omega); have k2 : kbG KS KB kn kw = KB := (by unfold kbG; first | rw [if_pos (by omega)] | rw [if_neg (by omega)]); have k3 : keH KS KE kn kw = KE := (by unfold keH; first | rw [if_pos (by omega)] | rw [if_neg (by omega)]); unfold keG; rw [k1, k2, k3]; first | rw [if_pos (by omega)] | rw [if_neg (by omega)])
    · exfalso; omega
  · refine j_iconst (q := 15) C d_K_growCodeword_14 rfl ?_
    refine j_goto C 19 d_K_growCodeword_15 rfl ?_
    refine j_istore_n (q := 20) C [(0, .ref (x 5)), (1, .int (iI (1)))] rfl (by decide) d_K_growCodeword_19 rfl ?_
    refine j_iload_n (q := 21) C 1 rfl d_K_growCodeword_20 rfl ?_
    refine j_if_eq C 66 24 d_K_growCodeword_21 rfl rfl (by omega) (fun c4 => ?_) (fun c4 => ?_)
    · exfalso; omega
    · refine j_aload_n (q := 25) C 0 rfl d_K_growCodeword_24 rfl ?_
      refine j_get (q := 28) C i_K rfl 0 rfl 6 (by decide) rfl rfl fl_K_32 d_K_growCodeword_25 rfl ?_
      refine j_bipush (q := 30) C d_K_growCodeword_28 rfl rfl ?_
      refine j_icmp_ge C 66 33 d_K_growCodeword_30 rfl rfl (by omega) (by omega) (fun c5 => ?_) (fun c5 => ?_)
      · refine j_aload_n (q := 67) C 0 rfl d_K_growCodeword_66 rfl ?_
        refine j_get (q := 70) C i_K rfl 0 rfl 6 (by decide) rfl rfl fl_K_32 d_K_growCodeword_67 rfl ?_
        refine j_if_le C 88 73 d_K_growCodeword_70 rfl rfl (by omega) (fun c6 => ?_) (fun c6 => ?_)
        · first | (exfalso; omega) | exact j_vret C hr hlk d_K_growCodeword_88 (by have k1 : kwG KS kn kw = kw := (by unfold kwG; split <;> omega); have k2 : kbG KS KB kn kw = KB := (by unfold kbG; first | rw [if_pos (by omega)] | rw [if_neg (by omega)]); have k3 : keH KS KE kn kw = KE := (by unfold keH; first | rw [if_pos (by omega)] | rw [if_neg (by omega)]); unfold keG; rw [k1, k2, k3]; first | rw [if_pos (by omega)] | rw [if_neg (by omega)])
        · refine j_aload_n (q := 74) C 0 rfl d_K_growCodeword_73 rfl ?_
          refine j_get (q := 77) C i_K rfl 0 rfl 2 (by decide) rfl rfl fl_K_18 d_K_growCodeword_74 rfl ?_
          refine j_aload_n (q := 78) C 0 rfl d_K_growCodeword_77 rfl ?_
          refine j_get (q := 81) C i_K rfl 0 rfl 6 (by decide) rfl rfl fl_K_32 d_K_growCodeword_78 rfl ?_
          refine j_iconst (q := 82) C d_K_growCodeword_81 rfl ?_
          refine j_isub (q := 83) C d_K_growCodeword_82 rfl ?_
          refine j_dup2 (q := 84) C rfl rfl d_K_growCodeword_83 rfl ?_
          refine j_iald (q := 85) C 3 0 rfl rfl (by decide) (by omega) d_K_growCodeword_84 rfl ?_
          have h84 := hKE (kw - 1).toNat
          refine j_iconst (q := 86) C d_K_growCodeword_85 rfl ?_
          refine j_iadd (q := 87) C d_K_growCodeword_86 rfl ?_
          refine j_iast (q := 88) C 3 0 rfl rfl (by decide) (by omega) (wK kI kZ x KS KB (uI KE (kw - 1).toNat ((KE (kw - 1).toNat) + 1)) KZ KV kn kw) rfl d_K_growCodeword_87 rfl ?_
          first | (exfalso; omega) | exact j_vret C hr hlk d_K_growCodeword_88 (by have k1 : kwG KS kn kw = kw := (by unfold kwG; split <;> omega); have k2 : kbG KS KB kn kw = KB := (by unfold kbG; first | rw [if_pos (by omega)] | rw [if_neg (by omega)]); have k3 : keH KS KE kn kw = KE := (by unfold keH; first | rw [if_pos (by omega)] | rw [if_neg (by omega)]); unfold keG; rw [k1, k2, k3]; first | rw [if_pos (by omega)] | rw [if_neg (by omega)])
      · refine j_aload_n (q := 34) C 0 rfl d_K_growCodeword_33 rfl ?_
        refine j_get (q := 37) C i_K rfl 0 rfl 1 (by decide) rfl rfl fl_K_15 d_K_growCodeword_34 rfl ?_
        refine j_aload_n (q := 38) C 0 rfl d_K_growCodeword_37 rfl ?_
        refine j_get (q := 41) C i_K rfl 0 rfl 6 (by decide) rfl rfl fl_K_32 d_K_growCodeword_38 rfl ?_
        refine j_aload_n (q := 42) C 0 rfl d_K_growCodeword_41 rfl ?_
        refine j_get (q := 45) C i_K rfl 0 rfl 5 (by decide) rfl rfl fl_K_28 d_K_growCodeword_42 rfl ?_
        refine j_iast (q := 46) C 2 0 rfl rfl (by decide) (by omega) (wK kI kZ x KS (uI KB kw.toNat kn) KE KZ KV kn kw) rfl d_K_growCodeword_45 rfl ?_
        refine j_aload_n (q := 47) C 0 rfl d_K_growCodeword_46 rfl ?_
        refine j_get (q := 50) C i_K rfl 0 rfl 2 (by decide) rfl rfl fl_K_18 d_K_growCodeword_47 rfl ?_
        refine j_aload_n (q := 51) C 0 rfl d_K_growCodeword_50 rfl ?_
        refine j_get (q := 54) C i_K rfl 0 rfl 6 (by decide) rfl rfl fl_K_32 d_K_growCodeword_51 rfl ?_
        refine j_iconst (q := 55) C d_K_growCodeword_54 rfl ?_
        refine j_iast (q := 56) C 3 0 rfl rfl (by decide) (by omega) (wK kI kZ x KS (uI KB kw.toNat kn) (uI KE kw.toNat 0) KZ KV kn kw) rfl d_K_growCodeword_55 rfl ?_
        refine j_aload_n (q := 57) C 0 rfl d_K_growCodeword_56 rfl ?_
        refine j_dup (q := 58) C rfl d_K_growCodeword_57 rfl ?_
        refine j_get (q := 61) C i_K rfl 0 rfl 6 (by decide) rfl rfl fl_K_32 d_K_growCodeword_58 rfl ?_
        refine j_iconst (q := 62) C d_K_growCodeword_61 rfl ?_
        refine j_iadd (q := 63) C d_K_growCodeword_62 rfl ?_
        refine j_put (q := 66) (ty := .int) C i_K rfl t_K t_K_ok n_K 0 rfl 6 (by decide) rfl fl_K_32 rfl (by decide +kernel) rfl rfl (Nat.le_of_ble_eq_true rfl) (wK kI kZ x KS (uI KB kw.toNat kn) (uI KE kw.toNat 0) KZ KV kn (kw + 1)) rfl d_K_growCodeword_63 rfl ?_
        refine j_aload_n (q := 67) C 0 rfl d_K_growCodeword_66 rfl ?_
        refine j_get (q := 70) C i_K rfl 0 rfl 6 (by decide) rfl rfl fl_K_32 d_K_growCodeword_67 rfl ?_
        refine j_if_le C 88 73 d_K_growCodeword_70 rfl rfl (by omega) (fun c7 => ?_) (fun c7 => ?_)
        · first | (exfalso; omega) | exact j_vret C hr hlk d_K_growCodeword_88 (by have k1 : kwG KS kn kw = kw + 1 := (by unfold kwG; split <;> omega); have k2 : kbG KS KB kn kw = uI KB kw.toNat kn := (by unfold kbG; first | rw [if_pos (by omega)] | rw [if_neg (by omega)]); have k3 : keH KS KE kn kw = uI KE kw.toNat 0 := (by unfold keH; first | rw [if_pos (by omega)] | rw [if_neg (by omega)]); unfold keG; rw [k1, k2, k3]; first | rw [if_pos (by omega)] | rw [if_neg (by omega)])
        · refine j_aload_n (q := 74) C 0 rfl d_K_growCodeword_73 rfl ?_
          refine j_get (q := 77) C i_K rfl 0 rfl 2 (by decide) rfl rfl fl_K_18 d_K_growCodeword_74 rfl ?_
          refine j_aload_n (q := 78) C 0 rfl d_K_growCodeword_77 rfl ?_
          refine j_get (q := 81) C i_K rfl 0 rfl 6 (by decide) rfl rfl fl_K_32 d_K_growCodeword_78 rfl ?_
          refine j_iconst (q := 82) C d_K_growCodeword_81 rfl ?_
          refine j_isub (q := 83) C d_K_growCodeword_82 rfl ?_
          refine j_dup2 (q := 84) C rfl rfl d_K_growCodeword_83 rfl ?_
          refine j_iald (q := 85) C 3 0 rfl rfl (by decide) (by omega) d_K_growCodeword_84 rfl ?_
          have h84 := hKE ((kw + 1) - 1).toNat
          refine j_iconst (q := 86) C d_K_growCodeword_85 rfl ?_
          refine j_iadd (q := 87) C d_K_growCodeword_86 rfl ?_
          refine j_iast (q := 88) C 3 0 rfl rfl (by decide) (by omega) (wK kI kZ x KS (uI KB kw.toNat kn) (uI (uI KE kw.toNat 0) ((kw + 1) - 1).toNat (((uI KE kw.toNat 0) ((kw + 1) - 1).toNat) + 1)) KZ KV kn (kw + 1)) rfl d_K_growCodeword_87 rfl ?_
          first | (exfalso; omega) | exact j_vret C hr hlk d_K_growCodeword_88 (by have k1 : kwG KS kn kw = kw + 1 := (by unfold kwG; split <;> omega); have k2 : kbG KS KB kn kw = uI KB kw.toNat kn := (by unfold kbG; first | rw [if_pos (by omega)] | rw [if_neg (by omega)]); have k3 : keH KS KE kn kw = uI KE kw.toNat 0 := (by unfold keH; first | rw [if_pos (by omega)] | rw [if_neg (by omega)]); unfold keG; rw [k1, k2, k3]; first | rw [if_pos (by omega)] | rw [if_neg (by omega)])
set_option maxRecDepth 100000 in
set_option maxHeartbeats 4000000 in
theorem c_K_append {l : Launch} {D : va_G} (kI kZ : ClassId) (x : Nat → Nat) (KS KB KE KZ KV : Nat → Int) (kn kw : Int) (hK : IK KS KB KE KZ KV kn kw) (a : Int) (ha : (-2147483648 ≤ a ∧ a < 2147483648)) : Dt l D (ty2 kI kZ) y_K_append w_K_append { frames := 2, cells := 0, slots := 0, locals := 42 } [.ref (x 5), .int (iI (a))] (wK kI kZ x KS KB KE KZ KV kn kw) (some (.int (iI (if kn < 60 ∧ (a = -1 ∨ (0 ≤ a ∧ a < 26)) then 1 else 0)))) (wK kI kZ x (if kn < 60 ∧ (a = -1 ∨ (0 ≤ a ∧ a < 26)) then uI KS kn.toNat a else KS) (if kn < 60 ∧ (0 ≤ a ∧ a < 26) then kbG KS KB kn kw else KB) (if kn < 60 ∧ (0 ≤ a ∧ a < 26) then keG KS KE kn kw else KE) (if kn < 60 ∧ (0 ≤ a ∧ a < 26) then uI KZ a.toNat 1 else KZ) KV (if kn < 60 ∧ (a = -1 ∨ (0 ≤ a ∧ a < 26)) then kn + 1 else kn) (if kn < 60 ∧ (0 ≤ a ∧ a < 26) then kwG KS kn kw else kw)) := by
  refine Met.toJ (own := R_K) (QD D (some (.int (iI (if kn < 60 ∧ (a = -1 ∨ (0 ≤ a ∧ a < 26)) then 1 else 0)))) (wK kI kZ x (if kn < 60 ∧ (a = -1 ∨ (0 ≤ a ∧ a < 26)) then uI KS kn.toNat a else KS) (if kn < 60 ∧ (0 ≤ a ∧ a < 26) then kbG KS KB kn kw else KB) (if kn < 60 ∧ (0 ≤ a ∧ a < 26) then keG KS KE kn kw else KE) (if kn < 60 ∧ (0 ≤ a ∧ a < 26) then uI KZ a.toNat 1 else KZ) KV (if kn < 60 ∧ (a = -1 ∨ (0 ≤ a ∧ a < 26)) then kn + 1 else kn) (if kn < 60 ∧ (0 ≤ a ∧ a < 26) then kwG KS kn kw else kw))) mk_K_append rfl (Nat.le_of_ble_eq_true rfl) ?_
  intro p e s m args below meth c A C hr hlk hnm
  show JJ p l e { frames := 2, cells := 0, slots := 0, locals := 42 } s m args below meth c D A 2 (MQ below (QD D (some (.int (iI (if kn < 60 ∧ (a = -1 ∨ (0 ≤ a ∧ a < 26)) then 1 else 0)))) (wK kI kZ x (if kn < 60 ∧ (a = -1 ∨ (0 ≤ a ∧ a < 26)) then uI KS kn.toNat a else KS) (if kn < 60 ∧ (0 ≤ a ∧ a < 26) then kbG KS KB kn kw else KB) (if kn < 60 ∧ (0 ≤ a ∧ a < 26) then keG KS KE kn kw else KE) (if kn < 60 ∧ (0 ≤ a ∧ a < 26) then uI KZ a.toNat 1 else KZ) KV (if kn < 60 ∧ (a = -1 ∨ (0 ≤ a ∧ a < 26)) then kn + 1 else kn) (if kn < 60 ∧ (0 ≤ a ∧ a < 26) then kwG KS kn kw else kw)) A) args s 0 0 A) 0 0 0 [(0, .ref (x 5)), (1, .int (iI (a)))] [] (wK kI kZ x KS KB KE KZ KV kn kw)
  obtain ⟨hkn, hkw, hKS, hKB, hKE, hKZ, hKV⟩ := id hK
  refine j_aload_n (q := 1) C 0 rfl d_K_append_0 rfl ?_
  refine j_get (q := 4) C i_K rfl 0 rfl 5 (by decide) rfl rfl fl_K_28 d_K_append_1 rfl ?_
  refine j_bipush (q := 6) C d_K_append_4 rfl rfl ?_
  refine j_icmp_ge C 21 9 d_K_append_6 rfl rfl (by omega) (by omega) (fun c1 => ?_) (fun c1 => ?_)
  · refine j_iconst (q := 22) C d_K_append_21 rfl ?_
    exact j_zret C hr hlk (by omega) d_K_append_22 (congrArg (fun z => some (Value.int (iI z))) (show (if kn < 60 ∧ (a = -1 ∨ (0 ≤ a ∧ a < 26)) then 1 else 0) = (0) from by split <;> omega)) (by repeat (first | rfl | (rw [if_pos (by omega)]) | (rw [if_neg (by omega)])))
  · refine j_iload_n (q := 10) C 1 rfl d_K_append_9 rfl ?_
    refine j_iconst (q := 11) C d_K_append_10 rfl ?_
    refine j_icmp_eq C 23 14 d_K_append_11 rfl rfl (by omega) (by omega) (fun c2 => ?_) (fun c2 => ?_)
    · refine j_iload_n (q := 24) C 1 rfl d_K_append_23 rfl ?_
      refine j_iconst (q := 25) C d_K_append_24 rfl ?_
      refine j_icmp_eq C 39 28 d_K_append_25 rfl rfl (by omega) (by omega) (fun c3 => ?_) (fun c3 => ?_)
      · refine j_aload_n (q := 40) C 0 rfl d_K_append_39 rfl ?_
        refine j_get (q := 43) C i_K rfl 0 rfl 0 (by decide) rfl rfl fl_K_9 d_K_append_40 rfl ?_
        refine j_aload_n (q := 44) C 0 rfl d_K_append_43 rfl ?_
        refine j_get (q := 47) C i_K rfl 0 rfl 5 (by decide) rfl rfl fl_K_28 d_K_append_44 rfl ?_
        refine j_iload_n (q := 48) C 1 rfl d_K_append_47 rfl ?_
        refine j_iast (q := 49) C 1 0 rfl rfl (by decide) (by omega) (wK kI kZ x (uI KS kn.toNat a) KB KE KZ KV kn kw) rfl d_K_append_48 rfl ?_
        refine j_aload_n (q := 50) C 0 rfl d_K_append_49 rfl ?_
        refine j_dup (q := 51) C rfl d_K_append_50 rfl ?_
        refine j_get (q := 54) C i_K rfl 0 rfl 5 (by decide) rfl rfl fl_K_28 d_K_append_51 rfl ?_
        refine j_iconst (q := 55) C d_K_append_54 rfl ?_
        refine j_iadd (q := 56) C d_K_append_55 rfl ?_
        refine j_put (q := 59) (ty := .int) C i_K rfl t_K t_K_ok n_K 0 rfl 5 (by decide) rfl fl_K_28 rfl (by decide +kernel) rfl rfl (Nat.le_of_ble_eq_true rfl) (wK kI kZ x (uI KS kn.toNat a) KB KE KZ KV (kn + 1) kw) rfl d_K_append_56 rfl ?_
        refine j_iconst (q := 60) C d_K_append_59 rfl ?_
        first | (exfalso; omega) | exact j_zret C hr hlk (by omega) d_K_append_60 (congrArg (fun z => some (Value.int (iI z))) (show (if kn < 60 ∧ (a = -1 ∨ (0 ≤ a ∧ a < 26)) then 1 else 0) = (1) from by split <;> omega)) (by repeat (first | rfl | (rw [if_pos (by omega)]) | (rw [if_neg (by omega)])))
      · refine j_aload_n (q := 29) C 0 rfl d_K_append_28 rfl ?_
        refine j_get (q := 32) C i_K rfl 0 rfl 3 (by decide) rfl rfl fl_K_21 d_K_append_29 rfl ?_
        refine j_iload_n (q := 33) C 1 rfl d_K_append_32 rfl ?_
        refine j_iconst (q := 34) C d_K_append_33 rfl ?_
        refine j_zast (q := 35) C 4 1 rfl rfl (by decide) (by omega) (by omega) (wK kI kZ x KS KB KE (uI KZ a.toNat 1) KV kn kw) rfl d_K_append_34 rfl ?_
        refine j_aload_n (q := 36) C 0 rfl d_K_append_35 rfl ?_
        refine j_callV (q := 39) (wr := []) C [] [] (c_K_growCodeword kI kZ x KS KB KE (uI KZ a.toNat 1) KV kn kw ⟨hkn, hkw, hKS, hKB, hKE, fun j => (by unfold uI; split; omega; exact hKZ j), hKV⟩) ml_K_45 mk_K_growCodeword in_K_growCodeword se_K_growCodeword rfl rfl rfl [0, 1, 2, 3, 4, 5] [] [0, 1, 2, 3, 4, 5] rfl (by decide) rfl (by decide) (by decide) (wK kI kZ x KS (kbG KS KB kn kw) (keG KS KE kn kw) (uI KZ a.toNat 1) KV kn (kwG KS kn kw)) rfl (by decide) rfl rfl rfl (Nat.le_of_ble_eq_true rfl) ⟨Nat.le_of_ble_eq_true rfl, Nat.le_of_ble_eq_true rfl⟩ ⟨Nat.le_of_ble_eq_true rfl, Nat.le_of_ble_eq_true rfl⟩ d_K_append_36 rfl ?_
        refine j_aload_n (q := 40) C 0 rfl d_K_append_39 rfl ?_
        refine j_get (q := 43) C i_K rfl 0 rfl 0 (by decide) rfl rfl fl_K_9 d_K_append_40 rfl ?_
        refine j_aload_n (q := 44) C 0 rfl d_K_append_43 rfl ?_
        refine j_get (q := 47) C i_K rfl 0 rfl 5 (by decide) rfl rfl fl_K_28 d_K_append_44 rfl ?_
        refine j_iload_n (q := 48) C 1 rfl d_K_append_47 rfl ?_
        refine j_iast (q := 49) C 1 0 rfl rfl (by decide) (by omega) (wK kI kZ x (uI KS kn.toNat a) (kbG KS KB kn kw) (keG KS KE kn kw) (uI KZ a.toNat 1) KV kn (kwG KS kn kw)) rfl d_K_append_48 rfl ?_
        refine j_aload_n (q := 50) C 0 rfl d_K_append_49 rfl ?_
        refine j_dup (q := 51) C rfl d_K_append_50 rfl ?_
        refine j_get (q := 54) C i_K rfl 0 rfl 5 (by decide) rfl rfl fl_K_28 d_K_append_51 rfl ?_
        refine j_iconst (q := 55) C d_K_append_54 rfl ?_
        refine j_iadd (q := 56) C d_K_append_55 rfl ?_
        refine j_put (q := 59) (ty := .int) C i_K rfl t_K t_K_ok n_K 0 rfl 5 (by decide) rfl fl_K_28 rfl (by decide +kernel) rfl rfl (Nat.le_of_ble_eq_true rfl) (wK kI kZ x (uI KS kn.toNat a) (kbG KS KB kn kw) (keG KS KE kn kw) (uI KZ a.toNat 1) KV (kn + 1) (kwG KS kn kw)) rfl d_K_append_56 rfl ?_
        refine j_iconst (q := 60) C d_K_append_59 rfl ?_
        first | (exfalso; omega) | exact j_zret C hr hlk (by omega) d_K_append_60 (congrArg (fun z => some (Value.int (iI z))) (show (if kn < 60 ∧ (a = -1 ∨ (0 ≤ a ∧ a < 26)) then 1 else 0) = (1) from by split <;> omega)) (by repeat (first | rfl | (rw [if_pos (by omega)]) | (rw [if_neg (by omega)])))
    · refine j_iload_n (q := 15) C 1 rfl d_K_append_14 rfl ?_
      have e15 := bP_r a
      refine j_callN (q := 18) (wr := wK kI kZ x KS KB KE KZ KV kn kw) C [.int (iI (a))] [] (c_C_isNumber kI kZ x a (by omega)) nl_K_41 mk_C_isNumber st_C_isNumber [] [0, 1, 2, 3, 4, 5] [0, 1, 2, 3, 4, 5] rfl (by decide) rfl (by decide) (by decide) (wK kI kZ x KS KB KE KZ KV kn kw) rfl (by decide) rfl rfl rfl (Nat.le_of_ble_eq_true rfl) ⟨Nat.le_of_ble_eq_true rfl, Nat.le_of_ble_eq_true rfl⟩ ⟨Nat.le_of_ble_eq_true rfl, Nat.le_of_ble_eq_true rfl⟩ d_K_append_15 rfl ?_
      refine j_if_ne C 23 21 d_K_append_18 rfl rfl (by omega) (fun c4 => ?_) (fun c4 => ?_)
      · have c4 := bP_1 c4
        refine j_iload_n (q := 24) C 1 rfl d_K_append_23 rfl ?_
        refine j_iconst (q := 25) C d_K_append_24 rfl ?_
        refine j_icmp_eq C 39 28 d_K_append_25 rfl rfl (by omega) (by omega) (fun c5 => ?_) (fun c5 => ?_)
        · refine j_aload_n (q := 40) C 0 rfl d_K_append_39 rfl ?_
          refine j_get (q := 43) C i_K rfl 0 rfl 0 (by decide) rfl rfl fl_K_9 d_K_append_40 rfl ?_
          refine j_aload_n (q := 44) C 0 rfl d_K_append_43 rfl ?_
          refine j_get (q := 47) C i_K rfl 0 rfl 5 (by decide) rfl rfl fl_K_28 d_K_append_44 rfl ?_
          refine j_iload_n (q := 48) C 1 rfl d_K_append_47 rfl ?_
          refine j_iast (q := 49) C 1 0 rfl rfl (by decide) (by omega) (wK kI kZ x (uI KS kn.toNat a) KB KE KZ KV kn kw) rfl d_K_append_48 rfl ?_
          refine j_aload_n (q := 50) C 0 rfl d_K_append_49 rfl ?_
          refine j_dup (q := 51) C rfl d_K_append_50 rfl ?_
          refine j_get (q := 54) C i_K rfl 0 rfl 5 (by decide) rfl rfl fl_K_28 d_K_append_51 rfl ?_
          refine j_iconst (q := 55) C d_K_append_54 rfl ?_
          refine j_iadd (q := 56) C d_K_append_55 rfl ?_
          refine j_put (q := 59) (ty := .int) C i_K rfl t_K t_K_ok n_K 0 rfl 5 (by decide) rfl fl_K_28 rfl (by decide +kernel) rfl rfl (Nat.le_of_ble_eq_true rfl) (wK kI kZ x (uI KS kn.toNat a) KB KE KZ KV (kn + 1) kw) rfl d_K_append_56 rfl ?_
          refine j_iconst (q := 60) C d_K_append_59 rfl ?_
          first | (exfalso; omega) | exact j_zret C hr hlk (by omega) d_K_append_60 (congrArg (fun z => some (Value.int (iI z))) (show (if kn < 60 ∧ (a = -1 ∨ (0 ≤ a ∧ a < 26)) then 1 else 0) = (1) from by split <;> omega)) (by repeat (first | rfl | (rw [if_pos (by omega)]) | (rw [if_neg (by omega)])))
        · refine j_aload_n (q := 29) C 0 rfl d_K_append_28 rfl ?_
          refine j_get (q := 32) C i_K rfl 0 rfl 3 (by decide) rfl rfl fl_K_21 d_K_append_29 rfl ?_
          refine j_iload_n (q := 33) C 1 rfl d_K_append_32 rfl ?_
          refine j_iconst (q := 34) C d_K_append_33 rfl ?_
          refine j_zast (q := 35) C 4 1 rfl rfl (by decide) (by omega) (by omega) (wK kI kZ x KS KB KE (uI KZ a.toNat 1) KV kn kw) rfl d_K_append_34 rfl ?_
          refine j_aload_n (q := 36) C 0 rfl d_K_append_35 rfl ?_
          refine j_callV (q := 39) (wr := []) C [] [] (c_K_growCodeword kI kZ x KS KB KE (uI KZ a.toNat 1) KV kn kw ⟨hkn, hkw, hKS, hKB, hKE, fun j => (by unfold uI; split; omega; exact hKZ j), hKV⟩) ml_K_45 mk_K_growCodeword in_K_growCodeword se_K_growCodeword rfl rfl rfl [0, 1, 2, 3, 4, 5] [] [0, 1, 2, 3, 4, 5] rfl (by decide) rfl (by decide) (by decide) (wK kI kZ x KS (kbG KS KB kn kw) (keG KS KE kn kw) (uI KZ a.toNat 1) KV kn (kwG KS kn kw)) rfl (by decide) rfl rfl rfl (Nat.le_of_ble_eq_true rfl) ⟨Nat.le_of_ble_eq_true rfl, Nat.le_of_ble_eq_true rfl⟩ ⟨Nat.le_of_ble_eq_true rfl, Nat.le_of_ble_eq_true rfl⟩ d_K_append_36 rfl ?_
          refine j_aload_n (q := 40) C 0 rfl d_K_append_39 rfl ?_
          refine j_get (q := 43) C i_K rfl 0 rfl 0 (by decide) rfl rfl fl_K_9 d_K_append_40 rfl ?_
          refine j_aload_n (q := 44) C 0 rfl d_K_append_43 rfl ?_
          refine j_get (q := 47) C i_K rfl 0 rfl 5 (by decide) rfl rfl fl_K_28 d_K_append_44 rfl ?_
          refine j_iload_n (q := 48) C 1 rfl d_K_append_47 rfl ?_
          refine j_iast (q := 49) C 1 0 rfl rfl (by decide) (by omega) (wK kI kZ x (uI KS kn.toNat a) (kbG KS KB kn kw) (keG KS KE kn kw) (uI KZ a.toNat 1) KV kn (kwG KS kn kw)) rfl d_K_append_48 rfl ?_
          refine j_aload_n (q := 50) C 0 rfl d_K_append_49 rfl ?_
          refine j_dup (q := 51) C rfl d_K_append_50 rfl ?_
          refine j_get (q := 54) C i_K rfl 0 rfl 5 (by decide) rfl rfl fl_K_28 d_K_append_51 rfl ?_
          refine j_iconst (q := 55) C d_K_append_54 rfl ?_
          refine j_iadd (q := 56) C d_K_append_55 rfl ?_
          refine j_put (q := 59) (ty := .int) C i_K rfl t_K t_K_ok n_K 0 rfl 5 (by decide) rfl fl_K_28 rfl (by decide +kernel) rfl rfl (Nat.le_of_ble_eq_true rfl) (wK kI kZ x (uI KS kn.toNat a) (kbG KS KB kn kw) (keG KS KE kn kw) (uI KZ a.toNat 1) KV (kn + 1) (kwG KS kn kw)) rfl d_K_append_56 rfl ?_
          refine j_iconst (q := 60) C d_K_append_59 rfl ?_
          first | (exfalso; omega) | exact j_zret C hr hlk (by omega) d_K_append_60 (congrArg (fun z => some (Value.int (iI z))) (show (if kn < 60 ∧ (a = -1 ∨ (0 ≤ a ∧ a < 26)) then 1 else 0) = (1) from by split <;> omega)) (by repeat (first | rfl | (rw [if_pos (by omega)]) | (rw [if_neg (by omega)])))
      · have c4 := bP_0 c4
        refine j_iconst (q := 22) C d_K_append_21 rfl ?_
        first | (exfalso; omega) | exact j_zret C hr hlk (by omega) d_K_append_22 (congrArg (fun z => some (Value.int (iI z))) (show (if kn < 60 ∧ (a = -1 ∨ (0 ≤ a ∧ a < 26)) then 1 else 0) = (0) from by split <;> omega)) (by repeat (first | rfl | (rw [if_pos (by omega)]) | (rw [if_neg (by omega)])))
def zrB (f : Nat → Int) (v : Int) : Nat → Int := fun j => if j < 26 then v else f j

set_option maxRecDepth 100000 in
set_option maxHeartbeats 4000000 in
theorem c_K_empty {l : Launch} {D : va_G} (kI kZ : ClassId) (x : Nat → Nat) (KS KB KE KZ KV : Nat → Int) (kn kw : Int) (hK : IK KS KB KE KZ KV kn kw) : Dt l D (ty2 kI kZ) y_K_empty w_K_empty { frames := 0, cells := 0, slots := 0, locals := 0 } [.ref (x 5)] (wK kI kZ x KS KB KE KZ KV kn kw) none (wK kI kZ x KS KB KE (zrB KZ 0) (zrB KV (-1)) 0 0) := by
  refine Met.toJ (own := R_K) (QD D none (wK kI kZ x KS KB KE (zrB KZ 0) (zrB KV (-1)) 0 0)) mk_K_empty rfl (Nat.le_of_ble_eq_true rfl) ?_
  intro p e s m args below meth c A C hr hlk hnm
  show JJ p l e { frames := 0, cells := 0, slots := 0, locals := 0 } s m args below meth c D A 2 (MQ below (QD D none (wK kI kZ x KS KB KE (zrB KZ 0) (zrB KV (-1)) 0 0) A) args s 0 0 A) 0 0 0 [(0, .ref (x 5))] [] (wK kI kZ x KS KB KE KZ KV kn kw)
  obtain ⟨hkn, hkw, hKS, hKB, hKE, hKZ, hKV⟩ := id hK
  refine j_aload_n (q := 1) C 0 rfl d_K_empty_0 rfl ?_
  refine j_iconst (q := 2) C d_K_empty_1 rfl ?_
  refine j_put (q := 5) (ty := .int) C i_K rfl t_K t_K_ok n_K 0 rfl 5 (by decide) rfl fl_K_28 rfl (by decide +kernel) rfl rfl (Nat.le_of_ble_eq_true rfl) (wK kI kZ x KS KB KE KZ KV 0 kw) rfl d_K_empty_2 rfl ?_
  refine j_aload_n (q := 6) C 0 rfl d_K_empty_5 rfl ?_
  refine j_iconst (q := 7) C d_K_empty_6 rfl ?_
  refine j_put (q := 10) (ty := .int) C i_K rfl t_K t_K_ok n_K 0 rfl 6 (by decide) rfl fl_K_32 rfl (by decide +kernel) rfl rfl (Nat.le_of_ble_eq_true rfl) (wK kI kZ x KS KB KE KZ KV 0 0) rfl d_K_empty_7 rfl ?_
  refine j_iconst (q := 11) C d_K_empty_10 rfl ?_
  refine j_istore_n (q := 12) C [(0, .ref (x 5)), (1, .int (iI (0)))] rfl (by decide) d_K_empty_11 rfl ?_
  have lp12 : ∀ (N : Nat) (i : Int) (Z V : Nat → Int), (0 ≤ i ∧ i ≤ 26) → (∀ j : Nat, Z j = if (j : Int) < i then 0 else KZ j) → (∀ j : Nat, V j = if (j : Int) < i then -1 else KV j) → (26 - i).toNat < N → JJ p l e { frames := 0, cells := 0, slots := 0, locals := 0 } s m args below meth c D A 2 (MQ below (QD D none (wK kI kZ x KS KB KE (zrB KZ 0) (zrB KV (-1)) 0 0) A) args s 0 0 A) 0 0 12 [(0, .ref (x 5)), (1, .int (iI (i)))] [] (wK kI kZ x KS KB KE Z V 0 0) := by
    intro N
    induction N with
    | zero =>
      intro i Z V i0 i1 i2 hN
      omega
    | succ N ih =>
      intro i Z V i0 i1 i2 hN
      refine j_iload_n (q := 13) C 1 rfl d_K_empty_12 rfl ?_
      refine j_bipush (q := 15) C d_K_empty_13 rfl rfl ?_
      refine j_icmp_ge C 38 18 d_K_empty_15 rfl rfl (by omega) (by omega) (fun c1 => ?_) (fun c1 => ?_)
      · exact j_vret C hr hlk d_K_empty_38 (by have z1 : Z = zrB KZ 0 := (by funext j; rw [i1 j]; unfold zrB; split <;> split <;> first | rfl | omega); have z2 : V = zrB KV (-1) := (by funext j; rw [i2 j]; unfold zrB; split <;> split <;> first | rfl | omega); rw [z1, z2])
      · refine j_aload_n (q := 19) C 0 rfl d_K_empty_18 rfl ?_
        refine j_get (q := 22) C i_K rfl 0 rfl 3 (by decide) rfl rfl fl_K_21 d_K_empty_19 rfl ?_
        refine j_iload_n (q := 23) C 1 rfl d_K_empty_22 rfl ?_
        refine j_iconst (q := 24) C d_K_empty_23 rfl ?_
        refine j_zast (q := 25) C 4 1 rfl rfl (by decide) (by omega) (by omega) (wK kI kZ x KS KB KE (uI Z i.toNat 0) V 0 0) rfl d_K_empty_24 rfl ?_
        refine j_aload_n (q := 26) C 0 rfl d_K_empty_25 rfl ?_
        refine j_get (q := 29) C i_K rfl 0 rfl 4 (by decide) rfl rfl fl_K_25 d_K_empty_26 rfl ?_
        refine j_iload_n (q := 30) C 1 rfl d_K_empty_29 rfl ?_
        refine j_iconst (q := 31) C d_K_empty_30 rfl ?_
        refine j_iast (q := 32) C 5 0 rfl rfl (by decide) (by omega) (wK kI kZ x KS KB KE (uI Z i.toNat 0) (uI V i.toNat (-1)) 0 0) rfl d_K_empty_31 rfl ?_
        refine j_iinc (q := 35) C 1 [(0, .ref (x 5)), (1, .int (iI (i + 1)))] rfl rfl (by decide) d_K_empty_32 rfl ?_
        refine j_goto C 12 d_K_empty_35 rfl ?_
        exact ih (i + 1) _ _ (by omega) (fun j => by unfold uI; rw [i1 j]; split <;> split <;> first | rfl | omega) (fun j => by unfold uI; rw [i2 j]; split <;> split <;> first | rfl | omega) (by omega)
  exact lp12 27 0 KZ KV (by omega) (fun j => by rw [if_neg (by omega)]) (fun j => by rw [if_neg (by omega)]) (by omega)
end
section
def IR (RP RS : Nat → Int) (rn : Int) : Prop := (0 ≤ rn ∧ rn ≤ 200) ∧ (∀ j, -1 ≤ RP j ∧ RP j < 26) ∧ ∀ j, 0 ≤ RS j ∧ RS j < 200
def IY (SP : Nat → Int) : Prop := ∀ j, -1 ≤ SP j ∧ SP j < 26
def rdAt (RP RS : Nat → Int) (rn k a : Int) : Int := if (0 ≤ k ∧ k < rn) ∧ (0 ≤ a ∧ a < 26) then RP (RS k.toNat * 26 + a).toNat else -1
theorem rdAt_r {RP RS : Nat → Int} {rn : Int} (h : IR RP RS rn) (k a : Int) : -1 ≤ rdAt RP RS rn k a ∧ rdAt RP RS rn k a < 26 := by
  have := h.2.1 (RS k.toNat * 26 + a).toNat
  unfold rdAt
  split <;> omega
def hsR (rn k : Int) : Int := if 0 ≤ k ∧ k < rn then 1 else 0
theorem hsR_r (rn k : Int) : 0 ≤ hsR rn k ∧ hsR rn k ≤ 1 := by unfold hsR; split <;> omega
theorem hsR_0 {rn k : Int} (h : hsR rn k = 0) : ¬ (0 ≤ k ∧ k < rn) := by unfold hsR at h; split at h <;> omega
theorem hsR_1 {rn k : Int} (h : ¬ hsR rn k = 0) : 0 ≤ k ∧ k < rn := by unfold hsR at h; split at h <;> omega
noncomputable def cmP (RP RS : Nat → Int) (rn a : Int) : Int := ifP (∀ k, 1 ≤ k → k < rn → rdAt RP RS rn k a = rdAt RP RS rn 0 a) (rdAt RP RS rn 0 a) (-1)
theorem cmP_r {RP RS : Nat → Int} {rn : Int} (h : IR RP RS rn) (a : Int) : -1 ≤ cmP RP RS rn a ∧ cmP RP RS rn a < 26 := by
  have := rdAt_r h 0 a
  by_cases c : ∀ k, 1 ≤ k → k < rn → rdAt RP RS rn k a = rdAt RP RS rn 0 a
  · unfold cmP; rw [ifP_t c]; exact this
  · unfold cmP; rw [ifP_f c]; omega
/-- f is ahead of g: the lesser at the least place where they differ -/
def lxB (f g : Int → Int) : Prop := ∃ n, 0 ≤ n ∧ n < 26 ∧ f n < g n ∧ ∀ m, 0 ≤ m → m < n → f m = g m
theorem lx_lt {f g : Int → Int} {i : Int} (h0 : 0 ≤ i ∧ i < 26) (he : ∀ m, 0 ≤ m → m < i → f m = g m) (hl : f i < g i) : lxB f g := ⟨i, h0.1, h0.2, hl, he⟩
theorem lx_ge {f g : Int → Int} {i : Int} (h0 : 0 ≤ i ∧ i < 26) (he : ∀ m, 0 ≤ m → m < i → f m = g m) (hl : g i < f i) : ¬ lxB f g := by
  intro ⟨n, h1, h2, h3, h4⟩
  rcases Int.lt_trichotomy n i with h | h | h
  · have := he n h1 h; omega
  · rw [h] at h3; omega
  · have := h4 i h0.1 h; omega
theorem lx_eq {f g : Int → Int} (he : ∀ m, 0 ≤ m → m < 26 → f m = g m) : ¬ lxB f g := by
  intro ⟨n, h1, h2, h3, h4⟩
  have := he n h1 h2
  omega
/-- reading k, of those kept, is ahead of the one that SP holds -/
def ahd (RP RS SP : Nat → Int) (k : Int) : Prop := lxB (fun n => RP (RS k.toNat * 26 + n).toNat) (fun n => SP n.toNat)
noncomputable def psR (RP RS SP : Nat → Int) (rn : Int) : Int := lst (fun k => ¬ ahd RP RS SP k) rn
theorem psR_r {RP RS SP : Nat → Int} {rn : Int} (h : 0 ≤ rn) : 0 ≤ psR RP RS SP rn ∧ psR RP RS SP rn ≤ rn := by
  unfold psR
  rcases lst_sp (fun k => ¬ ahd RP RS SP k) rn with ⟨h1, h2, -, -⟩ | ⟨h1, -⟩ <;> omega
def monR (RP RS SP : Nat → Int) (rn : Int) : Prop := ∀ i j, 0 ≤ i → i ≤ j → j < rn → ahd RP RS SP j → ahd RP RS SP i

set_option maxRecDepth 100000 in
set_option maxHeartbeats 4000000 in
theorem c_R_forget {l : Launch} {D : va_G} (kI kZ : ClassId) (x : Nat → Nat) (RP RS : Nat → Int) (rn : Int) (hR : IR RP RS rn) : Dt l D (ty2 kI kZ) y_R_forget w_R_forget { frames := 0, cells := 0, slots := 0, locals := 0 } [.ref (x 13)] (wR kI kZ x RP RS rn) none (wR kI kZ x RP RS 0) := by
  refine Met.toJ (own := R_R) (QD D none (wR kI kZ x RP RS 0)) mk_R_forget rfl (Nat.le_of_ble_eq_true rfl) ?_
  intro p e s m args below meth c A C hr hlk hnm
  show JJ p l e { frames := 0, cells := 0, slots := 0, locals := 0 } s m args below meth c D A 1 (MQ below (QD D none (wR kI kZ x RP RS 0) A) args s 0 0 A) 0 0 0 [(0, .ref (x 13))] [] (wR kI kZ x RP RS rn)
  refine j_aload_n (q := 1) C 0 rfl d_R_forget_0 rfl ?_
  refine j_iconst (q := 2) C d_R_forget_1 rfl ?_
  refine j_put (q := 5) (ty := .int) C i_R rfl t_R t_R_ok n_R 0 rfl 2 (by decide) rfl fl_R_18 rfl (by decide +kernel) rfl rfl (Nat.le_of_ble_eq_true rfl) (wR kI kZ x RP RS 0) rfl d_R_forget_2 rfl ?_
  exact j_vret C hr hlk d_R_forget_5 rfl
set_option maxRecDepth 100000 in
set_option maxHeartbeats 4000000 in
theorem c_R_size {l : Launch} {D : va_G} (kI kZ : ClassId) (x : Nat → Nat) (RP RS : Nat → Int) (rn : Int) (hR : IR RP RS rn) : Dt l D (ty2 kI kZ) y_R_size w_R_size { frames := 0, cells := 0, slots := 0, locals := 0 } [.ref (x 13)] (wR kI kZ x RP RS rn) (some (.int (iI (rn)))) (wR kI kZ x RP RS rn) := by
  refine Met.toJ (own := R_R) (QD D (some (.int (iI (rn)))) (wR kI kZ x RP RS rn)) mk_R_size rfl (Nat.le_of_ble_eq_true rfl) ?_
  intro p e s m args below meth c A C hr hlk hnm
  show JJ p l e { frames := 0, cells := 0, slots := 0, locals := 0 } s m args below meth c D A 1 (MQ below (QD D (some (.int (iI (rn)))) (wR kI kZ x RP RS rn) A) args s 0 0 A) 0 0 0 [(0, .ref (x 13))] [] (wR kI kZ x RP RS rn)
  refine j_aload_n (q := 1) C 0 rfl d_R_size_0 rfl ?_
  refine j_get (q := 4) C i_R rfl 0 rfl 2 (by decide) rfl rfl fl_R_18 d_R_size_1 rfl ?_
  exact j_iret C hr hlk d_R_size_4 rfl rfl
set_option maxRecDepth 100000 in
set_option maxHeartbeats 4000000 in
theorem c_R_has {l : Launch} {D : va_G} (kI kZ : ClassId) (x : Nat → Nat) (RP RS : Nat → Int) (rn : Int) (hR : IR RP RS rn) (a : Int) (ha : (-2147483648 ≤ a ∧ a < 2147483648)) : Dt l D (ty2 kI kZ) y_R_has w_R_has { frames := 0, cells := 0, slots := 0, locals := 0 } [.ref (x 13), .int (iI (a))] (wR kI kZ x RP RS rn) (some (.int (iI (hsR rn a)))) (wR kI kZ x RP RS rn) := by
  refine Met.toJ (own := R_R) (QD D (some (.int (iI (hsR rn a)))) (wR kI kZ x RP RS rn)) mk_R_has rfl (Nat.le_of_ble_eq_true rfl) ?_
  intro p e s m args below meth c A C hr hlk hnm
  show JJ p l e { frames := 0, cells := 0, slots := 0, locals := 0 } s m args below meth c D A 2 (MQ below (QD D (some (.int (iI (hsR rn a)))) (wR kI kZ x RP RS rn) A) args s 0 0 A) 0 0 0 [(0, .ref (x 13)), (1, .int (iI (a)))] [] (wR kI kZ x RP RS rn)
  obtain ⟨hrn, hRP, hRS⟩ := id hR
  refine j_iload_n (q := 1) C 1 rfl d_R_has_0 rfl ?_
  refine j_if_lt C 16 4 d_R_has_1 rfl rfl (by omega) (fun c1 => ?_) (fun c1 => ?_)
  · refine j_iconst (q := 17) C d_R_has_16 rfl ?_
    exact j_zret C hr hlk (by omega) d_R_has_17 (congrArg (fun z => some (Value.int (iI z))) (show (hsR rn a) = (0) from by unfold hsR; split <;> omega)) rfl
  · refine j_iload_n (q := 5) C 1 rfl d_R_has_4 rfl ?_
    refine j_aload_n (q := 6) C 0 rfl d_R_has_5 rfl ?_
    refine j_get (q := 9) C i_R rfl 0 rfl 2 (by decide) rfl rfl fl_R_18 d_R_has_6 rfl ?_
    refine j_icmp_ge C 16 12 d_R_has_9 rfl rfl (by omega) (by omega) (fun c2 => ?_) (fun c2 => ?_)
    · refine j_iconst (q := 17) C d_R_has_16 rfl ?_
      first | (exfalso; omega) | exact j_zret C hr hlk (by omega) d_R_has_17 (congrArg (fun z => some (Value.int (iI z))) (show (hsR rn a) = (0) from by unfold hsR; split <;> omega)) rfl
    · refine j_iconst (q := 13) C d_R_has_12 rfl ?_
      refine j_goto C 17 d_R_has_13 rfl ?_
      first | (exfalso; omega) | exact j_zret C hr hlk (by omega) d_R_has_17 (congrArg (fun z => some (Value.int (iI z))) (show (hsR rn a) = (1) from by unfold hsR; split <;> omega)) rfl
set_option maxRecDepth 100000 in
set_option maxHeartbeats 4000000 in
theorem c_R_placeIn {l : Launch} {D : va_G} (kI kZ : ClassId) (x : Nat → Nat) (RP RS : Nat → Int) (rn : Int) (hR : IR RP RS rn) (k a : Int) (hk : (-2147483648 ≤ k ∧ k < 2147483648)) (ha : (-2147483648 ≤ a ∧ a < 2147483648)) : Dt l D (ty2 kI kZ) y_R_placeIn w_R_placeIn { frames := 1, cells := 0, slots := 0, locals := 21 } [.ref (x 13), .int (iI (k)), .int (iI (a))] (wR kI kZ x RP RS rn) (some (.int (iI (rdAt RP RS rn k a)))) (wR kI kZ x RP RS rn) := by
  refine Met.toJ (own := R_R) (QD D (some (.int (iI (rdAt RP RS rn k a)))) (wR kI kZ x RP RS rn)) mk_R_placeIn rfl (Nat.le_of_ble_eq_true rfl) ?_
  intro p e s m args below meth c A C hr hlk hnm
  show JJ p l e { frames := 1, cells := 0, slots := 0, locals := 21 } s m args below meth c D A 3 (MQ below (QD D (some (.int (iI (rdAt RP RS rn k a)))) (wR kI kZ x RP RS rn) A) args s 0 0 A) 0 0 0 [(0, .ref (x 13)), (1, .int (iI (k))), (2, .int (iI (a)))] [] (wR kI kZ x RP RS rn)
  obtain ⟨hrn, hRP, hRS⟩ := id hR
  refine j_aload_n (q := 1) C 0 rfl d_R_placeIn_0 rfl ?_
  refine j_iload_n (q := 2) C 1 rfl d_R_placeIn_1 rfl ?_
  have e2 := hsR_r rn k
  refine j_callV (q := 5) (wr := []) C [.int (iI (k))] [] (c_R_has kI kZ x RP RS rn hR k (by omega)) ml_R_22 mk_R_has in_R_has se_R_has rfl rfl rfl [0, 1, 2] [] [0, 1, 2] rfl (by decide) rfl (by decide) (by decide) (wR kI kZ x RP RS rn) rfl (by decide) rfl rfl rfl (Nat.le_of_ble_eq_true rfl) ⟨Nat.le_of_ble_eq_true rfl, Nat.le_of_ble_eq_true rfl⟩ ⟨Nat.le_of_ble_eq_true rfl, Nat.le_of_ble_eq_true rfl⟩ d_R_placeIn_2 rfl ?_
  refine j_if_eq C 34 8 d_R_placeIn_5 rfl rfl (by omega) (fun c1 => ?_) (fun c1 => ?_)
  · have c1 := hsR_0 c1
    refine j_iconst (q := 35) C d_R_placeIn_34 rfl ?_
    exact j_iret C hr hlk d_R_placeIn_35 (congrArg (fun z => some (Value.int (iI z))) (show (rdAt RP RS rn k a) = (-1) from by unfold rdAt; split <;> first | rfl | omega)) rfl
  · have c1 := hsR_1 c1
    refine j_iload_n (q := 9) C 2 rfl d_R_placeIn_8 rfl ?_
    have e9 := bP_r a
    refine j_callN (q := 12) (wr := wR kI kZ x RP RS rn) C [.int (iI (a))] [] (c_C_isNumber kI kZ x a (by omega)) nl_R_26 mk_C_isNumber st_C_isNumber [] [0, 1, 2] [0, 1, 2] rfl (by decide) rfl (by decide) (by decide) (wR kI kZ x RP RS rn) rfl (by decide) rfl rfl rfl (Nat.le_of_ble_eq_true rfl) ⟨Nat.le_of_ble_eq_true rfl, Nat.le_of_ble_eq_true rfl⟩ ⟨Nat.le_of_ble_eq_true rfl, Nat.le_of_ble_eq_true rfl⟩ d_R_placeIn_9 rfl ?_
    refine j_if_eq C 34 15 d_R_placeIn_12 rfl rfl (by omega) (fun c2 => ?_) (fun c2 => ?_)
    · have c2 := bP_0 c2
      refine j_iconst (q := 35) C d_R_placeIn_34 rfl ?_
      first | (exfalso; omega) | exact j_iret C hr hlk d_R_placeIn_35 (congrArg (fun z => some (Value.int (iI z))) (show (rdAt RP RS rn k a) = (-1) from by unfold rdAt; split <;> first | rfl | omega)) rfl
    · have c2 := bP_1 c2
      refine j_aload_n (q := 16) C 0 rfl d_R_placeIn_15 rfl ?_
      refine j_get (q := 19) C i_R rfl 0 rfl 0 (by decide) rfl rfl fl_R_9 d_R_placeIn_16 rfl ?_
      refine j_aload_n (q := 20) C 0 rfl d_R_placeIn_19 rfl ?_
      refine j_get (q := 23) C i_R rfl 0 rfl 1 (by decide) rfl rfl fl_R_15 d_R_placeIn_20 rfl ?_
      refine j_iload_n (q := 24) C 1 rfl d_R_placeIn_23 rfl ?_
      refine j_iald (q := 25) C 2 0 rfl rfl (by decide) (by omega) d_R_placeIn_24 rfl ?_
      have h24 := hRS k.toNat
      refine j_bipush (q := 27) C d_R_placeIn_25 rfl rfl ?_
      refine j_imul (q := 28) C d_R_placeIn_27 rfl ?_
      refine j_iload_n (q := 29) C 2 rfl d_R_placeIn_28 rfl ?_
      refine j_iadd (q := 30) C d_R_placeIn_29 rfl ?_
      refine j_iald (q := 31) C 1 0 rfl rfl (by decide) (by omega) d_R_placeIn_30 rfl ?_
      have h30 := hRP (((RS k.toNat) * 26) + a).toNat
      refine j_goto C 35 d_R_placeIn_31 rfl ?_
      first | (exfalso; omega) | exact j_iret C hr hlk d_R_placeIn_35 (congrArg (fun z => some (Value.int (iI z))) (show (rdAt RP RS rn k a) = (RP (((RS k.toNat) * 26) + a).toNat) from by unfold rdAt; split <;> first | rfl | omega)) rfl
set_option maxRecDepth 100000 in
set_option maxHeartbeats 4000000 in
theorem c_R_commonPlace {l : Launch} {D : va_G} (kI kZ : ClassId) (x : Nat → Nat) (RP RS : Nat → Int) (rn : Int) (hR : IR RP RS rn) (a : Int) (ha : (-2147483648 ≤ a ∧ a < 2147483648)) : Dt l D (ty2 kI kZ) y_R_commonPlace w_R_commonPlace { frames := 2, cells := 0, slots := 0, locals := 43 } [.ref (x 13), .int (iI (a))] (wR kI kZ x RP RS rn) (some (.int (iI (cmP RP RS rn a)))) (wR kI kZ x RP RS rn) := by
  refine Met.toJ (own := R_R) (QD D (some (.int (iI (cmP RP RS rn a)))) (wR kI kZ x RP RS rn)) mk_R_commonPlace rfl (Nat.le_of_ble_eq_true rfl) ?_
  intro p e s m args below meth c A C hr hlk hnm
  show JJ p l e { frames := 2, cells := 0, slots := 0, locals := 43 } s m args below meth c D A 4 (MQ below (QD D (some (.int (iI (cmP RP RS rn a)))) (wR kI kZ x RP RS rn) A) args s 0 0 A) 0 0 0 [(0, .ref (x 13)), (1, .int (iI (a)))] [] (wR kI kZ x RP RS rn)
  obtain ⟨hrn, hRP, hRS⟩ := id hR
  refine j_aload_n (q := 1) C 0 rfl d_R_commonPlace_0 rfl ?_
  refine j_iconst (q := 2) C d_R_commonPlace_1 rfl ?_
  refine j_iload_n (q := 3) C 1 rfl d_R_commonPlace_2 rfl ?_
  have e3 := rdAt_r hR 0 a
  refine j_callV (q := 6) (wr := []) C [.int (iI (0)), .int (iI (a))] [] (c_R_placeIn kI kZ x RP RS rn hR 0 a (by omega) (by omega)) ml_R_29 mk_R_placeIn in_R_placeIn se_R_placeIn rfl rfl rfl [0, 1, 2] [] [0, 1, 2] rfl (by decide) rfl (by decide) (by decide) (wR kI kZ x RP RS rn) rfl (by decide) rfl rfl rfl (Nat.le_of_ble_eq_true rfl) ⟨Nat.le_of_ble_eq_true rfl, Nat.le_of_ble_eq_true rfl⟩ ⟨Nat.le_of_ble_eq_true rfl, Nat.le_of_ble_eq_true rfl⟩ d_R_commonPlace_3 rfl ?_
  refine j_istore_n (q := 7) C [(0, .ref (x 13)), (1, .int (iI (a))), (2, .int (iI (rdAt RP RS rn 0 a)))] rfl (by decide) d_R_commonPlace_6 rfl ?_
  refine j_iconst (q := 8) C d_R_commonPlace_7 rfl ?_
  refine j_istore_n (q := 9) C [(0, .ref (x 13)), (1, .int (iI (a))), (2, .int (iI (rdAt RP RS rn 0 a))), (3, .int (iI (1)))] rfl (by decide) d_R_commonPlace_8 rfl ?_
  have lp9 : ∀ (N : Nat) (i : Int), (1 ≤ i ∧ i ≤ 201) → (∀ k : Int, 1 ≤ k → k < i → rdAt RP RS rn k a = rdAt RP RS rn 0 a) → (201 - i).toNat < N → JJ p l e { frames := 2, cells := 0, slots := 0, locals := 43 } s m args below meth c D A 4 (MQ below (QD D (some (.int (iI (cmP RP RS rn a)))) (wR kI kZ x RP RS rn) A) args s 0 0 A) 0 0 9 [(0, .ref (x 13)), (1, .int (iI (a))), (2, .int (iI (rdAt RP RS rn 0 a))), (3, .int (iI (i)))] [] (wR kI kZ x RP RS rn) := by
    intro N
    induction N with
    | zero =>
      intro i i0 i1 hN
      omega
    | succ N ih =>
      intro i i0 i1 hN
      refine j_iload_n (q := 10) C 3 rfl d_R_commonPlace_9 rfl ?_
      refine j_aload_n (q := 11) C 0 rfl d_R_commonPlace_10 rfl ?_
      refine j_get (q := 14) C i_R rfl 0 rfl 2 (by decide) rfl rfl fl_R_18 d_R_commonPlace_11 rfl ?_
      refine j_icmp_ge C 35 17 d_R_commonPlace_14 rfl rfl (by omega) (by omega) (fun c1 => ?_) (fun c1 => ?_)
      · refine j_iload_n (q := 36) C 2 rfl d_R_commonPlace_35 rfl ?_
        exact j_iret C hr hlk d_R_commonPlace_36 (congrArg (fun z => some (Value.int (iI z))) (show (cmP RP RS rn a) = (rdAt RP RS rn 0 a) from by unfold cmP; rw [ifP_t (fun k h1 h2 => i1 k h1 (by omega))])) rfl
      · refine j_aload_n (q := 18) C 0 rfl d_R_commonPlace_17 rfl ?_
        refine j_iload_n (q := 19) C 3 rfl d_R_commonPlace_18 rfl ?_
        refine j_iload_n (q := 20) C 1 rfl d_R_commonPlace_19 rfl ?_
        have e20 := rdAt_r hR i a
        refine j_callV (q := 23) (wr := []) C [.int (iI (i)), .int (iI (a))] [] (c_R_placeIn kI kZ x RP RS rn hR i a (by omega) (by omega)) ml_R_29 mk_R_placeIn in_R_placeIn se_R_placeIn rfl rfl rfl [0, 1, 2] [] [0, 1, 2] rfl (by decide) rfl (by decide) (by decide) (wR kI kZ x RP RS rn) rfl (by decide) rfl rfl rfl (Nat.le_of_ble_eq_true rfl) ⟨Nat.le_of_ble_eq_true rfl, Nat.le_of_ble_eq_true rfl⟩ ⟨Nat.le_of_ble_eq_true rfl, Nat.le_of_ble_eq_true rfl⟩ d_R_commonPlace_20 rfl ?_
        refine j_iload_n (q := 24) C 2 rfl d_R_commonPlace_23 rfl ?_
        refine j_icmp_eq C 29 27 d_R_commonPlace_24 rfl rfl (by omega) (by omega) (fun c2 => ?_) (fun c2 => ?_)
        · refine j_iinc (q := 32) C 3 [(0, .ref (x 13)), (1, .int (iI (a))), (2, .int (iI (rdAt RP RS rn 0 a))), (3, .int (iI (i + 1)))] rfl rfl (by decide) d_R_commonPlace_29 rfl ?_
          refine j_goto C 9 d_R_commonPlace_32 rfl ?_
          exact ih (i + 1) (by omega) (fun k h1 h2 => by rcases (show k < i ∨ k = i by omega) with h | h; exact i1 k h1 h; rw [h]; omega) (by omega)
        · refine j_iconst (q := 28) C d_R_commonPlace_27 rfl ?_
          first | (exfalso; omega) | exact j_iret C hr hlk d_R_commonPlace_28 (congrArg (fun z => some (Value.int (iI z))) (show (cmP RP RS rn a) = (-1) from by unfold cmP; rw [ifP_f (fun h => by have := h i (by omega) (by omega); omega)])) rfl
  exact lp9 201 1 (by omega) (fun k h1 h2 => by omega) (by omega)
set_option maxRecDepth 100000 in
set_option maxHeartbeats 4000000 in
theorem c_R_isAhead {l : Launch} {D : va_G} (kI kZ : ClassId) (x : Nat → Nat) (RP RS : Nat → Int) (rn : Int) (hR : IR RP RS rn) (SP : Nat → Int) (hY : IY SP) (k : Int) (hk : 0 ≤ k ∧ k < 200) : Dt l D (ty2 kI kZ) y_R_isAhead w_R_isAhead { frames := 0, cells := 0, slots := 0, locals := 0 } [.ref (x 13), .int (iI (k)), .ref (x 17)] (wR kI kZ x RP RS rn ++ wY kI kZ x SP) (some (.int (iI (bI (ahd RP RS SP k))))) (wR kI kZ x RP RS rn ++ wY kI kZ x SP) := by
  refine Met.toJ (own := R_R) (QD D (some (.int (iI (bI (ahd RP RS SP k))))) (wR kI kZ x RP RS rn ++ wY kI kZ x SP)) mk_R_isAhead rfl (Nat.le_of_ble_eq_true rfl) ?_
  intro p e s m args below meth c A C hr hlk hnm
  show JJ p l e { frames := 0, cells := 0, slots := 0, locals := 0 } s m args below meth c D A 6 (MQ below (QD D (some (.int (iI (bI (ahd RP RS SP k))))) (wR kI kZ x RP RS rn ++ wY kI kZ x SP) A) args s 0 0 A) 0 0 0 [(0, .ref (x 13)), (1, .int (iI (k))), (2, .ref (x 17))] [] (wR kI kZ x RP RS rn ++ wY kI kZ x SP)
  obtain ⟨hrn, hRP, hRS⟩ := id hR
  refine j_aload_n (q := 1) C 0 rfl d_R_isAhead_0 rfl ?_
  refine j_get (q := 4) C i_R rfl 0 rfl 1 (by decide) rfl rfl fl_R_15 d_R_isAhead_1 rfl ?_
  refine j_iload_n (q := 5) C 1 rfl d_R_isAhead_4 rfl ?_
  refine j_iald (q := 6) C 2 0 rfl rfl (by decide) (by omega) d_R_isAhead_5 rfl ?_
  have h5 := hRS k.toNat
  refine j_bipush (q := 8) C d_R_isAhead_6 rfl rfl ?_
  refine j_imul (q := 9) C d_R_isAhead_8 rfl ?_
  refine j_istore_n (q := 10) C [(0, .ref (x 13)), (1, .int (iI (k))), (2, .ref (x 17)), (3, .int (iI ((RS k.toNat) * 26)))] rfl (by decide) d_R_isAhead_9 rfl ?_
  refine j_iconst (q := 11) C d_R_isAhead_10 rfl ?_
  refine j_istore (q := 13) C [(0, .ref (x 13)), (1, .int (iI (k))), (2, .ref (x 17)), (3, .int (iI ((RS k.toNat) * 26))), (4, .int (iI (0)))] rfl (by decide) d_R_isAhead_11 rfl ?_
  have lp13 : ∀ (N : Nat) (i : Int), (0 ≤ i ∧ i ≤ 26) → (∀ m : Int, 0 ≤ m → m < i → (fun n => RP (RS k.toNat * 26 + n).toNat) m = (fun n => SP n.toNat) m) → (26 - i).toNat < N → JJ p l e { frames := 0, cells := 0, slots := 0, locals := 0 } s m args below meth c D A 6 (MQ below (QD D (some (.int (iI (bI (ahd RP RS SP k))))) (wR kI kZ x RP RS rn ++ wY kI kZ x SP) A) args s 0 0 A) 0 0 13 [(0, .ref (x 13)), (1, .int (iI (k))), (2, .ref (x 17)), (3, .int (iI ((RS k.toNat) * 26))), (4, .int (iI (i)))] [] (wR kI kZ x RP RS rn ++ wY kI kZ x SP) := by
    intro N
    induction N with
    | zero =>
      intro i i0 i1 hN
      omega
    | succ N ih =>
      intro i i0 i1 hN
      refine j_iload (q := 15) C 4 rfl d_R_isAhead_13 rfl ?_
      refine j_bipush (q := 17) C d_R_isAhead_15 rfl rfl ?_
      refine j_icmp_ge C 61 20 d_R_isAhead_17 rfl rfl (by omega) (by omega) (fun c1 => ?_) (fun c1 => ?_)
      · refine j_iconst (q := 62) C d_R_isAhead_61 rfl ?_
        exact j_zret C hr hlk (by omega) d_R_isAhead_62 (congrArg (fun z => some (Value.int (iI z))) (show (bI (ahd RP RS SP k)) = (0) from bI_0 (lx_eq (fun m h1 h2 => i1 m h1 (by omega))))) rfl
      · refine j_aload_n (q := 21) C 0 rfl d_R_isAhead_20 rfl ?_
        refine j_get (q := 24) C i_R rfl 0 rfl 0 (by decide) rfl rfl fl_R_9 d_R_isAhead_21 rfl ?_
        refine j_iload_n (q := 25) C 3 rfl d_R_isAhead_24 rfl ?_
        refine j_iload (q := 27) C 4 rfl d_R_isAhead_25 rfl ?_
        refine j_iadd (q := 28) C d_R_isAhead_27 rfl ?_
        refine j_iald (q := 29) C 1 0 rfl rfl (by decide) (by omega) d_R_isAhead_28 rfl ?_
        have h28 := hRP (((RS k.toNat) * 26) + i).toNat
        refine j_istore (q := 31) C [(0, .ref (x 13)), (1, .int (iI (k))), (2, .ref (x 17)), (3, .int (iI ((RS k.toNat) * 26))), (4, .int (iI (i))), (5, .int (iI (RP (((RS k.toNat) * 26) + i).toNat)))] rfl (by decide) d_R_isAhead_29 rfl ?_
        refine j_iload (q := 33) C 5 rfl d_R_isAhead_31 rfl ?_
        refine j_aload_n (q := 34) C 2 rfl d_R_isAhead_33 rfl ?_
        refine j_iload (q := 36) C 4 rfl d_R_isAhead_34 rfl ?_
        refine j_iald (q := 37) C 3 0 rfl rfl (by decide) (by omega) d_R_isAhead_36 rfl ?_
        have h36 := hY i.toNat
        refine j_icmp_eq C 55 40 d_R_isAhead_37 rfl rfl (by omega) (by omega) (fun c2 => ?_) (fun c2 => ?_)
        · refine j_iinc (q := 58) C 4 [(0, .ref (x 13)), (1, .int (iI (k))), (2, .ref (x 17)), (3, .int (iI ((RS k.toNat) * 26))), (4, .int (iI (i + 1))), (5, .int (iI (RP (((RS k.toNat) * 26) + i).toNat)))] rfl rfl (by decide) d_R_isAhead_55 rfl ?_
          refine j_goto C 13 d_R_isAhead_58 rfl ?_
          refine j_lv [0, 1, 2, 3, 4] rfl ?_
          exact ih (i + 1) (by omega) (fun m h1 h2 => by rcases (show m < i ∨ m = i by omega) with h | h; exact i1 m h1 h; rw [h]; dsimp only; omega) (by omega)
        · refine j_iload (q := 42) C 5 rfl d_R_isAhead_40 rfl ?_
          refine j_aload_n (q := 43) C 2 rfl d_R_isAhead_42 rfl ?_
          refine j_iload (q := 45) C 4 rfl d_R_isAhead_43 rfl ?_
          refine j_iald (q := 46) C 3 0 rfl rfl (by decide) (by omega) d_R_isAhead_45 rfl ?_
          have h45 := hY i.toNat
          refine j_icmp_ge C 53 49 d_R_isAhead_46 rfl rfl (by omega) (by omega) (fun c3 => ?_) (fun c3 => ?_)
          · refine j_iconst (q := 54) C d_R_isAhead_53 rfl ?_
            first | (exfalso; omega) | exact j_zret C hr hlk (by omega) d_R_isAhead_54 (congrArg (fun z => some (Value.int (iI z))) (show (bI (ahd RP RS SP k)) = (0) from by first | exact bI_1 (lx_lt (f := fun n => RP (RS k.toNat * 26 + n).toNat) (g := fun n => SP n.toNat) (i := i) (by omega) i1 (show RP (RS k.toNat * 26 + i).toNat < SP i.toNat from by omega)) | exact bI_0 (lx_ge (f := fun n => RP (RS k.toNat * 26 + n).toNat) (g := fun n => SP n.toNat) (i := i) (by omega) i1 (show SP i.toNat < RP (RS k.toNat * 26 + i).toNat from by omega)))) rfl
          · refine j_iconst (q := 50) C d_R_isAhead_49 rfl ?_
            refine j_goto C 54 d_R_isAhead_50 rfl ?_
            first | (exfalso; omega) | exact j_zret C hr hlk (by omega) d_R_isAhead_54 (congrArg (fun z => some (Value.int (iI z))) (show (bI (ahd RP RS SP k)) = (1) from by first | exact bI_1 (lx_lt (f := fun n => RP (RS k.toNat * 26 + n).toNat) (g := fun n => SP n.toNat) (i := i) (by omega) i1 (show RP (RS k.toNat * 26 + i).toNat < SP i.toNat from by omega)) | exact bI_0 (lx_ge (f := fun n => RP (RS k.toNat * 26 + n).toNat) (g := fun n => SP n.toNat) (i := i) (by omega) i1 (show SP i.toNat < RP (RS k.toNat * 26 + i).toNat from by omega)))) rfl
  exact lp13 27 0 (by omega) (fun k h1 h2 => by omega) (by omega)
set_option maxRecDepth 100000 in
set_option maxHeartbeats 4000000 in
theorem c_R_positionOf {l : Launch} {D : va_G} (kI kZ : ClassId) (x : Nat → Nat) (RP RS : Nat → Int) (rn : Int) (hR : IR RP RS rn) (SP : Nat → Int) (hY : IY SP) (hmo : monR RP RS SP rn) : Dt l D (ty2 kI kZ) y_R_positionOf w_R_positionOf { frames := 1, cells := 0, slots := 0, locals := 25 } [.ref (x 13), .ref (x 17)] (wR kI kZ x RP RS rn ++ wY kI kZ x SP) (some (.int (iI (psR RP RS SP rn)))) (wR kI kZ x RP RS rn ++ wY kI kZ x SP) := by
  refine Met.toJ (own := R_R) (QD D (some (.int (iI (psR RP RS SP rn)))) (wR kI kZ x RP RS rn ++ wY kI kZ x SP)) mk_R_positionOf rfl (Nat.le_of_ble_eq_true rfl) ?_
  intro p e s m args below meth c A C hr hlk hnm
  show JJ p l e { frames := 1, cells := 0, slots := 0, locals := 25 } s m args below meth c D A 5 (MQ below (QD D (some (.int (iI (psR RP RS SP rn)))) (wR kI kZ x RP RS rn ++ wY kI kZ x SP) A) args s 0 0 A) 0 0 0 [(0, .ref (x 13)), (1, .ref (x 17))] [] (wR kI kZ x RP RS rn ++ wY kI kZ x SP)
  obtain ⟨hrn, hRP, hRS⟩ := id hR
  refine j_aload_n (q := 1) C 0 rfl d_R_positionOf_0 rfl ?_
  refine j_get (q := 4) C i_R rfl 0 rfl 2 (by decide) rfl rfl fl_R_18 d_R_positionOf_1 rfl ?_
  refine j_if_eq C 21 7 d_R_positionOf_4 rfl rfl (by omega) (fun c1 => ?_) (fun c1 => ?_)
  · refine j_aload_n (q := 22) C 0 rfl d_R_positionOf_21 rfl ?_
    refine j_get (q := 25) C i_R rfl 0 rfl 2 (by decide) rfl rfl fl_R_18 d_R_positionOf_22 rfl ?_
    exact j_iret C hr hlk d_R_positionOf_25 (congrArg (fun z => some (Value.int (iI z))) (show (psR RP RS SP rn) = (rn) from by first | exact lst_no (fun j h1 h2 => by omega) | exact lst_no (fun j h1 h2 => fun h3 => h3 (hmo j (rn - 1) h1 (by omega) (by omega) c2)))) rfl
  · refine j_aload_n (q := 8) C 0 rfl d_R_positionOf_7 rfl ?_
    refine j_aload_n (q := 9) C 0 rfl d_R_positionOf_8 rfl ?_
    refine j_get (q := 12) C i_R rfl 0 rfl 2 (by decide) rfl rfl fl_R_18 d_R_positionOf_9 rfl ?_
    refine j_iconst (q := 13) C d_R_positionOf_12 rfl ?_
    refine j_isub (q := 14) C d_R_positionOf_13 rfl ?_
    refine j_aload_n (q := 15) C 1 rfl d_R_positionOf_14 rfl ?_
    have e15 := bI_r (ahd RP RS SP (rn - 1))
    refine j_callV (q := 18) (wr := []) C [.int (iI (rn - 1)), .ref (x 17)] [] (c_R_isAhead kI kZ x RP RS rn hR SP hY (rn - 1) (by omega)) ml_R_43 mk_R_isAhead in_R_isAhead se_R_isAhead rfl rfl rfl [0, 1, 2, 3] [] [0, 1, 2, 3] rfl (by decide) rfl (by decide) (by decide) (wR kI kZ x RP RS rn ++ wY kI kZ x SP) rfl (by decide) rfl rfl rfl (Nat.le_of_ble_eq_true rfl) ⟨Nat.le_of_ble_eq_true rfl, Nat.le_of_ble_eq_true rfl⟩ ⟨Nat.le_of_ble_eq_true rfl, Nat.le_of_ble_eq_true rfl⟩ d_R_positionOf_15 rfl ?_
    refine j_if_eq C 26 21 d_R_positionOf_18 rfl rfl (by omega) (fun c2 => ?_) (fun c2 => ?_)
    · have c2 := bI_z c2
      refine j_iconst (q := 27) C d_R_positionOf_26 rfl ?_
      refine j_istore_n (q := 28) C [(0, .ref (x 13)), (1, .ref (x 17)), (2, .int (iI (0)))] rfl (by decide) d_R_positionOf_27 rfl ?_
      refine j_aload_n (q := 29) C 0 rfl d_R_positionOf_28 rfl ?_
      refine j_get (q := 32) C i_R rfl 0 rfl 2 (by decide) rfl rfl fl_R_18 d_R_positionOf_29 rfl ?_
      refine j_iconst (q := 33) C d_R_positionOf_32 rfl ?_
      refine j_isub (q := 34) C d_R_positionOf_33 rfl ?_
      refine j_istore_n (q := 35) C [(0, .ref (x 13)), (1, .ref (x 17)), (2, .int (iI (0))), (3, .int (iI (rn - 1)))] rfl (by decide) d_R_positionOf_34 rfl ?_
      have lp35 : ∀ (N : Nat) (lo hi : Int), (0 ≤ lo ∧ lo ≤ hi ∧ hi < rn) → (∀ j : Int, 0 ≤ j → j < lo → ahd RP RS SP j) → (¬ ahd RP RS SP hi) → (hi - lo).toNat < N → JJ p l e { frames := 1, cells := 0, slots := 0, locals := 25 } s m args below meth c D A 5 (MQ below (QD D (some (.int (iI (psR RP RS SP rn)))) (wR kI kZ x RP RS rn ++ wY kI kZ x SP) A) args s 0 0 A) 0 0 35 [(0, .ref (x 13)), (1, .ref (x 17)), (2, .int (iI (lo))), (3, .int (iI (hi)))] [] (wR kI kZ x RP RS rn ++ wY kI kZ x SP) := by
        intro N
        induction N with
        | zero =>
          intro lo hi i0 i1 i2 hN
          omega
        | succ N ih =>
          intro lo hi i0 i1 i2 hN
          refine j_iload_n (q := 36) C 2 rfl d_R_positionOf_35 rfl ?_
          refine j_iload_n (q := 37) C 3 rfl d_R_positionOf_36 rfl ?_
          refine j_icmp_ge C 71 40 d_R_positionOf_37 rfl rfl (by omega) (by omega) (fun c3 => ?_) (fun c3 => ?_)
          · refine j_iload_n (q := 72) C 2 rfl d_R_positionOf_71 rfl ?_
            first | (exfalso; omega) | exact j_iret C hr hlk d_R_positionOf_72 (congrArg (fun z => some (Value.int (iI z))) (show (psR RP RS SP rn) = (lo) from by rw [show lo = hi from by omega] at i1; exact (show lo = hi from by omega) ▸ lst_at (by omega) (by omega) i2 (fun j h1 h2 h3 => h3 (i1 j h1 h2)))) rfl
          · refine j_iload_n (q := 41) C 2 rfl d_R_positionOf_40 rfl ?_
            refine j_iload_n (q := 42) C 3 rfl d_R_positionOf_41 rfl ?_
            refine j_iadd (q := 43) C d_R_positionOf_42 rfl ?_
            refine j_iconst (q := 44) C d_R_positionOf_43 rfl ?_
            refine j_idiv (q := 45) C (by omega) (by omega) d_R_positionOf_44 rfl ?_
            refine j_istore (q := 47) C [(0, .ref (x 13)), (1, .ref (x 17)), (2, .int (iI (lo))), (3, .int (iI (hi))), (4, .int (iI ((lo + hi) / 2)))] rfl (by decide) d_R_positionOf_45 rfl ?_
            refine j_aload_n (q := 48) C 0 rfl d_R_positionOf_47 rfl ?_
            refine j_iload (q := 50) C 4 rfl d_R_positionOf_48 rfl ?_
            refine j_aload_n (q := 51) C 1 rfl d_R_positionOf_50 rfl ?_
            have e51 := bI_r (ahd RP RS SP ((lo + hi) / 2))
            refine j_callV (q := 54) (wr := []) C [.int (iI ((lo + hi) / 2)), .ref (x 17)] [] (c_R_isAhead kI kZ x RP RS rn hR SP hY ((lo + hi) / 2) (by omega)) ml_R_43 mk_R_isAhead in_R_isAhead se_R_isAhead rfl rfl rfl [0, 1, 2, 3] [] [0, 1, 2, 3] rfl (by decide) rfl (by decide) (by decide) (wR kI kZ x RP RS rn ++ wY kI kZ x SP) rfl (by decide) rfl rfl rfl (Nat.le_of_ble_eq_true rfl) ⟨Nat.le_of_ble_eq_true rfl, Nat.le_of_ble_eq_true rfl⟩ ⟨Nat.le_of_ble_eq_true rfl, Nat.le_of_ble_eq_true rfl⟩ d_R_positionOf_51 rfl ?_
            refine j_if_eq C 65 57 d_R_positionOf_54 rfl rfl (by omega) (fun c4 => ?_) (fun c4 => ?_)
            · have c4 := bI_z c4
              refine j_iload (q := 67) C 4 rfl d_R_positionOf_65 rfl ?_
              refine j_istore_n (q := 68) C [(0, .ref (x 13)), (1, .ref (x 17)), (2, .int (iI (lo))), (3, .int (iI ((lo + hi) / 2))), (4, .int (iI ((lo + hi) / 2)))] rfl (by decide) d_R_positionOf_67 rfl ?_
              refine j_goto C 35 d_R_positionOf_68 rfl ?_
              refine j_lv [0, 1, 2, 3] rfl ?_
              exact ih _ _ (by omega) (fun j h1 h2 => i1 j h1 h2) c4 (by omega)
            · have c4 := bI_n c4
              refine j_iload (q := 59) C 4 rfl d_R_positionOf_57 rfl ?_
              refine j_iconst (q := 60) C d_R_positionOf_59 rfl ?_
              refine j_iadd (q := 61) C d_R_positionOf_60 rfl ?_
              refine j_istore_n (q := 62) C [(0, .ref (x 13)), (1, .ref (x 17)), (2, .int (iI (((lo + hi) / 2) + 1))), (3, .int (iI (hi))), (4, .int (iI ((lo + hi) / 2)))] rfl (by decide) d_R_positionOf_61 rfl ?_
              refine j_goto C 68 d_R_positionOf_62 rfl ?_
              refine j_goto C 35 d_R_positionOf_68 rfl ?_
              refine j_lv [0, 1, 2, 3] rfl ?_
              exact ih _ _ (by omega) (fun j h1 h2 => hmo j ((lo + hi) / 2) h1 (by omega) (by omega) c4) i2 (by omega)
      exact lp35 (rn.toNat + 1) 0 (rn - 1) (by omega) (fun j h1 h2 => by omega) c2 (by omega)
    · have c2 := bI_n c2
      refine j_aload_n (q := 22) C 0 rfl d_R_positionOf_21 rfl ?_
      refine j_get (q := 25) C i_R rfl 0 rfl 2 (by decide) rfl rfl fl_R_18 d_R_positionOf_22 rfl ?_
      first | (exfalso; omega) | exact j_iret C hr hlk d_R_positionOf_25 (congrArg (fun z => some (Value.int (iI z))) (show (psR RP RS SP rn) = (rn) from by first | exact lst_no (fun j h1 h2 => by omega) | exact lst_no (fun j h1 h2 => fun h3 => h3 (hmo j (rn - 1) h1 (by omega) (by omega) c2)))) rfl
def slR (RS : Nat → Int) (rn : Int) : Int := if 200 ≤ rn then RS (199 : Int).toNat else rn
def laR (rn : Int) : Int := if 200 ≤ rn then 199 else rn
noncomputable def osR (RP RS SP : Nat → Int) (rn : Int) : Nat → Int := if psR RP RS SP rn < 200 then uI (va_cpy RS RS (psR RP RS SP rn).toNat (psR RP RS SP rn + 1).toNat (laR rn - psR RP RS SP rn).toNat) (psR RP RS SP rn).toNat (slR RS rn) else RS
noncomputable def opR (RP RS SP : Nat → Int) (rn : Int) : Nat → Int := if psR RP RS SP rn < 200 then va_cpy SP RP (0 : Int).toNat (slR RS rn * 26).toNat (26 : Int).toNat else RP
noncomputable def onR (RP RS SP : Nat → Int) (rn : Int) : Int := if psR RP RS SP rn < 200 then laR rn + 1 else rn

set_option maxRecDepth 100000 in
set_option maxHeartbeats 4000000 in
theorem c_R_offer {l : Launch} {D : va_G} (kI kZ : ClassId) (x : Nat → Nat) (RP RS : Nat → Int) (rn : Int) (hR : IR RP RS rn) (SP : Nat → Int) (hY : IY SP) (hmo : monR RP RS SP rn) : Dt l D (ty2 kI kZ) y_R_offer w_R_offer { frames := 2, cells := 0, slots := 0, locals := 60 } [.ref (x 13), .ref (x 17)] (wR kI kZ x RP RS rn ++ wY kI kZ x SP) none (wR kI kZ x (opR RP RS SP rn) (osR RP RS SP rn) (onR RP RS SP rn) ++ wY kI kZ x SP) := by
  refine Met.toJ (own := R_R) (QD D none (wR kI kZ x (opR RP RS SP rn) (osR RP RS SP rn) (onR RP RS SP rn) ++ wY kI kZ x SP)) mk_R_offer rfl (Nat.le_of_ble_eq_true rfl) ?_
  intro p e s m args below meth c A C hr hlk hnm
  show JJ p l e { frames := 2, cells := 0, slots := 0, locals := 60 } s m args below meth c D A 6 (MQ below (QD D none (wR kI kZ x (opR RP RS SP rn) (osR RP RS SP rn) (onR RP RS SP rn) ++ wY kI kZ x SP) A) args s 0 0 A) 0 0 0 [(0, .ref (x 13)), (1, .ref (x 17))] [] (wR kI kZ x RP RS rn ++ wY kI kZ x SP)
  obtain ⟨hrn, hRP, hRS⟩ := id hR
  refine j_aload_n (q := 1) C 0 rfl d_R_offer_0 rfl ?_
  refine j_aload_n (q := 2) C 1 rfl d_R_offer_1 rfl ?_
  have e2 := psR_r (RP := RP) (RS := RS) (SP := SP) hrn.1
  refine j_callV (q := 5) (wr := []) C [.ref (x 17)] [] (c_R_positionOf kI kZ x RP RS rn hR SP hY hmo) ml_R_33 mk_R_positionOf in_R_positionOf se_R_positionOf rfl rfl rfl [0, 1, 2, 3] [] [0, 1, 2, 3] rfl (by decide) rfl (by decide) (by decide) (wR kI kZ x RP RS rn ++ wY kI kZ x SP) rfl (by decide) rfl rfl rfl (Nat.le_of_ble_eq_true rfl) ⟨Nat.le_of_ble_eq_true rfl, Nat.le_of_ble_eq_true rfl⟩ ⟨Nat.le_of_ble_eq_true rfl, Nat.le_of_ble_eq_true rfl⟩ d_R_offer_2 rfl ?_
  refine j_istore_n (q := 6) C [(0, .ref (x 13)), (1, .ref (x 17)), (2, .int (iI (psR RP RS SP rn)))] rfl (by decide) d_R_offer_5 rfl ?_
  refine j_iload_n (q := 7) C 2 rfl d_R_offer_6 rfl ?_
  refine j_sipush (q := 10) C d_R_offer_7 rfl rfl ?_
  refine j_icmp_lt C 14 13 d_R_offer_10 rfl rfl (by omega) (by omega) (fun c1 => ?_) (fun c1 => ?_)
  · refine j_aload_n (q := 15) C 0 rfl d_R_offer_14 rfl ?_
    refine j_get (q := 18) C i_R rfl 0 rfl 2 (by decide) rfl rfl fl_R_18 d_R_offer_15 rfl ?_
    refine j_sipush (q := 21) C d_R_offer_18 rfl rfl ?_
    refine j_icmp_lt C 28 24 d_R_offer_21 rfl rfl (by omega) (by omega) (fun c2 => ?_) (fun c2 => ?_)
    · refine j_iconst (q := 29) C d_R_offer_28 rfl ?_
      refine j_istore_n (q := 30) C [(0, .ref (x 13)), (1, .ref (x 17)), (2, .int (iI (psR RP RS SP rn))), (3, .int (iI (0)))] rfl (by decide) d_R_offer_29 rfl ?_
      refine j_iload_n (q := 31) C 3 rfl d_R_offer_30 rfl ?_
      refine j_if_eq C 45 34 d_R_offer_31 rfl rfl (by omega) (fun c3 => ?_) (fun c3 => ?_)
      · refine j_aload_n (q := 46) C 0 rfl d_R_offer_45 rfl ?_
        refine j_get (q := 49) C i_R rfl 0 rfl 2 (by decide) rfl rfl fl_R_18 d_R_offer_46 rfl ?_
        refine j_istore (q := 51) C [(0, .ref (x 13)), (1, .ref (x 17)), (2, .int (iI (psR RP RS SP rn))), (3, .int (iI (0))), (4, .int (iI (rn)))] rfl (by decide) d_R_offer_49 rfl ?_
        refine j_iload_n (q := 52) C 3 rfl d_R_offer_51 rfl ?_
        refine j_if_eq C 61 55 d_R_offer_52 rfl rfl (by omega) (fun c4 => ?_) (fun c4 => ?_)
        · refine j_aload_n (q := 62) C 0 rfl d_R_offer_61 rfl ?_
          refine j_get (q := 65) C i_R rfl 0 rfl 2 (by decide) rfl rfl fl_R_18 d_R_offer_62 rfl ?_
          refine j_istore (q := 67) C [(0, .ref (x 13)), (1, .ref (x 17)), (2, .int (iI (psR RP RS SP rn))), (3, .int (iI (0))), (4, .int (iI (rn))), (5, .int (iI (rn)))] rfl (by decide) d_R_offer_65 rfl ?_
          refine j_aload_n (q := 68) C 0 rfl d_R_offer_67 rfl ?_
          refine j_get (q := 71) C i_R rfl 0 rfl 1 (by decide) rfl rfl fl_R_15 d_R_offer_68 rfl ?_
          refine j_iload_n (q := 72) C 2 rfl d_R_offer_71 rfl ?_
          refine j_aload_n (q := 73) C 0 rfl d_R_offer_72 rfl ?_
          refine j_get (q := 76) C i_R rfl 0 rfl 1 (by decide) rfl rfl fl_R_15 d_R_offer_73 rfl ?_
          refine j_iload_n (q := 77) C 2 rfl d_R_offer_76 rfl ?_
          refine j_iconst (q := 78) C d_R_offer_77 rfl ?_
          refine j_iadd (q := 79) C d_R_offer_78 rfl ?_
          refine j_iload (q := 81) C 5 rfl d_R_offer_79 rfl ?_
          refine j_iload_n (q := 82) C 2 rfl d_R_offer_81 rfl ?_
          refine j_isub (q := 83) C d_R_offer_82 rfl ?_
          refine j_copy (q := 86) C 2 2 0 0 rfl rfl rfl rfl (by decide) (by decide) (by omega) ml_R_37 (Nat.le_of_ble_eq_true rfl) (Nat.le_of_ble_eq_true rfl) (wR kI kZ x RP (va_cpy RS RS (psR RP RS SP rn).toNat ((psR RP RS SP rn) + 1).toNat (rn - (psR RP RS SP rn)).toNat) rn ++ wY kI kZ x SP) rfl d_R_offer_83 rfl ?_
          refine j_aload_n (q := 87) C 0 rfl d_R_offer_86 rfl ?_
          refine j_get (q := 90) C i_R rfl 0 rfl 1 (by decide) rfl rfl fl_R_15 d_R_offer_87 rfl ?_
          refine j_iload_n (q := 91) C 2 rfl d_R_offer_90 rfl ?_
          refine j_iload (q := 93) C 4 rfl d_R_offer_91 rfl ?_
          refine j_iast (q := 94) C 2 0 rfl rfl (by decide) (by omega) (wR kI kZ x RP (uI (va_cpy RS RS (psR RP RS SP rn).toNat ((psR RP RS SP rn) + 1).toNat (rn - (psR RP RS SP rn)).toNat) (psR RP RS SP rn).toNat rn) rn ++ wY kI kZ x SP) rfl d_R_offer_93 rfl ?_
          refine j_aload_n (q := 95) C 1 rfl d_R_offer_94 rfl ?_
          refine j_iconst (q := 96) C d_R_offer_95 rfl ?_
          refine j_aload_n (q := 97) C 0 rfl d_R_offer_96 rfl ?_
          refine j_get (q := 100) C i_R rfl 0 rfl 0 (by decide) rfl rfl fl_R_9 d_R_offer_97 rfl ?_
          refine j_iload (q := 102) C 4 rfl d_R_offer_100 rfl ?_
          refine j_bipush (q := 104) C d_R_offer_102 rfl rfl ?_
          refine j_imul (q := 105) C d_R_offer_104 rfl ?_
          refine j_bipush (q := 107) C d_R_offer_105 rfl rfl ?_
          refine j_copy (q := 110) C 3 1 0 0 rfl rfl rfl rfl (by decide) (by decide) (by omega) ml_R_37 (Nat.le_of_ble_eq_true rfl) (Nat.le_of_ble_eq_true rfl) (wR kI kZ x (va_cpy SP RP (0 : Int).toNat (rn * 26).toNat (26 : Int).toNat) (uI (va_cpy RS RS (psR RP RS SP rn).toNat ((psR RP RS SP rn) + 1).toNat (rn - (psR RP RS SP rn)).toNat) (psR RP RS SP rn).toNat rn) rn ++ wY kI kZ x SP) rfl d_R_offer_107 rfl ?_
          refine j_aload_n (q := 111) C 0 rfl d_R_offer_110 rfl ?_
          refine j_iload (q := 113) C 5 rfl d_R_offer_111 rfl ?_
          refine j_iconst (q := 114) C d_R_offer_113 rfl ?_
          refine j_iadd (q := 115) C d_R_offer_114 rfl ?_
          refine j_put (q := 118) (ty := .int) C i_R rfl t_R t_R_ok n_R 0 rfl 2 (by decide) rfl fl_R_18 rfl (by decide +kernel) rfl rfl (Nat.le_of_ble_eq_true rfl) (wR kI kZ x (va_cpy SP RP (0 : Int).toNat (rn * 26).toNat (26 : Int).toNat) (uI (va_cpy RS RS (psR RP RS SP rn).toNat ((psR RP RS SP rn) + 1).toNat (rn - (psR RP RS SP rn)).toNat) (psR RP RS SP rn).toNat rn) (rn + 1) ++ wY kI kZ x SP) rfl d_R_offer_115 rfl ?_
          first | (exfalso; omega) | exact j_vret C hr hlk d_R_offer_118 (by have k1 : laR rn = rn := (by unfold laR; split <;> omega); have k2 : slR RS rn = rn := (by unfold slR; split <;> first | rfl | omega); unfold opR osR onR; rw [if_pos (by omega), if_pos (by omega), if_pos (by omega), k1, k2])
        · exfalso; omega
      · exfalso; omega
    · refine j_iconst (q := 25) C d_R_offer_24 rfl ?_
      refine j_goto C 29 d_R_offer_25 rfl ?_
      refine j_istore_n (q := 30) C [(0, .ref (x 13)), (1, .ref (x 17)), (2, .int (iI (psR RP RS SP rn))), (3, .int (iI (1)))] rfl (by decide) d_R_offer_29 rfl ?_
      refine j_iload_n (q := 31) C 3 rfl d_R_offer_30 rfl ?_
      refine j_if_eq C 45 34 d_R_offer_31 rfl rfl (by omega) (fun c5 => ?_) (fun c5 => ?_)
      · exfalso; omega
      · refine j_aload_n (q := 35) C 0 rfl d_R_offer_34 rfl ?_
        refine j_get (q := 38) C i_R rfl 0 rfl 1 (by decide) rfl rfl fl_R_15 d_R_offer_35 rfl ?_
        refine j_sipush (q := 41) C d_R_offer_38 rfl rfl ?_
        refine j_iald (q := 42) C 2 0 rfl rfl (by decide) (by omega) d_R_offer_41 rfl ?_
        have h41 := hRS (199 : Int).toNat
        refine j_goto C 49 d_R_offer_42 rfl ?_
        refine j_istore (q := 51) C [(0, .ref (x 13)), (1, .ref (x 17)), (2, .int (iI (psR RP RS SP rn))), (3, .int (iI (1))), (4, .int (iI (RS (199 : Int).toNat)))] rfl (by decide) d_R_offer_49 rfl ?_
        refine j_iload_n (q := 52) C 3 rfl d_R_offer_51 rfl ?_
        refine j_if_eq C 61 55 d_R_offer_52 rfl rfl (by omega) (fun c6 => ?_) (fun c6 => ?_)
        · exfalso; omega
        · refine j_sipush (q := 58) C d_R_offer_55 rfl rfl ?_
          refine j_goto C 65 d_R_offer_58 rfl ?_
          refine j_istore (q := 67) C [(0, .ref (x 13)), (1, .ref (x 17)), (2, .int (iI (psR RP RS SP rn))), (3, .int (iI (1))), (4, .int (iI (RS (199 : Int).toNat))), (5, .int (iI (199)))] rfl (by decide) d_R_offer_65 rfl ?_
          refine j_aload_n (q := 68) C 0 rfl d_R_offer_67 rfl ?_
          refine j_get (q := 71) C i_R rfl 0 rfl 1 (by decide) rfl rfl fl_R_15 d_R_offer_68 rfl ?_
          refine j_iload_n (q := 72) C 2 rfl d_R_offer_71 rfl ?_
          refine j_aload_n (q := 73) C 0 rfl d_R_offer_72 rfl ?_
          refine j_get (q := 76) C i_R rfl 0 rfl 1 (by decide) rfl rfl fl_R_15 d_R_offer_73 rfl ?_
          refine j_iload_n (q := 77) C 2 rfl d_R_offer_76 rfl ?_
          refine j_iconst (q := 78) C d_R_offer_77 rfl ?_
          refine j_iadd (q := 79) C d_R_offer_78 rfl ?_
          refine j_iload (q := 81) C 5 rfl d_R_offer_79 rfl ?_
          refine j_iload_n (q := 82) C 2 rfl d_R_offer_81 rfl ?_
          refine j_isub (q := 83) C d_R_offer_82 rfl ?_
          refine j_copy (q := 86) C 2 2 0 0 rfl rfl rfl rfl (by decide) (by decide) (by omega) ml_R_37 (Nat.le_of_ble_eq_true rfl) (Nat.le_of_ble_eq_true rfl) (wR kI kZ x RP (va_cpy RS RS (psR RP RS SP rn).toNat ((psR RP RS SP rn) + 1).toNat (199 - (psR RP RS SP rn)).toNat) rn ++ wY kI kZ x SP) rfl d_R_offer_83 rfl ?_
          refine j_aload_n (q := 87) C 0 rfl d_R_offer_86 rfl ?_
          refine j_get (q := 90) C i_R rfl 0 rfl 1 (by decide) rfl rfl fl_R_15 d_R_offer_87 rfl ?_
          refine j_iload_n (q := 91) C 2 rfl d_R_offer_90 rfl ?_
          refine j_iload (q := 93) C 4 rfl d_R_offer_91 rfl ?_
          refine j_iast (q := 94) C 2 0 rfl rfl (by decide) (by omega) (wR kI kZ x RP (uI (va_cpy RS RS (psR RP RS SP rn).toNat ((psR RP RS SP rn) + 1).toNat (199 - (psR RP RS SP rn)).toNat) (psR RP RS SP rn).toNat (RS (199 : Int).toNat)) rn ++ wY kI kZ x SP) rfl d_R_offer_93 rfl ?_
          refine j_aload_n (q := 95) C 1 rfl d_R_offer_94 rfl ?_
          refine j_iconst (q := 96) C d_R_offer_95 rfl ?_
          refine j_aload_n (q := 97) C 0 rfl d_R_offer_96 rfl ?_
          refine j_get (q := 100) C i_R rfl 0 rfl 0 (by decide) rfl rfl fl_R_9 d_R_offer_97 rfl ?_
          refine j_iload (q := 102) C 4 rfl d_R_offer_100 rfl ?_
          refine j_bipush (q := 104) C d_R_offer_102 rfl rfl ?_
          refine j_imul (q := 105) C d_R_offer_104 rfl ?_
          refine j_bipush (q := 107) C d_R_offer_105 rfl rfl ?_
          refine j_copy (q := 110) C 3 1 0 0 rfl rfl rfl rfl (by decide) (by decide) (by omega) ml_R_37 (Nat.le_of_ble_eq_true rfl) (Nat.le_of_ble_eq_true rfl) (wR kI kZ x (va_cpy SP RP (0 : Int).toNat ((RS (199 : Int).toNat) * 26).toNat (26 : Int).toNat) (uI (va_cpy RS RS (psR RP RS SP rn).toNat ((psR RP RS SP rn) + 1).toNat (199 - (psR RP RS SP rn)).toNat) (psR RP RS SP rn).toNat (RS (199 : Int).toNat)) rn ++ wY kI kZ x SP) rfl d_R_offer_107 rfl ?_
          refine j_aload_n (q := 111) C 0 rfl d_R_offer_110 rfl ?_
          refine j_iload (q := 113) C 5 rfl d_R_offer_111 rfl ?_
          refine j_iconst (q := 114) C d_R_offer_113 rfl ?_
          refine j_iadd (q := 115) C d_R_offer_114 rfl ?_
          refine j_put (q := 118) (ty := .int) C i_R rfl t_R t_R_ok n_R 0 rfl 2 (by decide) rfl fl_R_18 rfl (by decide +kernel) rfl rfl (Nat.le_of_ble_eq_true rfl) (wR kI kZ x (va_cpy SP RP (0 : Int).toNat ((RS (199 : Int).toNat) * 26).toNat (26 : Int).toNat) (uI (va_cpy RS RS (psR RP RS SP rn).toNat ((psR RP RS SP rn) + 1).toNat (199 - (psR RP RS SP rn)).toNat) (psR RP RS SP rn).toNat (RS (199 : Int).toNat)) (199 + 1) ++ wY kI kZ x SP) rfl d_R_offer_115 rfl ?_
          first | (exfalso; omega) | exact j_vret C hr hlk d_R_offer_118 (by have k1 : laR rn = 199 := (by unfold laR; split <;> omega); have k2 : slR RS rn = RS (199 : Int).toNat := (by unfold slR; split <;> first | rfl | omega); unfold opR osR onR; rw [if_pos (by omega), if_pos (by omega), if_pos (by omega), k1, k2])
  · first | (exfalso; omega) | exact j_vret C hr hlk d_R_offer_13 (by unfold opR osR onR; rw [if_neg (by omega), if_neg (by omega), if_neg (by omega)])
end
section
def IB (BF : Nat → Int) : Prop := ∀ j, -1 ≤ BF j ∧ BF j ≤ 60
/-- the word a stands in the plain at the place p -/
def stB (WP WL : Nat → Int) (wn : Int) (XP : Nat → Int) (xn a p : Int) : Prop := 0 ≤ p ∧ p + lnOf WL wn a ≤ xn ∧ ∀ i, p ≤ i → i < p + lnOf WL wn a → sgAt XP xn i = plAt WP WL wn a (i - p)
noncomputable def fbB (BF WP WL : Nat → Int) (wn : Int) (XP : Nat → Int) (xn a p : Int) : Int := ifP (stB WP WL wn XP xn a p) (BF (p + lnOf WL wn a).toNat) (-1)
theorem fbB_r {BF : Nat → Int} (h : IB BF) (WP WL : Nat → Int) (wn : Int) (XP : Nat → Int) (xn a p : Int) : -1 ≤ fbB BF WP WL wn XP xn a p ∧ fbB BF WP WL wn XP xn a p ≤ 60 := by
  have := h (p + lnOf WL wn a).toNat
  by_cases c : stB WP WL wn XP xn a p
  · unfold fbB; rw [ifP_t c]; exact this
  · unfold fbB; rw [ifP_f c]; omega
/-- the least of what the words 0 .. n - 1 give, and one more; -1 when none gives anything -/
def mnB (g : Int → Int) : Nat → Int
  | 0 => -1
  | n + 1 => if ¬ g n = -1 ∧ (mnB g n = -1 ∨ g n + 1 < mnB g n) then g n + 1 else mnB g n
theorem mnB_r {g : Int → Int} {b : Int} (hb : -1 ≤ b) (h : ∀ i, -1 ≤ g i ∧ g i ≤ b) (n : Nat) : -1 ≤ mnB g n ∧ mnB g n ≤ b + 1 := by
  induction n with
  | zero => unfold mnB; omega
  | succ n ih =>
    have := h n
    unfold mnB
    split <;> omega
theorem mnB_s (g : Int → Int) {i : Int} (h : 0 ≤ i) : mnB g (i + 1).toNat = if ¬ g i = -1 ∧ (mnB g i.toNat = -1 ∨ g i + 1 < mnB g i.toNat) then g i + 1 else mnB g i.toNat := by
  obtain ⟨n, rfl⟩ := Int.eq_ofNat_of_zero_le h
  rfl

set_option maxRecDepth 100000 in
set_option maxHeartbeats 4000000 in
theorem c_B_fewestBehind {l : Launch} {D : va_G} (kI kZ : ClassId) (x : Nat → Nat) (BF : Nat → Int) (hB : IB BF) (WP WL WC : Nat → Int) (wn wk : Int) (hW : IW WP WL WC wn wk) (XP : Nat → Int) (xn : Int) (hX : IX XP xn) (a p0 : Int) (ha : (-2147483648 ≤ a ∧ a < 2147483648)) (hp : 0 ≤ p0 ∧ p0 ≤ 60) : Dt l D (ty2 kI kZ) y_B_fewestBehind w_B_fewestBehind { frames := 2, cells := 0, slots := 0, locals := 43 } [.ref (x 22), .int (iI (a)), .int (iI (p0))] (wB kI kZ x BF ++ wW kI kZ x WP WL WC wn wk ++ wX kI kZ x XP xn) (some (.int (iI (fbB BF WP WL wn XP xn a p0)))) (wB kI kZ x BF ++ wW kI kZ x WP WL WC wn wk ++ wX kI kZ x XP xn) := by
  refine Met.toJ (own := R_B) (QD D (some (.int (iI (fbB BF WP WL wn XP xn a p0)))) (wB kI kZ x BF ++ wW kI kZ x WP WL WC wn wk ++ wX kI kZ x XP xn)) mk_B_fewestBehind rfl (Nat.le_of_ble_eq_true rfl) ?_
  intro p e s m args below meth c A C hr hlk hnm
  show JJ p l e { frames := 2, cells := 0, slots := 0, locals := 43 } s m args below meth c D A 5 (MQ below (QD D (some (.int (iI (fbB BF WP WL wn XP xn a p0)))) (wB kI kZ x BF ++ wW kI kZ x WP WL WC wn wk ++ wX kI kZ x XP xn) A) args s 0 0 A) 0 0 0 [(0, .ref (x 22)), (1, .int (iI (a))), (2, .int (iI (p0)))] [] (wB kI kZ x BF ++ wW kI kZ x WP WL WC wn wk ++ wX kI kZ x XP xn)
  obtain ⟨hwn, hwk, hWL, hWP, hWC⟩ := id hW
  obtain ⟨hxn, hXP⟩ := id hX
  refine j_iload_n (q := 1) C 2 rfl d_B_fewestBehind_0 rfl ?_
  refine j_aload_n (q := 2) C 0 rfl d_B_fewestBehind_1 rfl ?_
  refine j_get (q := 5) C i_B rfl 0 rfl 0 (by decide) rfl rfl fl_B_15 d_B_fewestBehind_2 rfl ?_
  refine j_iload_n (q := 6) C 1 rfl d_B_fewestBehind_5 rfl ?_
  have e6 := lnOf_r hW a
  refine j_callV (q := 9) (wr := wB kI kZ x BF ++ wX kI kZ x XP xn) C [.int (iI (a))] [.int (iI (p0))] (c_W_lengthOf kI kZ x WP WL WC wn wk hW a (by omega)) ml_B_39 mk_W_lengthOf in_W_lengthOf se_W_lengthOf rfl rfl rfl [2, 3, 4, 5] [0, 1, 6, 7] [0, 1, 4, 5, 6, 7, 2, 3] rfl (by decide) rfl (by decide) (by decide) (wB kI kZ x BF ++ wW kI kZ x WP WL WC wn wk ++ wX kI kZ x XP xn) rfl (by decide) rfl rfl rfl (Nat.le_of_ble_eq_true rfl) ⟨Nat.le_of_ble_eq_true rfl, Nat.le_of_ble_eq_true rfl⟩ ⟨Nat.le_of_ble_eq_true rfl, Nat.le_of_ble_eq_true rfl⟩ d_B_fewestBehind_6 rfl ?_
  refine j_iadd (q := 10) C d_B_fewestBehind_9 rfl ?_
  refine j_istore_n (q := 11) C [(0, .ref (x 22)), (1, .int (iI (a))), (2, .int (iI (p0))), (3, .int (iI (p0 + (lnOf WL wn a))))] rfl (by decide) d_B_fewestBehind_10 rfl ?_
  refine j_iload_n (q := 12) C 2 rfl d_B_fewestBehind_11 rfl ?_
  refine j_if_lt C 26 15 d_B_fewestBehind_12 rfl rfl (by omega) (fun c1 => ?_) (fun c1 => ?_)
  · refine j_iconst (q := 27) C d_B_fewestBehind_26 rfl ?_
    exact j_iret C hr hlk d_B_fewestBehind_27 (congrArg (fun z => some (Value.int (iI z))) (show (fbB BF WP WL wn XP xn a p0) = (-1) from by unfold fbB; rw [ifP_f (fun h => by have := h.2.1; omega)])) rfl
  · refine j_iload_n (q := 16) C 3 rfl d_B_fewestBehind_15 rfl ?_
    refine j_aload_n (q := 17) C 0 rfl d_B_fewestBehind_16 rfl ?_
    refine j_get (q := 20) C i_B rfl 0 rfl 1 (by decide) rfl rfl fl_B_19 d_B_fewestBehind_17 rfl ?_
    refine j_callV (q := 23) (wr := wB kI kZ x BF ++ wW kI kZ x WP WL WC wn wk) C [] [.int (iI (p0 + (lnOf WL wn a)))] (c_X_size kI kZ x XP xn hX) ml_B_23 mk_X_size in_X_size se_X_size rfl rfl rfl [6, 7] [0, 1, 2, 3, 4, 5] [0, 1, 2, 3, 4, 5, 6, 7] rfl (by decide) rfl (by decide) (by decide) (wB kI kZ x BF ++ wW kI kZ x WP WL WC wn wk ++ wX kI kZ x XP xn) rfl (by decide) rfl rfl rfl (Nat.le_of_ble_eq_true rfl) ⟨Nat.le_of_ble_eq_true rfl, Nat.le_of_ble_eq_true rfl⟩ ⟨Nat.le_of_ble_eq_true rfl, Nat.le_of_ble_eq_true rfl⟩ d_B_fewestBehind_20 rfl ?_
    refine j_icmp_le C 28 26 d_B_fewestBehind_23 rfl rfl (by omega) (by omega) (fun c2 => ?_) (fun c2 => ?_)
    · refine j_iload_n (q := 29) C 2 rfl d_B_fewestBehind_28 rfl ?_
      refine j_istore (q := 31) C [(0, .ref (x 22)), (1, .int (iI (a))), (2, .int (iI (p0))), (3, .int (iI (p0 + (lnOf WL wn a)))), (4, .int (iI (p0)))] rfl (by decide) d_B_fewestBehind_29 rfl ?_
      have lp31 : ∀ (N : Nat) (i : Int), (p0 ≤ i ∧ i ≤ p0 + lnOf WL wn a) → (∀ j : Int, p0 ≤ j → j < i → sgAt XP xn j = plAt WP WL wn a (j - p0)) → (p0 + lnOf WL wn a - i).toNat < N → JJ p l e { frames := 2, cells := 0, slots := 0, locals := 43 } s m args below meth c D A 5 (MQ below (QD D (some (.int (iI (fbB BF WP WL wn XP xn a p0)))) (wB kI kZ x BF ++ wW kI kZ x WP WL WC wn wk ++ wX kI kZ x XP xn) A) args s 0 0 A) 0 0 31 [(0, .ref (x 22)), (1, .int (iI (a))), (2, .int (iI (p0))), (3, .int (iI (p0 + (lnOf WL wn a)))), (4, .int (iI (i)))] [] (wB kI kZ x BF ++ wW kI kZ x WP WL WC wn wk ++ wX kI kZ x XP xn) := by
        intro N
        induction N with
        | zero =>
          intro i i0 i1 hN
          omega
        | succ N ih =>
          intro i i0 i1 hN
          refine j_iload (q := 33) C 4 rfl d_B_fewestBehind_31 rfl ?_
          refine j_iload_n (q := 34) C 3 rfl d_B_fewestBehind_33 rfl ?_
          refine j_icmp_ge C 69 37 d_B_fewestBehind_34 rfl rfl (by omega) (by omega) (fun c3 => ?_) (fun c3 => ?_)
          · refine j_aload_n (q := 70) C 0 rfl d_B_fewestBehind_69 rfl ?_
            refine j_get (q := 73) C i_B rfl 0 rfl 2 (by decide) rfl rfl fl_B_9 d_B_fewestBehind_70 rfl ?_
            refine j_iload_n (q := 74) C 3 rfl d_B_fewestBehind_73 rfl ?_
            refine j_iald (q := 75) C 1 0 rfl rfl (by decide) (by omega) d_B_fewestBehind_74 rfl ?_
            have h74 := hB (p0 + (lnOf WL wn a)).toNat
            first | (exfalso; omega) | exact j_iret C hr hlk d_B_fewestBehind_75 (congrArg (fun z => some (Value.int (iI z))) (show (fbB BF WP WL wn XP xn a p0) = (BF (p0 + (lnOf WL wn a)).toNat) from by unfold fbB; rw [ifP_t ⟨by omega, by omega, fun j h1 h2 => i1 j h1 (by omega)⟩])) rfl
          · refine j_aload_n (q := 38) C 0 rfl d_B_fewestBehind_37 rfl ?_
            refine j_get (q := 41) C i_B rfl 0 rfl 1 (by decide) rfl rfl fl_B_19 d_B_fewestBehind_38 rfl ?_
            refine j_iload (q := 43) C 4 rfl d_B_fewestBehind_41 rfl ?_
            have e43 := sgAt_r hX.b xn i
            refine j_callV (q := 46) (wr := wB kI kZ x BF ++ wW kI kZ x WP WL WC wn wk) C [.int (iI (i))] [] (c_X_placeAt kI kZ x XP xn hX i (by omega)) ml_B_49 mk_X_placeAt in_X_placeAt se_X_placeAt rfl rfl rfl [6, 7] [0, 1, 2, 3, 4, 5] [0, 1, 2, 3, 4, 5, 6, 7] rfl (by decide) rfl (by decide) (by decide) (wB kI kZ x BF ++ wW kI kZ x WP WL WC wn wk ++ wX kI kZ x XP xn) rfl (by decide) rfl rfl rfl (Nat.le_of_ble_eq_true rfl) ⟨Nat.le_of_ble_eq_true rfl, Nat.le_of_ble_eq_true rfl⟩ ⟨Nat.le_of_ble_eq_true rfl, Nat.le_of_ble_eq_true rfl⟩ d_B_fewestBehind_43 rfl ?_
            refine j_aload_n (q := 47) C 0 rfl d_B_fewestBehind_46 rfl ?_
            refine j_get (q := 50) C i_B rfl 0 rfl 0 (by decide) rfl rfl fl_B_15 d_B_fewestBehind_47 rfl ?_
            refine j_iload_n (q := 51) C 1 rfl d_B_fewestBehind_50 rfl ?_
            refine j_iload (q := 53) C 4 rfl d_B_fewestBehind_51 rfl ?_
            refine j_iload_n (q := 54) C 2 rfl d_B_fewestBehind_53 rfl ?_
            refine j_isub (q := 55) C d_B_fewestBehind_54 rfl ?_
            have e55 := plAt_r hW a (i - p0)
            refine j_callV (q := 58) (wr := wB kI kZ x BF ++ wX kI kZ x XP xn) C [.int (iI (a)), .int (iI (i - p0))] [.int (iI (sgAt XP xn i))] (c_W_placeAt kI kZ x WP WL WC wn wk hW a (i - p0) (by omega) (by omega)) ml_B_52 mk_W_placeAt in_W_placeAt se_W_placeAt rfl rfl rfl [2, 3, 4, 5] [0, 1, 6, 7] [0, 1, 4, 5, 6, 7, 2, 3] rfl (by decide) rfl (by decide) (by decide) (wB kI kZ x BF ++ wW kI kZ x WP WL WC wn wk ++ wX kI kZ x XP xn) rfl (by decide) rfl rfl rfl (Nat.le_of_ble_eq_true rfl) ⟨Nat.le_of_ble_eq_true rfl, Nat.le_of_ble_eq_true rfl⟩ ⟨Nat.le_of_ble_eq_true rfl, Nat.le_of_ble_eq_true rfl⟩ d_B_fewestBehind_55 rfl ?_
            refine j_icmp_eq C 63 61 d_B_fewestBehind_58 rfl rfl (by omega) (by omega) (fun c4 => ?_) (fun c4 => ?_)
            · refine j_iinc (q := 66) C 4 [(0, .ref (x 22)), (1, .int (iI (a))), (2, .int (iI (p0))), (3, .int (iI (p0 + (lnOf WL wn a)))), (4, .int (iI (i + 1)))] rfl rfl (by decide) d_B_fewestBehind_63 rfl ?_
              refine j_goto C 31 d_B_fewestBehind_66 rfl ?_
              exact ih (i + 1) (by omega) (fun j h1 h2 => by rcases (show j < i ∨ j = i by omega) with h | h; exact i1 j h1 h; rw [h]; omega) (by omega)
            · refine j_iconst (q := 62) C d_B_fewestBehind_61 rfl ?_
              first | (exfalso; omega) | exact j_iret C hr hlk d_B_fewestBehind_62 (congrArg (fun z => some (Value.int (iI z))) (show (fbB BF WP WL wn XP xn a p0) = (-1) from by unfold fbB; rw [ifP_f (fun h => by have := h.2.2 i (by omega) (by omega); omega)])) rfl
      exact lp31 ((lnOf WL wn a).toNat + 1) p0 (by omega) (fun j h1 h2 => by omega) (by omega)
    · refine j_iconst (q := 27) C d_B_fewestBehind_26 rfl ?_
      first | (exfalso; omega) | exact j_iret C hr hlk d_B_fewestBehind_27 (congrArg (fun z => some (Value.int (iI z))) (show (fbB BF WP WL wn XP xn a p0) = (-1) from by unfold fbB; rw [ifP_f (fun h => by have := h.2.1; omega)])) rfl
set_option maxRecDepth 100000 in
set_option maxHeartbeats 4000000 in
theorem c_B_fewestAt {l : Launch} {D : va_G} (kI kZ : ClassId) (x : Nat → Nat) (BF : Nat → Int) (hB : IB BF) (WP WL WC : Nat → Int) (wn wk : Int) (hW : IW WP WL WC wn wk) (XP : Nat → Int) (xn : Int) (hX : IX XP xn) (p0 : Int) (hp : 0 ≤ p0 ∧ p0 ≤ 60) : Dt l D (ty2 kI kZ) y_B_fewestAt w_B_fewestAt { frames := 3, cells := 0, slots := 0, locals := 67 } [.ref (x 22), .int (iI (p0))] (wB kI kZ x BF ++ wW kI kZ x WP WL WC wn wk ++ wX kI kZ x XP xn) (some (.int (iI (mnB (fun w => fbB BF WP WL wn XP xn w p0) wn.toNat)))) (wB kI kZ x BF ++ wW kI kZ x WP WL WC wn wk ++ wX kI kZ x XP xn) := by
  refine Met.toJ (own := R_B) (QD D (some (.int (iI (mnB (fun w => fbB BF WP WL wn XP xn w p0) wn.toNat)))) (wB kI kZ x BF ++ wW kI kZ x WP WL WC wn wk ++ wX kI kZ x XP xn)) mk_B_fewestAt rfl (Nat.le_of_ble_eq_true rfl) ?_
  intro p e s m args below meth c A C hr hlk hnm
  show JJ p l e { frames := 3, cells := 0, slots := 0, locals := 67 } s m args below meth c D A 5 (MQ below (QD D (some (.int (iI (mnB (fun w => fbB BF WP WL wn XP xn w p0) wn.toNat)))) (wB kI kZ x BF ++ wW kI kZ x WP WL WC wn wk ++ wX kI kZ x XP xn) A) args s 0 0 A) 0 0 0 [(0, .ref (x 22)), (1, .int (iI (p0)))] [] (wB kI kZ x BF ++ wW kI kZ x WP WL WC wn wk ++ wX kI kZ x XP xn)
  obtain ⟨hwn, hwk, hWL, hWP, hWC⟩ := id hW
  obtain ⟨hxn, hXP⟩ := id hX
  refine j_iconst (q := 1) C d_B_fewestAt_0 rfl ?_
  refine j_istore_n (q := 2) C [(0, .ref (x 22)), (1, .int (iI (p0))), (2, .int (iI (-1)))] rfl (by decide) d_B_fewestAt_1 rfl ?_
  refine j_iconst (q := 3) C d_B_fewestAt_2 rfl ?_
  refine j_istore_n (q := 4) C [(0, .ref (x 22)), (1, .int (iI (p0))), (2, .int (iI (-1))), (3, .int (iI (0)))] rfl (by decide) d_B_fewestAt_3 rfl ?_
  have lp4 : ∀ (N : Nat) (i t : Int), (0 ≤ i ∧ i ≤ wn) → (t = mnB (fun w => fbB BF WP WL wn XP xn w p0) i.toNat) → (-1 ≤ t ∧ t ≤ 61) → (wn - i).toNat < N → JJ p l e { frames := 3, cells := 0, slots := 0, locals := 67 } s m args below meth c D A 5 (MQ below (QD D (some (.int (iI (mnB (fun w => fbB BF WP WL wn XP xn w p0) wn.toNat)))) (wB kI kZ x BF ++ wW kI kZ x WP WL WC wn wk ++ wX kI kZ x XP xn) A) args s 0 0 A) 0 0 4 [(0, .ref (x 22)), (1, .int (iI (p0))), (2, .int (iI (t))), (3, .int (iI (i)))] [] (wB kI kZ x BF ++ wW kI kZ x WP WL WC wn wk ++ wX kI kZ x XP xn) := by
    intro N
    induction N with
    | zero =>
      intro i t i0 i1 i2 hN
      omega
    | succ N ih =>
      intro i t i0 i1 i2 hN
      refine j_iload_n (q := 5) C 3 rfl d_B_fewestAt_4 rfl ?_
      refine j_aload_n (q := 6) C 0 rfl d_B_fewestAt_5 rfl ?_
      refine j_get (q := 9) C i_B rfl 0 rfl 0 (by decide) rfl rfl fl_B_15 d_B_fewestAt_6 rfl ?_
      refine j_callV (q := 12) (wr := wB kI kZ x BF ++ wX kI kZ x XP xn) C [] [.int (iI (i))] (c_W_size kI kZ x WP WL WC wn wk hW) ml_B_44 mk_W_size in_W_size se_W_size rfl rfl rfl [2, 3, 4, 5] [0, 1, 6, 7] [0, 1, 4, 5, 6, 7, 2, 3] rfl (by decide) rfl (by decide) (by decide) (wB kI kZ x BF ++ wW kI kZ x WP WL WC wn wk ++ wX kI kZ x XP xn) rfl (by decide) rfl rfl rfl (Nat.le_of_ble_eq_true rfl) ⟨Nat.le_of_ble_eq_true rfl, Nat.le_of_ble_eq_true rfl⟩ ⟨Nat.le_of_ble_eq_true rfl, Nat.le_of_ble_eq_true rfl⟩ d_B_fewestAt_9 rfl ?_
      refine j_icmp_ge C 53 15 d_B_fewestAt_12 rfl rfl (by omega) (by omega) (fun c1 => ?_) (fun c1 => ?_)
      · refine j_iload_n (q := 54) C 2 rfl d_B_fewestAt_53 rfl ?_
        exact j_iret C hr hlk d_B_fewestAt_54 (congrArg (fun z => some (Value.int (iI z))) (show (mnB (fun w => fbB BF WP WL wn XP xn w p0) wn.toNat) = (t) from by rw [i1, show wn = i from by omega])) rfl
      · refine j_aload_n (q := 16) C 0 rfl d_B_fewestAt_15 rfl ?_
        refine j_iload_n (q := 17) C 3 rfl d_B_fewestAt_16 rfl ?_
        refine j_iload_n (q := 18) C 1 rfl d_B_fewestAt_17 rfl ?_
        have e18 := fbB_r hB WP WL wn XP xn i p0
        refine j_callV (q := 21) (wr := []) C [.int (iI (i)), .int (iI (p0))] [] (c_B_fewestBehind kI kZ x BF hB WP WL WC wn wk hW XP xn hX i p0 (by omega) (by omega)) ml_B_45 mk_B_fewestBehind in_B_fewestBehind se_B_fewestBehind rfl rfl rfl [0, 1, 2, 3, 4, 5, 6, 7] [] [0, 1, 2, 3, 4, 5, 6, 7] rfl (by decide) rfl (by decide) (by decide) (wB kI kZ x BF ++ wW kI kZ x WP WL WC wn wk ++ wX kI kZ x XP xn) rfl (by decide) rfl rfl rfl (Nat.le_of_ble_eq_true rfl) ⟨Nat.le_of_ble_eq_true rfl, Nat.le_of_ble_eq_true rfl⟩ ⟨Nat.le_of_ble_eq_true rfl, Nat.le_of_ble_eq_true rfl⟩ d_B_fewestAt_18 rfl ?_
        refine j_istore (q := 23) C [(0, .ref (x 22)), (1, .int (iI (p0))), (2, .int (iI (t))), (3, .int (iI (i))), (4, .int (iI (fbB BF WP WL wn XP xn i p0)))] rfl (by decide) d_B_fewestAt_21 rfl ?_
        refine j_iload (q := 25) C 4 rfl d_B_fewestAt_23 rfl ?_
        refine j_iconst (q := 26) C d_B_fewestAt_25 rfl ?_
        refine j_icmp_eq C 47 29 d_B_fewestAt_26 rfl rfl (by omega) (by omega) (fun c2 => ?_) (fun c2 => ?_)
        · refine j_iinc (q := 50) C 3 [(0, .ref (x 22)), (1, .int (iI (p0))), (2, .int (iI (t))), (3, .int (iI (i + 1))), (4, .int (iI (fbB BF WP WL wn XP xn i p0)))] rfl rfl (by decide) d_B_fewestAt_47 rfl ?_
          refine j_goto C 4 d_B_fewestAt_50 rfl ?_
          refine j_lv [0, 1, 2, 3] rfl ?_
          exact ih (i + 1) _ (by omega) (by rw [mnB_s _ i0.1, ← i1]; first | rw [if_neg (by omega)] | rw [if_pos (by omega)]) (by omega) (by omega)
        · refine j_iload_n (q := 30) C 2 rfl d_B_fewestAt_29 rfl ?_
          refine j_iconst (q := 31) C d_B_fewestAt_30 rfl ?_
          refine j_icmp_eq C 42 34 d_B_fewestAt_31 rfl rfl (by omega) (by omega) (fun c3 => ?_) (fun c3 => ?_)
          · refine j_iload (q := 44) C 4 rfl d_B_fewestAt_42 rfl ?_
            refine j_iconst (q := 45) C d_B_fewestAt_44 rfl ?_
            refine j_iadd (q := 46) C d_B_fewestAt_45 rfl ?_
            refine j_istore_n (q := 47) C [(0, .ref (x 22)), (1, .int (iI (p0))), (2, .int (iI ((fbB BF WP WL wn XP xn i p0) + 1))), (3, .int (iI (i))), (4, .int (iI (fbB BF WP WL wn XP xn i p0)))] rfl (by decide) d_B_fewestAt_46 rfl ?_
            refine j_iinc (q := 50) C 3 [(0, .ref (x 22)), (1, .int (iI (p0))), (2, .int (iI ((fbB BF WP WL wn XP xn i p0) + 1))), (3, .int (iI (i + 1))), (4, .int (iI (fbB BF WP WL wn XP xn i p0)))] rfl rfl (by decide) d_B_fewestAt_47 rfl ?_
            refine j_goto C 4 d_B_fewestAt_50 rfl ?_
            refine j_lv [0, 1, 2, 3] rfl ?_
            exact ih (i + 1) _ (by omega) (by rw [mnB_s _ i0.1, ← i1]; first | rw [if_neg (by omega)] | rw [if_pos (by omega)]) (by omega) (by omega)
          · refine j_iload (q := 36) C 4 rfl d_B_fewestAt_34 rfl ?_
            refine j_iconst (q := 37) C d_B_fewestAt_36 rfl ?_
            refine j_iadd (q := 38) C d_B_fewestAt_37 rfl ?_
            refine j_iload_n (q := 39) C 2 rfl d_B_fewestAt_38 rfl ?_
            refine j_icmp_ge C 47 42 d_B_fewestAt_39 rfl rfl (by omega) (by omega) (fun c4 => ?_) (fun c4 => ?_)
            · refine j_iinc (q := 50) C 3 [(0, .ref (x 22)), (1, .int (iI (p0))), (2, .int (iI (t))), (3, .int (iI (i + 1))), (4, .int (iI (fbB BF WP WL wn XP xn i p0)))] rfl rfl (by decide) d_B_fewestAt_47 rfl ?_
              refine j_goto C 4 d_B_fewestAt_50 rfl ?_
              refine j_lv [0, 1, 2, 3] rfl ?_
              exact ih (i + 1) _ (by omega) (by rw [mnB_s _ i0.1, ← i1]; first | rw [if_neg (by omega)] | rw [if_pos (by omega)]) (by omega) (by omega)
            · refine j_iload (q := 44) C 4 rfl d_B_fewestAt_42 rfl ?_
              refine j_iconst (q := 45) C d_B_fewestAt_44 rfl ?_
              refine j_iadd (q := 46) C d_B_fewestAt_45 rfl ?_
              refine j_istore_n (q := 47) C [(0, .ref (x 22)), (1, .int (iI (p0))), (2, .int (iI ((fbB BF WP WL wn XP xn i p0) + 1))), (3, .int (iI (i))), (4, .int (iI (fbB BF WP WL wn XP xn i p0)))] rfl (by decide) d_B_fewestAt_46 rfl ?_
              refine j_iinc (q := 50) C 3 [(0, .ref (x 22)), (1, .int (iI (p0))), (2, .int (iI ((fbB BF WP WL wn XP xn i p0) + 1))), (3, .int (iI (i + 1))), (4, .int (iI (fbB BF WP WL wn XP xn i p0)))] rfl rfl (by decide) d_B_fewestAt_47 rfl ?_
              refine j_goto C 4 d_B_fewestAt_50 rfl ?_
              refine j_lv [0, 1, 2, 3] rfl ?_
              exact ih (i + 1) _ (by omega) (by rw [mnB_s _ i0.1, ← i1]; first | rw [if_neg (by omega)] | rw [if_pos (by omega)]) (by omega) (by omega)
  exact lp4 (wn.toNat + 1) 0 (-1) (by omega) rfl (by omega) (by omega)
noncomputable def lwQ (BF WP WL : Nat → Int) (wn : Int) (XP : Nat → Int) (xn p : Int) : Int := lst (fun w => ¬ fbB BF WP WL wn XP xn w p = -1 ∧ fbB BF WP WL wn XP xn w p + 1 = BF p.toNat) wn
/-- the least word with which a way of the fewest goes on at p; -1 when there is none -/
noncomputable def lwB (BF WP WL : Nat → Int) (wn : Int) (XP : Nat → Int) (xn p : Int) : Int := if lwQ BF WP WL wn XP xn p < wn then lwQ BF WP WL wn XP xn p else -1
theorem lwB_r (BF WP WL : Nat → Int) (wn : Int) (XP : Nat → Int) (xn p : Int) : -1 ≤ lwB BF WP WL wn XP xn p ∧ (lwB BF WP WL wn XP xn p < wn ∨ lwB BF WP WL wn XP xn p = -1) := by
  unfold lwB
  split
  · unfold lwQ at *
    rcases lst_sp (fun w => ¬ fbB BF WP WL wn XP xn w p = -1 ∧ fbB BF WP WL wn XP xn w p + 1 = BF p.toNat) wn with ⟨h1, h2, -, -⟩ | ⟨h1, -⟩ <;> omega
  · omega
theorem lwB_s {BF WP WL : Nat → Int} {wn : Int} {XP : Nat → Int} {xn p : Int} (h : 0 ≤ lwB BF WP WL wn XP xn p) : stB WP WL wn XP xn (lwB BF WP WL wn XP xn p) p ∧ fbB BF WP WL wn XP xn (lwB BF WP WL wn XP xn p) p + 1 = BF p.toNat := by
  unfold lwB at *
  split at h
  · rename_i c
    rw [if_pos c]
    unfold lwQ at *
    rcases lst_sp (fun w => ¬ fbB BF WP WL wn XP xn w p = -1 ∧ fbB BF WP WL wn XP xn w p + 1 = BF p.toNat) wn with ⟨-, -, h3, -⟩ | ⟨h1, -⟩
    · refine ⟨Classical.byContradiction fun hs => h3.1 ?_, h3.2⟩
      exact ifP_f hs
    · omega
  · omega

set_option maxRecDepth 100000 in
set_option maxHeartbeats 4000000 in
theorem c_B_leastWordAt {l : Launch} {D : va_G} (kI kZ : ClassId) (x : Nat → Nat) (BF : Nat → Int) (hB : IB BF) (WP WL WC : Nat → Int) (wn wk : Int) (hW : IW WP WL WC wn wk) (XP : Nat → Int) (xn : Int) (hX : IX XP xn) (p0 : Int) (hp : 0 ≤ p0 ∧ p0 ≤ 60) : Dt l D (ty2 kI kZ) y_B_leastWordAt w_B_leastWordAt { frames := 3, cells := 0, slots := 0, locals := 67 } [.ref (x 22), .int (iI (p0))] (wB kI kZ x BF ++ wW kI kZ x WP WL WC wn wk ++ wX kI kZ x XP xn) (some (.int (iI (lwB BF WP WL wn XP xn p0)))) (wB kI kZ x BF ++ wW kI kZ x WP WL WC wn wk ++ wX kI kZ x XP xn) := by
  refine Met.toJ (own := R_B) (QD D (some (.int (iI (lwB BF WP WL wn XP xn p0)))) (wB kI kZ x BF ++ wW kI kZ x WP WL WC wn wk ++ wX kI kZ x XP xn)) mk_B_leastWordAt rfl (Nat.le_of_ble_eq_true rfl) ?_
  intro p e s m args below meth c A C hr hlk hnm
  show JJ p l e { frames := 3, cells := 0, slots := 0, locals := 67 } s m args below meth c D A 4 (MQ below (QD D (some (.int (iI (lwB BF WP WL wn XP xn p0)))) (wB kI kZ x BF ++ wW kI kZ x WP WL WC wn wk ++ wX kI kZ x XP xn) A) args s 0 0 A) 0 0 0 [(0, .ref (x 22)), (1, .int (iI (p0)))] [] (wB kI kZ x BF ++ wW kI kZ x WP WL WC wn wk ++ wX kI kZ x XP xn)
  obtain ⟨hwn, hwk, hWL, hWP, hWC⟩ := id hW
  obtain ⟨hxn, hXP⟩ := id hX
  refine j_iconst (q := 1) C d_B_leastWordAt_0 rfl ?_
  refine j_istore_n (q := 2) C [(0, .ref (x 22)), (1, .int (iI (p0))), (2, .int (iI (0)))] rfl (by decide) d_B_leastWordAt_1 rfl ?_
  have lp2 : ∀ (N : Nat) (i : Int), (0 ≤ i ∧ i ≤ wn) → (∀ j : Int, 0 ≤ j → j < i → ¬ (¬ fbB BF WP WL wn XP xn j p0 = -1 ∧ fbB BF WP WL wn XP xn j p0 + 1 = BF p0.toNat)) → (wn - i).toNat < N → JJ p l e { frames := 3, cells := 0, slots := 0, locals := 67 } s m args below meth c D A 4 (MQ below (QD D (some (.int (iI (lwB BF WP WL wn XP xn p0)))) (wB kI kZ x BF ++ wW kI kZ x WP WL WC wn wk ++ wX kI kZ x XP xn) A) args s 0 0 A) 0 0 2 [(0, .ref (x 22)), (1, .int (iI (p0))), (2, .int (iI (i)))] [] (wB kI kZ x BF ++ wW kI kZ x WP WL WC wn wk ++ wX kI kZ x XP xn) := by
    intro N
    induction N with
    | zero =>
      intro i i0 i1 hN
      omega
    | succ N ih =>
      intro i i0 i1 hN
      refine j_iload_n (q := 3) C 2 rfl d_B_leastWordAt_2 rfl ?_
      refine j_aload_n (q := 4) C 0 rfl d_B_leastWordAt_3 rfl ?_
      refine j_get (q := 7) C i_B rfl 0 rfl 0 (by decide) rfl rfl fl_B_15 d_B_leastWordAt_4 rfl ?_
      refine j_callV (q := 10) (wr := wB kI kZ x BF ++ wX kI kZ x XP xn) C [] [.int (iI (i))] (c_W_size kI kZ x WP WL WC wn wk hW) ml_B_44 mk_W_size in_W_size se_W_size rfl rfl rfl [2, 3, 4, 5] [0, 1, 6, 7] [0, 1, 4, 5, 6, 7, 2, 3] rfl (by decide) rfl (by decide) (by decide) (wB kI kZ x BF ++ wW kI kZ x WP WL WC wn wk ++ wX kI kZ x XP xn) rfl (by decide) rfl rfl rfl (Nat.le_of_ble_eq_true rfl) ⟨Nat.le_of_ble_eq_true rfl, Nat.le_of_ble_eq_true rfl⟩ ⟨Nat.le_of_ble_eq_true rfl, Nat.le_of_ble_eq_true rfl⟩ d_B_leastWordAt_7 rfl ?_
      refine j_icmp_ge C 45 13 d_B_leastWordAt_10 rfl rfl (by omega) (by omega) (fun c1 => ?_) (fun c1 => ?_)
      · refine j_iconst (q := 46) C d_B_leastWordAt_45 rfl ?_
        exact j_iret C hr hlk d_B_leastWordAt_46 (congrArg (fun z => some (Value.int (iI z))) (show (lwB BF WP WL wn XP xn p0) = (-1) from by have f46 : lwQ BF WP WL wn XP xn p0 = wn := lst_no (fun j h1 h2 => i1 j h1 (by omega)); unfold lwB; rw [f46, if_neg (by omega)])) rfl
      · refine j_aload_n (q := 14) C 0 rfl d_B_leastWordAt_13 rfl ?_
        refine j_iload_n (q := 15) C 2 rfl d_B_leastWordAt_14 rfl ?_
        refine j_iload_n (q := 16) C 1 rfl d_B_leastWordAt_15 rfl ?_
        have e16 := fbB_r hB WP WL wn XP xn i p0
        refine j_callV (q := 19) (wr := []) C [.int (iI (i)), .int (iI (p0))] [] (c_B_fewestBehind kI kZ x BF hB WP WL WC wn wk hW XP xn hX i p0 (by omega) (by omega)) ml_B_45 mk_B_fewestBehind in_B_fewestBehind se_B_fewestBehind rfl rfl rfl [0, 1, 2, 3, 4, 5, 6, 7] [] [0, 1, 2, 3, 4, 5, 6, 7] rfl (by decide) rfl (by decide) (by decide) (wB kI kZ x BF ++ wW kI kZ x WP WL WC wn wk ++ wX kI kZ x XP xn) rfl (by decide) rfl rfl rfl (Nat.le_of_ble_eq_true rfl) ⟨Nat.le_of_ble_eq_true rfl, Nat.le_of_ble_eq_true rfl⟩ ⟨Nat.le_of_ble_eq_true rfl, Nat.le_of_ble_eq_true rfl⟩ d_B_leastWordAt_16 rfl ?_
        refine j_istore_n (q := 20) C [(0, .ref (x 22)), (1, .int (iI (p0))), (2, .int (iI (i))), (3, .int (iI (fbB BF WP WL wn XP xn i p0)))] rfl (by decide) d_B_leastWordAt_19 rfl ?_
        refine j_iload_n (q := 21) C 3 rfl d_B_leastWordAt_20 rfl ?_
        refine j_iconst (q := 22) C d_B_leastWordAt_21 rfl ?_
        refine j_icmp_eq C 39 25 d_B_leastWordAt_22 rfl rfl (by omega) (by omega) (fun c2 => ?_) (fun c2 => ?_)
        · refine j_iinc (q := 42) C 2 [(0, .ref (x 22)), (1, .int (iI (p0))), (2, .int (iI (i + 1))), (3, .int (iI (fbB BF WP WL wn XP xn i p0)))] rfl rfl (by decide) d_B_leastWordAt_39 rfl ?_
          refine j_goto C 2 d_B_leastWordAt_42 rfl ?_
          refine j_lv [0, 1, 2] rfl ?_
          exact ih (i + 1) (by omega) (fun j h1 h2 => by rcases (show j < i ∨ j = i by omega) with h | h; exact i1 j h1 h; rw [h]; omega) (by omega)
        · refine j_iload_n (q := 26) C 3 rfl d_B_leastWordAt_25 rfl ?_
          refine j_iconst (q := 27) C d_B_leastWordAt_26 rfl ?_
          refine j_iadd (q := 28) C d_B_leastWordAt_27 rfl ?_
          refine j_aload_n (q := 29) C 0 rfl d_B_leastWordAt_28 rfl ?_
          refine j_get (q := 32) C i_B rfl 0 rfl 2 (by decide) rfl rfl fl_B_9 d_B_leastWordAt_29 rfl ?_
          refine j_iload_n (q := 33) C 1 rfl d_B_leastWordAt_32 rfl ?_
          refine j_iald (q := 34) C 1 0 rfl rfl (by decide) (by omega) d_B_leastWordAt_33 rfl ?_
          have h33 := hB p0.toNat
          refine j_icmp_ne C 39 37 d_B_leastWordAt_34 rfl rfl (by omega) (by omega) (fun c3 => ?_) (fun c3 => ?_)
          · refine j_iinc (q := 42) C 2 [(0, .ref (x 22)), (1, .int (iI (p0))), (2, .int (iI (i + 1))), (3, .int (iI (fbB BF WP WL wn XP xn i p0)))] rfl rfl (by decide) d_B_leastWordAt_39 rfl ?_
            refine j_goto C 2 d_B_leastWordAt_42 rfl ?_
            refine j_lv [0, 1, 2] rfl ?_
            exact ih (i + 1) (by omega) (fun j h1 h2 => by rcases (show j < i ∨ j = i by omega) with h | h; exact i1 j h1 h; rw [h]; omega) (by omega)
          · refine j_iload_n (q := 38) C 2 rfl d_B_leastWordAt_37 rfl ?_
            first | (exfalso; omega) | exact j_iret C hr hlk d_B_leastWordAt_38 (congrArg (fun z => some (Value.int (iI z))) (show (lwB BF WP WL wn XP xn p0) = (i) from by have f38 : lwQ BF WP WL wn XP xn p0 = i := lst_at i0.1 (by omega) ⟨by omega, by omega⟩ i1; unfold lwB; rw [f38, if_pos (by omega)])) rfl
  exact lp2 (wn.toNat + 1) 0 (by omega) (fun j h1 h2 => by omega) (by omega)
/-- the row of the fewest words, m places done from the end on -/
noncomputable def fwA (BF WP WL : Nat → Int) (wn : Int) (XP : Nat → Int) (xn : Int) : Nat → Nat → Int
  | 0 => uI BF xn.toNat 0
  | m + 1 => uI (fwA BF WP WL wn XP xn m) (xn - 1 - m).toNat (mnB (fun w => fbB (fwA BF WP WL wn XP xn m) WP WL wn XP xn w (xn - 1 - m)) wn.toNat)
theorem fbB_le {BF WP WL : Nat → Int} {wn : Int} {XP : Nat → Int} {xn p : Int} (hp : 0 ≤ p) (hL1 : ∀ a, 0 ≤ a → a < wn → 1 ≤ lnOf WL wn a) (hx : ∀ j : Nat, p < j → (j : Int) ≤ xn → -1 ≤ BF j ∧ BF j ≤ xn - j) (hpx : p < xn) (w : Int) (hw : 0 ≤ w ∧ w < wn) : -1 ≤ fbB BF WP WL wn XP xn w p ∧ fbB BF WP WL wn XP xn w p ≤ xn - p - 1 := by
  have h1 := hL1 w hw.1 hw.2
  by_cases c : stB WP WL wn XP xn w p
  · unfold fbB; rw [ifP_t c]
    have := hx (p + lnOf WL wn w).toNat (by omega) (by have := c.2.1; omega)
    omega
  · unfold fbB; rw [ifP_f c]; omega
theorem mnB_le {g : Int → Int} {b : Int} (hb : -1 ≤ b) {n : Nat} (h : ∀ i : Int, 0 ≤ i → i < n → -1 ≤ g i ∧ g i ≤ b) : -1 ≤ mnB g n ∧ mnB g n ≤ b + 1 := by
  induction n with
  | zero => unfold mnB; omega
  | succ n ih =>
    have h1 := h n (by omega) (by omega)
    have h2 := ih (fun i h1 h2 => h i h1 (by omega))
    unfold mnB
    split <;> omega
theorem fwA_r {BF WP WL : Nat → Int} {wn : Int} {XP : Nat → Int} {xn : Int} (hB : IB BF) (hwn : 0 ≤ wn) (hxn : 0 ≤ xn ∧ xn ≤ 60) (hL1 : ∀ a, 0 ≤ a → a < wn → 1 ≤ lnOf WL wn a) (m : Nat) : (m : Int) ≤ xn → IB (fwA BF WP WL wn XP xn m) ∧ ∀ j : Nat, xn - m ≤ j → (j : Int) ≤ xn → -1 ≤ fwA BF WP WL wn XP xn m j ∧ fwA BF WP WL wn XP xn m j ≤ xn - j := by
  induction m with
  | zero =>
    intro _
    refine ⟨fun j => ?_, fun j h1 h2 => ?_⟩
    · have := hB j
      unfold fwA uI
      split <;> omega
    · unfold fwA uI
      rw [if_pos (by omega)]
      omega
  | succ m ih =>
    intro hm
    obtain ⟨i1, i2⟩ := ih (by omega)
    have e := mnB_le (g := fun w => fbB (fwA BF WP WL wn XP xn m) WP WL wn XP xn w (xn - 1 - m)) (b := xn - (xn - 1 - m) - 1) (by omega) (n := wn.toNat) (fun i h1 h2 => fbB_le (by omega) hL1 (fun j h3 h4 => i2 j (by omega) h4) (by omega) i (by omega))
    refine ⟨fun j => ?_, fun j h1 h2 => ?_⟩
    · have := i1 j
      unfold fwA uI
      split <;> omega
    · unfold fwA uI
      split
      · omega
      · exact i2 j (by omega) h2
/-- the row of the fewest words, as breaks() leaves it -/
noncomputable def fwZ (BF WP WL : Nat → Int) (wn : Int) (XP : Nat → Int) (xn : Int) : Nat → Int := fwA BF WP WL wn XP xn xn.toNat
theorem fwZ_r {BF WP WL : Nat → Int} {wn : Int} {XP : Nat → Int} {xn : Int} (hB : IB BF) (hwn : 0 ≤ wn) (hxn : 0 ≤ xn ∧ xn ≤ 60) (hL1 : ∀ a, 0 ≤ a → a < wn → 1 ≤ lnOf WL wn a) : IB (fwZ BF WP WL wn XP xn) := (fwA_r hB hwn hxn hL1 xn.toNat (by omega)).1

set_option maxRecDepth 100000 in
set_option maxHeartbeats 4000000 in
theorem c_B_fewestWords {l : Launch} {D : va_G} (kI kZ : ClassId) (x : Nat → Nat) (BF : Nat → Int) (hB : IB BF) (WP WL WC : Nat → Int) (wn wk : Int) (hW : IW WP WL WC wn wk) (XP : Nat → Int) (xn : Int) (hX : IX XP xn) (hL1 : ∀ a, 0 ≤ a → a < wn → 1 ≤ lnOf WL wn a) : Dt l D (ty2 kI kZ) y_B_fewestWords w_B_fewestWords { frames := 4, cells := 0, slots := 0, locals := 91 } [.ref (x 22)] (wB kI kZ x BF ++ wW kI kZ x WP WL WC wn wk ++ wX kI kZ x XP xn) (some (.int (iI (fwZ BF WP WL wn XP xn (0 : Int).toNat)))) (wB kI kZ x (fwZ BF WP WL wn XP xn) ++ wW kI kZ x WP WL WC wn wk ++ wX kI kZ x XP xn) := by
  refine Met.toJ (own := R_B) (QD D (some (.int (iI (fwZ BF WP WL wn XP xn (0 : Int).toNat)))) (wB kI kZ x (fwZ BF WP WL wn XP xn) ++ wW kI kZ x WP WL WC wn wk ++ wX kI kZ x XP xn)) mk_B_fewestWords rfl (Nat.le_of_ble_eq_true rfl) ?_
  intro p e s m args below meth c A C hr hlk hnm
  show JJ p l e { frames := 4, cells := 0, slots := 0, locals := 91 } s m args below meth c D A 3 (MQ below (QD D (some (.int (iI (fwZ BF WP WL wn XP xn (0 : Int).toNat)))) (wB kI kZ x (fwZ BF WP WL wn XP xn) ++ wW kI kZ x WP WL WC wn wk ++ wX kI kZ x XP xn) A) args s 0 0 A) 0 0 0 [(0, .ref (x 22))] [] (wB kI kZ x BF ++ wW kI kZ x WP WL WC wn wk ++ wX kI kZ x XP xn)
  obtain ⟨hwn, hwk, hWL, hWP, hWC⟩ := id hW
  obtain ⟨hxn, hXP⟩ := id hX
  refine j_aload_n (q := 1) C 0 rfl d_B_fewestWords_0 rfl ?_
  refine j_get (q := 4) C i_B rfl 0 rfl 1 (by decide) rfl rfl fl_B_19 d_B_fewestWords_1 rfl ?_
  refine j_callV (q := 7) (wr := wB kI kZ x BF ++ wW kI kZ x WP WL WC wn wk) C [] [] (c_X_size kI kZ x XP xn hX) ml_B_23 mk_X_size in_X_size se_X_size rfl rfl rfl [6, 7] [0, 1, 2, 3, 4, 5] [0, 1, 2, 3, 4, 5, 6, 7] rfl (by decide) rfl (by decide) (by decide) (wB kI kZ x BF ++ wW kI kZ x WP WL WC wn wk ++ wX kI kZ x XP xn) rfl (by decide) rfl rfl rfl (Nat.le_of_ble_eq_true rfl) ⟨Nat.le_of_ble_eq_true rfl, Nat.le_of_ble_eq_true rfl⟩ ⟨Nat.le_of_ble_eq_true rfl, Nat.le_of_ble_eq_true rfl⟩ d_B_fewestWords_4 rfl ?_
  refine j_istore_n (q := 8) C [(0, .ref (x 22)), (1, .int (iI (xn)))] rfl (by decide) d_B_fewestWords_7 rfl ?_
  refine j_aload_n (q := 9) C 0 rfl d_B_fewestWords_8 rfl ?_
  refine j_get (q := 12) C i_B rfl 0 rfl 2 (by decide) rfl rfl fl_B_9 d_B_fewestWords_9 rfl ?_
  refine j_iload_n (q := 13) C 1 rfl d_B_fewestWords_12 rfl ?_
  refine j_iconst (q := 14) C d_B_fewestWords_13 rfl ?_
  refine j_iast (q := 15) C 1 0 rfl rfl (by decide) (by omega) (wB kI kZ x (uI BF xn.toNat 0) ++ wW kI kZ x WP WL WC wn wk ++ wX kI kZ x XP xn) rfl d_B_fewestWords_14 rfl ?_
  refine j_iload_n (q := 16) C 1 rfl d_B_fewestWords_15 rfl ?_
  refine j_iconst (q := 17) C d_B_fewestWords_16 rfl ?_
  refine j_isub (q := 18) C d_B_fewestWords_17 rfl ?_
  refine j_istore_n (q := 19) C [(0, .ref (x 22)), (1, .int (iI (xn))), (2, .int (iI (xn - 1)))] rfl (by decide) d_B_fewestWords_18 rfl ?_
  have lp19 : ∀ (N : Nat) (mm : Nat), ((mm : Int) ≤ xn) → (xn - mm).toNat < N → JJ p l e { frames := 4, cells := 0, slots := 0, locals := 91 } s m args below meth c D A 3 (MQ below (QD D (some (.int (iI (fwZ BF WP WL wn XP xn (0 : Int).toNat)))) (wB kI kZ x (fwZ BF WP WL wn XP xn) ++ wW kI kZ x WP WL WC wn wk ++ wX kI kZ x XP xn) A) args s 0 0 A) 0 0 19 [(0, .ref (x 22)), (1, .int (iI (xn))), (2, .int (iI (xn - 1 - mm)))] [] (wB kI kZ x (fwA BF WP WL wn XP xn mm) ++ wW kI kZ x WP WL WC wn wk ++ wX kI kZ x XP xn) := by
    intro N
    induction N with
    | zero =>
      intro mm i0 hN
      omega
    | succ N ih =>
      intro mm i0 hN
      have b0 := (fwA_r (WP := WP) (XP := XP) hB hwn.1 hxn hL1 mm i0).1
      have b1 := b0 (0 : Int).toNat
      refine j_iload_n (q := 20) C 2 rfl d_B_fewestWords_19 rfl ?_
      refine j_if_lt C 40 23 d_B_fewestWords_20 rfl rfl (by omega) (fun c1 => ?_) (fun c1 => ?_)
      · refine j_aload_n (q := 41) C 0 rfl d_B_fewestWords_40 rfl ?_
        refine j_get (q := 44) C i_B rfl 0 rfl 2 (by decide) rfl rfl fl_B_9 d_B_fewestWords_41 rfl ?_
        refine j_iconst (q := 45) C d_B_fewestWords_44 rfl ?_
        refine j_iald (q := 46) C 1 0 rfl rfl (by decide) (by omega) d_B_fewestWords_45 rfl ?_
        exact j_iret C hr hlk d_B_fewestWords_46 (congrArg (fun z => some (Value.int (iI z))) (show (fwZ BF WP WL wn XP xn (0 : Int).toNat) = ((fwA BF WP WL wn XP xn mm) (0 : Int).toNat) from by unfold fwZ; rw [show xn.toNat = mm from by omega])) (by unfold fwZ; rw [show xn.toNat = mm from by omega])
      · refine j_aload_n (q := 24) C 0 rfl d_B_fewestWords_23 rfl ?_
        refine j_get (q := 27) C i_B rfl 0 rfl 2 (by decide) rfl rfl fl_B_9 d_B_fewestWords_24 rfl ?_
        refine j_iload_n (q := 28) C 2 rfl d_B_fewestWords_27 rfl ?_
        refine j_aload_n (q := 29) C 0 rfl d_B_fewestWords_28 rfl ?_
        refine j_iload_n (q := 30) C 2 rfl d_B_fewestWords_29 rfl ?_
        have e30 := mnB_r (b := 60) (by omega) (fun j => fbB_r b0 WP WL wn XP xn j (xn - 1 - mm)) wn.toNat
        refine j_callV (q := 33) (wr := []) C [.int (iI (xn - 1 - mm))] [.int (iI (xn - 1 - mm)), .ref (x 23)] (c_B_fewestAt kI kZ x (fwA BF WP WL wn XP xn mm) b0 WP WL WC wn wk hW XP xn hX (xn - 1 - mm) (by omega)) ml_B_29 mk_B_fewestAt in_B_fewestAt se_B_fewestAt rfl rfl rfl [0, 1, 2, 3, 4, 5, 6, 7] [] [0, 1, 2, 3, 4, 5, 6, 7] rfl (by decide) rfl (by decide) (by decide) (wB kI kZ x (fwA BF WP WL wn XP xn mm) ++ wW kI kZ x WP WL WC wn wk ++ wX kI kZ x XP xn) rfl (by decide) rfl rfl rfl (Nat.le_of_ble_eq_true rfl) ⟨Nat.le_of_ble_eq_true rfl, Nat.le_of_ble_eq_true rfl⟩ ⟨Nat.le_of_ble_eq_true rfl, Nat.le_of_ble_eq_true rfl⟩ d_B_fewestWords_30 rfl ?_
        refine j_iast (q := 34) C 1 0 rfl rfl (by decide) (by omega) (wB kI kZ x (uI (fwA BF WP WL wn XP xn mm) (xn - 1 - mm).toNat (mnB (fun w => fbB (fwA BF WP WL wn XP xn mm) WP WL wn XP xn w (xn - 1 - mm)) wn.toNat)) ++ wW kI kZ x WP WL WC wn wk ++ wX kI kZ x XP xn) rfl d_B_fewestWords_33 rfl ?_
        refine j_iinc (q := 37) C 2 [(0, .ref (x 22)), (1, .int (iI (xn))), (2, .int (iI ((xn - 1 - mm) + (-1))))] rfl rfl (by decide) d_B_fewestWords_34 rfl ?_
        refine j_goto C 19 d_B_fewestWords_37 rfl ?_
        rw [show xn - 1 - (mm : Int) + -1 = xn - 1 - ((mm + 1 : Nat) : Int) from by omega]
        exact ih (mm + 1) (by omega) (by omega)
  have z0 : (xn - 1 : Int) = xn - 1 - ((0 : Nat) : Int) := by omega
  rw [z0]
  exact lp19 (xn.toNat + 1) 0 (by omega) (by omega)
/-- where the i-th word begins -/
noncomputable def poB (BF WP WL : Nat → Int) (wn : Int) (XP : Nat → Int) (xn : Int) : Nat → Int
  | 0 => 0
  | i + 1 => poB BF WP WL wn XP xn i + lnOf WL wn (lwB BF WP WL wn XP xn (poB BF WP WL wn XP xn i))
theorem poB_s (BF WP WL : Nat → Int) (wn : Int) (XP : Nat → Int) (xn : Int) {i : Int} (h : 0 ≤ i) : poB BF WP WL wn XP xn (i + 1).toNat = poB BF WP WL wn XP xn i.toNat + lnOf WL wn (lwB BF WP WL wn XP xn (poB BF WP WL wn XP xn i.toNat)) := by
  obtain ⟨n, rfl⟩ := Int.eq_ofNat_of_zero_le h
  rfl
theorem poB_r {WP WL WC : Nat → Int} {wn wk : Int} (hW : IW WP WL WC wn wk) (BF XP : Nat → Int) {xn : Int} (hxn : 0 ≤ xn ∧ xn ≤ 60) (i : Nat) : 0 ≤ poB BF WP WL wn XP xn i ∧ poB BF WP WL wn XP xn i ≤ xn := by
  induction i with
  | zero => unfold poB; omega
  | succ i ih =>
    have h1 := lnOf_r hW (lwB BF WP WL wn XP xn (poB BF WP WL wn XP xn i))
    have h2 := lwB_r BF WP WL wn XP xn (poB BF WP WL wn XP xn i)
    unfold poB
    by_cases c : 0 ≤ lwB BF WP WL wn XP xn (poB BF WP WL wn XP xn i)
    · have := (lwB_s c).1.2.1
      omega
    · have : lnOf WL wn (lwB BF WP WL wn XP xn (poB BF WP WL wn XP xn i)) = 0 := by unfold lnOf; rw [if_neg (by omega)]
      omega
noncomputable def wdB (BF WP WL : Nat → Int) (wn : Int) (XP : Nat → Int) (xn k : Int) : Int := if 0 ≤ k ∧ k < fwZ BF WP WL wn XP xn (0 : Int).toNat then lwB (fwZ BF WP WL wn XP xn) WP WL wn XP xn (poB (fwZ BF WP WL wn XP xn) WP WL wn XP xn k.toNat) else -1

set_option maxRecDepth 100000 in
set_option maxHeartbeats 4000000 in
theorem c_B_wordOf {l : Launch} {D : va_G} (kI kZ : ClassId) (x : Nat → Nat) (BF : Nat → Int) (hB : IB BF) (WP WL WC : Nat → Int) (wn wk : Int) (hW : IW WP WL WC wn wk) (XP : Nat → Int) (xn : Int) (hX : IX XP xn) (hL1 : ∀ a, 0 ≤ a → a < wn → 1 ≤ lnOf WL wn a) (k : Int) (hk : (-2147483648 ≤ k ∧ k < 2147483648)) : Dt l D (ty2 kI kZ) y_B_wordOf w_B_wordOf { frames := 5, cells := 0, slots := 0, locals := 113 } [.ref (x 22), .int (iI (k))] (wB kI kZ x BF ++ wW kI kZ x WP WL WC wn wk ++ wX kI kZ x XP xn) (some (.int (iI (wdB BF WP WL wn XP xn k)))) (wB kI kZ x (if k < 0 then BF else fwZ BF WP WL wn XP xn) ++ wW kI kZ x WP WL WC wn wk ++ wX kI kZ x XP xn) := by
  refine Met.toJ (own := R_B) (QD D (some (.int (iI (wdB BF WP WL wn XP xn k)))) (wB kI kZ x (if k < 0 then BF else fwZ BF WP WL wn XP xn) ++ wW kI kZ x WP WL WC wn wk ++ wX kI kZ x XP xn)) mk_B_wordOf rfl (Nat.le_of_ble_eq_true rfl) ?_
  intro p e s m args below meth c A C hr hlk hnm
  show JJ p l e { frames := 5, cells := 0, slots := 0, locals := 113 } s m args below meth c D A 4 (MQ below (QD D (some (.int (iI (wdB BF WP WL wn XP xn k)))) (wB kI kZ x (if k < 0 then BF else fwZ BF WP WL wn XP xn) ++ wW kI kZ x WP WL WC wn wk ++ wX kI kZ x XP xn) A) args s 0 0 A) 0 0 0 [(0, .ref (x 22)), (1, .int (iI (k)))] [] (wB kI kZ x BF ++ wW kI kZ x WP WL WC wn wk ++ wX kI kZ x XP xn)
  obtain ⟨hwn, hwk, hWL, hWP, hWC⟩ := id hW
  obtain ⟨hxn, hXP⟩ := id hX
  refine j_iload_n (q := 1) C 1 rfl d_B_wordOf_0 rfl ?_
  refine j_if_lt C 12 4 d_B_wordOf_1 rfl rfl (by omega) (fun c1 => ?_) (fun c1 => ?_)
  · refine j_iconst (q := 13) C d_B_wordOf_12 rfl ?_
    exact j_iret C hr hlk d_B_wordOf_13 (congrArg (fun z => some (Value.int (iI z))) (show (wdB BF WP WL wn XP xn k) = (-1) from by unfold wdB; rw [if_neg (by omega)])) (by repeat (first | rfl | (rw [if_pos (by omega)]) | (rw [if_neg (by omega)])))
  · refine j_iload_n (q := 5) C 1 rfl d_B_wordOf_4 rfl ?_
    refine j_aload_n (q := 6) C 0 rfl d_B_wordOf_5 rfl ?_
    have b6 := fwZ_r (XP := XP) (WP := WP) hB hwn.1 hxn hL1
    have e6 := b6 (0 : Int).toNat
    refine j_callV (q := 9) (wr := []) C [] [.int (iI (k))] (c_B_fewestWords kI kZ x BF hB WP WL WC wn wk hW XP xn hX hL1) ml_B_33 mk_B_fewestWords in_B_fewestWords se_B_fewestWords rfl rfl rfl [0, 1, 2, 3, 4, 5, 6, 7] [] [0, 1, 2, 3, 4, 5, 6, 7] rfl (by decide) rfl (by decide) (by decide) (wB kI kZ x (fwZ BF WP WL wn XP xn) ++ wW kI kZ x WP WL WC wn wk ++ wX kI kZ x XP xn) rfl (by decide) rfl rfl rfl (Nat.le_of_ble_eq_true rfl) ⟨Nat.le_of_ble_eq_true rfl, Nat.le_of_ble_eq_true rfl⟩ ⟨Nat.le_of_ble_eq_true rfl, Nat.le_of_ble_eq_true rfl⟩ d_B_wordOf_6 rfl ?_
    refine j_icmp_lt C 14 12 d_B_wordOf_9 rfl rfl (by omega) (by omega) (fun c2 => ?_) (fun c2 => ?_)
    · refine j_iconst (q := 15) C d_B_wordOf_14 rfl ?_
      refine j_istore_n (q := 16) C [(0, .ref (x 22)), (1, .int (iI (k))), (2, .int (iI (0)))] rfl (by decide) d_B_wordOf_15 rfl ?_
      refine j_iconst (q := 17) C d_B_wordOf_16 rfl ?_
      refine j_istore_n (q := 18) C [(0, .ref (x 22)), (1, .int (iI (k))), (2, .int (iI (0))), (3, .int (iI (0)))] rfl (by decide) d_B_wordOf_17 rfl ?_
      have lp18 : ∀ (N : Nat) (i p0 : Int), (0 ≤ i ∧ i ≤ k) → (p0 = poB (fwZ BF WP WL wn XP xn) WP WL wn XP xn i.toNat) → (0 ≤ p0 ∧ p0 ≤ 60) → (k - i).toNat < N → JJ p l e { frames := 5, cells := 0, slots := 0, locals := 113 } s m args below meth c D A 4 (MQ below (QD D (some (.int (iI (wdB BF WP WL wn XP xn k)))) (wB kI kZ x (if k < 0 then BF else fwZ BF WP WL wn XP xn) ++ wW kI kZ x WP WL WC wn wk ++ wX kI kZ x XP xn) A) args s 0 0 A) 0 0 18 [(0, .ref (x 22)), (1, .int (iI (k))), (2, .int (iI (p0))), (3, .int (iI (i)))] [] (wB kI kZ x (fwZ BF WP WL wn XP xn) ++ wW kI kZ x WP WL WC wn wk ++ wX kI kZ x XP xn) := by
        intro N
        induction N with
        | zero =>
          intro i p0 i0 i1 i2 hN
          omega
        | succ N ih =>
          intro i p0 i0 i1 i2 hN
          refine j_iload_n (q := 19) C 3 rfl d_B_wordOf_18 rfl ?_
          refine j_iload_n (q := 20) C 1 rfl d_B_wordOf_19 rfl ?_
          refine j_icmp_ge C 44 23 d_B_wordOf_20 rfl rfl (by omega) (by omega) (fun c3 => ?_) (fun c3 => ?_)
          · refine j_aload_n (q := 45) C 0 rfl d_B_wordOf_44 rfl ?_
            refine j_iload_n (q := 46) C 2 rfl d_B_wordOf_45 rfl ?_
            have e46 := lwB_r (fwZ BF WP WL wn XP xn) WP WL wn XP xn p0
            refine j_callV (q := 49) (wr := []) C [.int (iI (p0))] [] (c_B_leastWordAt kI kZ x (fwZ BF WP WL wn XP xn) b6 WP WL WC wn wk hW XP xn hX p0 (by omega)) ml_B_36 mk_B_leastWordAt in_B_leastWordAt se_B_leastWordAt rfl rfl rfl [0, 1, 2, 3, 4, 5, 6, 7] [] [0, 1, 2, 3, 4, 5, 6, 7] rfl (by decide) rfl (by decide) (by decide) (wB kI kZ x (fwZ BF WP WL wn XP xn) ++ wW kI kZ x WP WL WC wn wk ++ wX kI kZ x XP xn) rfl (by decide) rfl rfl rfl (Nat.le_of_ble_eq_true rfl) ⟨Nat.le_of_ble_eq_true rfl, Nat.le_of_ble_eq_true rfl⟩ ⟨Nat.le_of_ble_eq_true rfl, Nat.le_of_ble_eq_true rfl⟩ d_B_wordOf_46 rfl ?_
            first | (exfalso; omega) | exact j_iret C hr hlk d_B_wordOf_49 (congrArg (fun z => some (Value.int (iI z))) (show (wdB BF WP WL wn XP xn k) = (lwB (fwZ BF WP WL wn XP xn) WP WL wn XP xn p0) from by unfold wdB; rw [if_pos (by omega), i1, show k = i from by omega])) (by repeat (first | rfl | (rw [if_pos (by omega)]) | (rw [if_neg (by omega)])))
          · refine j_iload_n (q := 24) C 2 rfl d_B_wordOf_23 rfl ?_
            refine j_aload_n (q := 25) C 0 rfl d_B_wordOf_24 rfl ?_
            refine j_get (q := 28) C i_B rfl 0 rfl 0 (by decide) rfl rfl fl_B_15 d_B_wordOf_25 rfl ?_
            refine j_aload_n (q := 29) C 0 rfl d_B_wordOf_28 rfl ?_
            refine j_iload_n (q := 30) C 2 rfl d_B_wordOf_29 rfl ?_
            have e30 := lwB_r (fwZ BF WP WL wn XP xn) WP WL wn XP xn p0
            refine j_callV (q := 33) (wr := []) C [.int (iI (p0))] [.ref (x 1), .int (iI (p0))] (c_B_leastWordAt kI kZ x (fwZ BF WP WL wn XP xn) b6 WP WL WC wn wk hW XP xn hX p0 (by omega)) ml_B_36 mk_B_leastWordAt in_B_leastWordAt se_B_leastWordAt rfl rfl rfl [0, 1, 2, 3, 4, 5, 6, 7] [] [0, 1, 2, 3, 4, 5, 6, 7] rfl (by decide) rfl (by decide) (by decide) (wB kI kZ x (fwZ BF WP WL wn XP xn) ++ wW kI kZ x WP WL WC wn wk ++ wX kI kZ x XP xn) rfl (by decide) rfl rfl rfl (Nat.le_of_ble_eq_true rfl) ⟨Nat.le_of_ble_eq_true rfl, Nat.le_of_ble_eq_true rfl⟩ ⟨Nat.le_of_ble_eq_true rfl, Nat.le_of_ble_eq_true rfl⟩ d_B_wordOf_30 rfl ?_
            have e33 := lnOf_r hW (lwB (fwZ BF WP WL wn XP xn) WP WL wn XP xn p0)
            refine j_callV (q := 36) (wr := wB kI kZ x (fwZ BF WP WL wn XP xn) ++ wX kI kZ x XP xn) C [.int (iI (lwB (fwZ BF WP WL wn XP xn) WP WL wn XP xn p0))] [.int (iI (p0))] (c_W_lengthOf kI kZ x WP WL WC wn wk hW (lwB (fwZ BF WP WL wn XP xn) WP WL wn XP xn p0) (by omega)) ml_B_39 mk_W_lengthOf in_W_lengthOf se_W_lengthOf rfl rfl rfl [2, 3, 4, 5] [0, 1, 6, 7] [0, 1, 4, 5, 6, 7, 2, 3] rfl (by decide) rfl (by decide) (by decide) (wB kI kZ x (fwZ BF WP WL wn XP xn) ++ wW kI kZ x WP WL WC wn wk ++ wX kI kZ x XP xn) rfl (by decide) rfl rfl rfl (Nat.le_of_ble_eq_true rfl) ⟨Nat.le_of_ble_eq_true rfl, Nat.le_of_ble_eq_true rfl⟩ ⟨Nat.le_of_ble_eq_true rfl, Nat.le_of_ble_eq_true rfl⟩ d_B_wordOf_33 rfl ?_
            refine j_iadd (q := 37) C d_B_wordOf_36 rfl ?_
            refine j_istore_n (q := 38) C [(0, .ref (x 22)), (1, .int (iI (k))), (2, .int (iI (p0 + (lnOf WL wn (lwB (fwZ BF WP WL wn XP xn) WP WL wn XP xn p0))))), (3, .int (iI (i)))] rfl (by decide) d_B_wordOf_37 rfl ?_
            refine j_iinc (q := 41) C 3 [(0, .ref (x 22)), (1, .int (iI (k))), (2, .int (iI (p0 + (lnOf WL wn (lwB (fwZ BF WP WL wn XP xn) WP WL wn XP xn p0))))), (3, .int (iI (i + 1)))] rfl rfl (by decide) d_B_wordOf_38 rfl ?_
            refine j_goto C 18 d_B_wordOf_41 rfl ?_
            have q0 := poB_r hW (fwZ BF WP WL wn XP xn) XP hxn (i + 1).toNat
            have q1 := poB_s (fwZ BF WP WL wn XP xn) WP WL wn XP xn i0.1
            rw [← i1] at q1
            exact ih (i + 1) _ (by omega) q1.symm (by omega) (by omega)
      exact lp18 (k.toNat + 1) 0 0 (by omega) rfl (by omega) (by omega)
    · refine j_iconst (q := 13) C d_B_wordOf_12 rfl ?_
      first | (exfalso; omega) | exact j_iret C hr hlk d_B_wordOf_13 (congrArg (fun z => some (Value.int (iI z))) (show (wdB BF WP WL wn XP xn k) = (-1) from by unfold wdB; rw [if_neg (by omega)])) (by repeat (first | rfl | (rw [if_pos (by omega)]) | (rw [if_neg (by omega)])))
end
section
set_option maxRecDepth 100000 in
set_option maxHeartbeats 4000000 in
theorem c_C_unit {l : Launch} {D : va_G} (kI kZ : ClassId) (x : Nat → Nat) (WP WL WC : Nat → Int) (wn wk : Int) (hW : IW WP WL WC wn wk) (a : Int) (ha : (-2147483648 ≤ a ∧ a < 2147483648)) : Dt l D (ty2 kI kZ) y_C_unit w_C_unit { frames := 2, cells := 0, slots := 0, locals := 41 } [.ref (x 0), .int (iI (a))] (wC kI kZ x ++ wW kI kZ x WP WL WC wn wk) (some (.int (iI (if (0 ≤ (plOf a) ∧ (plOf a) < 26) ∧ wk < 8 then 1 else 0)))) (wC kI kZ x ++ wW kI kZ x WP WL (if (0 ≤ (plOf a) ∧ (plOf a) < 26) ∧ wk < 8 then uI WC wk.toNat (plOf a) else WC) wn (if (0 ≤ (plOf a) ∧ (plOf a) < 26) ∧ wk < 8 then wk + 1 else wk)) := by
  refine Met.toJ (own := R_C) (QD D (some (.int (iI (if (0 ≤ (plOf a) ∧ (plOf a) < 26) ∧ wk < 8 then 1 else 0)))) (wC kI kZ x ++ wW kI kZ x WP WL (if (0 ≤ (plOf a) ∧ (plOf a) < 26) ∧ wk < 8 then uI WC wk.toNat (plOf a) else WC) wn (if (0 ≤ (plOf a) ∧ (plOf a) < 26) ∧ wk < 8 then wk + 1 else wk))) mk_C_unit rfl (Nat.le_of_ble_eq_true rfl) ?_
  intro p e s m args below meth c A C hr hlk hnm
  show JJ p l e { frames := 2, cells := 0, slots := 0, locals := 41 } s m args below meth c D A 2 (MQ below (QD D (some (.int (iI (if (0 ≤ (plOf a) ∧ (plOf a) < 26) ∧ wk < 8 then 1 else 0)))) (wC kI kZ x ++ wW kI kZ x WP WL (if (0 ≤ (plOf a) ∧ (plOf a) < 26) ∧ wk < 8 then uI WC wk.toNat (plOf a) else WC) wn (if (0 ≤ (plOf a) ∧ (plOf a) < 26) ∧ wk < 8 then wk + 1 else wk)) A) args s 0 0 A) 0 0 0 [(0, .ref (x 0)), (1, .int (iI (a)))] [] (wC kI kZ x ++ wW kI kZ x WP WL WC wn wk)
  obtain ⟨hwn, hwk, hWL, hWP, hWC⟩ := id hW
  refine j_aload_n (q := 1) C 0 rfl d_C_unit_0 rfl ?_
  refine j_get (q := 4) C i_C rfl 0 rfl 0 (by decide) rfl rfl fl_C_12 d_C_unit_1 rfl ?_
  refine j_iload_n (q := 5) C 1 rfl d_C_unit_4 rfl ?_
  have e5 := plOf_r a
  refine j_callS (q := 8) (wr := wC kI kZ x ++ wW kI kZ x WP WL WC wn wk) C [.int (iI (a))] [.ref (x 1)] (c_C_placeOf kI kZ x a (by omega)) ml_C_62 mk_C_placeOf st_C_placeOf [] [0, 1, 2, 3, 4] [0, 1, 2, 3, 4] rfl (by decide) rfl (by decide) (by decide) (wC kI kZ x ++ wW kI kZ x WP WL WC wn wk) rfl (by decide) rfl rfl rfl (Nat.le_of_ble_eq_true rfl) ⟨Nat.le_of_ble_eq_true rfl, Nat.le_of_ble_eq_true rfl⟩ ⟨Nat.le_of_ble_eq_true rfl, Nat.le_of_ble_eq_true rfl⟩ d_C_unit_5 rfl ?_
  have e8 : 0 ≤ (if (0 ≤ (plOf a) ∧ (plOf a) < 26) ∧ wk < 8 then (1 : Int) else 0) ∧ (if (0 ≤ (plOf a) ∧ (plOf a) < 26) ∧ wk < 8 then (1 : Int) else 0) ≤ 1 := by split <;> omega
  refine j_callV (q := 11) (wr := wC kI kZ x) C [.int (iI (plOf a))] [] (c_W_collect kI kZ x WP WL WC wn wk hW (plOf a) (by omega)) ml_C_66 mk_W_collect in_W_collect se_W_collect rfl rfl rfl [1, 2, 3, 4] [0] [0, 1, 2, 3, 4] rfl (by decide) rfl (by decide) (by decide) (wC kI kZ x ++ wW kI kZ x WP WL (if (0 ≤ (plOf a) ∧ (plOf a) < 26) ∧ wk < 8 then uI WC wk.toNat (plOf a) else WC) wn (if (0 ≤ (plOf a) ∧ (plOf a) < 26) ∧ wk < 8 then wk + 1 else wk)) rfl (by decide) rfl rfl rfl (Nat.le_of_ble_eq_true rfl) ⟨Nat.le_of_ble_eq_true rfl, Nat.le_of_ble_eq_true rfl⟩ ⟨Nat.le_of_ble_eq_true rfl, Nat.le_of_ble_eq_true rfl⟩ d_C_unit_8 rfl ?_
  exact j_zret C hr hlk (by omega) d_C_unit_11 rfl rfl
set_option maxRecDepth 100000 in
set_option maxHeartbeats 4000000 in
theorem c_C_word {l : Launch} {D : va_G} (kI kZ : ClassId) (x : Nat → Nat) (WP WL WC : Nat → Int) (wn wk : Int) (hW : IW WP WL WC wn wk) : Dt l D (ty2 kI kZ) y_C_word w_C_word { frames := 5, cells := 0, slots := 0, locals := 123 } [.ref (x 0)] (wC kI kZ x ++ wW kI kZ x WP WL WC wn wk) (some (.int (iI (if wk = 0 then -1 else nrC WP WL WC wn wk)))) (wC kI kZ x ++ wW kI kZ x (if wk = 0 then WP else wpC WP WL WC wn wk) (if wk = 0 then WL else wlC WP WL WC wn wk) WC (if wk = 0 then wn else wnC WP WL WC wn wk) 0) := by
  refine Met.toJ (own := R_C) (QD D (some (.int (iI (if wk = 0 then -1 else nrC WP WL WC wn wk)))) (wC kI kZ x ++ wW kI kZ x (if wk = 0 then WP else wpC WP WL WC wn wk) (if wk = 0 then WL else wlC WP WL WC wn wk) WC (if wk = 0 then wn else wnC WP WL WC wn wk) 0)) mk_C_word rfl (Nat.le_of_ble_eq_true rfl) ?_
  intro p e s m args below meth c A C hr hlk hnm
  show JJ p l e { frames := 5, cells := 0, slots := 0, locals := 123 } s m args below meth c D A 1 (MQ below (QD D (some (.int (iI (if wk = 0 then -1 else nrC WP WL WC wn wk)))) (wC kI kZ x ++ wW kI kZ x (if wk = 0 then WP else wpC WP WL WC wn wk) (if wk = 0 then WL else wlC WP WL WC wn wk) WC (if wk = 0 then wn else wnC WP WL WC wn wk) 0) A) args s 0 0 A) 0 0 0 [(0, .ref (x 0))] [] (wC kI kZ x ++ wW kI kZ x WP WL WC wn wk)
  refine j_aload_n (q := 1) C 0 rfl d_C_word_0 rfl ?_
  refine j_get (q := 4) C i_C rfl 0 rfl 0 (by decide) rfl rfl fl_C_12 d_C_word_1 rfl ?_
  refine j_callV (q := 7) (wr := wC kI kZ x) C [] [] (c_W_takeCollected kI kZ x WP WL WC wn wk hW) ml_C_70 mk_W_takeCollected in_W_takeCollected se_W_takeCollected rfl rfl rfl [1, 2, 3, 4] [0] [0, 1, 2, 3, 4] rfl (by decide) rfl (by decide) (by decide) (wC kI kZ x ++ wW kI kZ x (if wk = 0 then WP else wpC WP WL WC wn wk) (if wk = 0 then WL else wlC WP WL WC wn wk) WC (if wk = 0 then wn else wnC WP WL WC wn wk) 0) rfl (by decide) rfl rfl rfl (Nat.le_of_ble_eq_true rfl) ⟨Nat.le_of_ble_eq_true rfl, Nat.le_of_ble_eq_true rfl⟩ ⟨Nat.le_of_ble_eq_true rfl, Nat.le_of_ble_eq_true rfl⟩ d_C_word_4 rfl ?_
  exact j_iret C hr hlk d_C_word_7 rfl rfl
set_option maxRecDepth 100000 in
set_option maxHeartbeats 4000000 in
theorem c_C_sign {l : Launch} {D : va_G} (kI kZ : ClassId) (x : Nat → Nat) (KS KB KE KZ KV : Nat → Int) (kn kw : Int) (hK : IK KS KB KE KZ KV kn kw) (RP RS : Nat → Int) (rn : Int) (hR : IR RP RS rn) (a : Int) (ha : (-2147483648 ≤ a ∧ a < 2147483648)) : Dt l D (ty2 kI kZ) y_C_sign w_C_sign { frames := 3, cells := 0, slots := 0, locals := 63 } [.ref (x 0), .int (iI (a))] (wC kI kZ x ++ wK kI kZ x KS KB KE KZ KV kn kw ++ wR kI kZ x RP RS rn) (some (.int (iI (if kn < 60 ∧ (a = -1 ∨ (0 ≤ a ∧ a < 26)) then 1 else 0)))) (wC kI kZ x ++ wK kI kZ x (if kn < 60 ∧ (a = -1 ∨ (0 ≤ a ∧ a < 26)) then uI KS kn.toNat a else KS) (if kn < 60 ∧ (0 ≤ a ∧ a < 26) then kbG KS KB kn kw else KB) (if kn < 60 ∧ (0 ≤ a ∧ a < 26) then keG KS KE kn kw else KE) (if kn < 60 ∧ (0 ≤ a ∧ a < 26) then uI KZ a.toNat 1 else KZ) KV (if kn < 60 ∧ (a = -1 ∨ (0 ≤ a ∧ a < 26)) then kn + 1 else kn) (if kn < 60 ∧ (0 ≤ a ∧ a < 26) then kwG KS kn kw else kw) ++ wR kI kZ x RP RS (if kn < 60 ∧ (a = -1 ∨ (0 ≤ a ∧ a < 26)) then 0 else rn)) := by
  refine Met.toJ (own := R_C) (QD D (some (.int (iI (if kn < 60 ∧ (a = -1 ∨ (0 ≤ a ∧ a < 26)) then 1 else 0)))) (wC kI kZ x ++ wK kI kZ x (if kn < 60 ∧ (a = -1 ∨ (0 ≤ a ∧ a < 26)) then uI KS kn.toNat a else KS) (if kn < 60 ∧ (0 ≤ a ∧ a < 26) then kbG KS KB kn kw else KB) (if kn < 60 ∧ (0 ≤ a ∧ a < 26) then keG KS KE kn kw else KE) (if kn < 60 ∧ (0 ≤ a ∧ a < 26) then uI KZ a.toNat 1 else KZ) KV (if kn < 60 ∧ (a = -1 ∨ (0 ≤ a ∧ a < 26)) then kn + 1 else kn) (if kn < 60 ∧ (0 ≤ a ∧ a < 26) then kwG KS kn kw else kw) ++ wR kI kZ x RP RS (if kn < 60 ∧ (a = -1 ∨ (0 ≤ a ∧ a < 26)) then 0 else rn))) mk_C_sign rfl (Nat.le_of_ble_eq_true rfl) ?_
  intro p e s m args below meth c A C hr hlk hnm
  show JJ p l e { frames := 3, cells := 0, slots := 0, locals := 63 } s m args below meth c D A 2 (MQ below (QD D (some (.int (iI (if kn < 60 ∧ (a = -1 ∨ (0 ≤ a ∧ a < 26)) then 1 else 0)))) (wC kI kZ x ++ wK kI kZ x (if kn < 60 ∧ (a = -1 ∨ (0 ≤ a ∧ a < 26)) then uI KS kn.toNat a else KS) (if kn < 60 ∧ (0 ≤ a ∧ a < 26) then kbG KS KB kn kw else KB) (if kn < 60 ∧ (0 ≤ a ∧ a < 26) then keG KS KE kn kw else KE) (if kn < 60 ∧ (0 ≤ a ∧ a < 26) then uI KZ a.toNat 1 else KZ) KV (if kn < 60 ∧ (a = -1 ∨ (0 ≤ a ∧ a < 26)) then kn + 1 else kn) (if kn < 60 ∧ (0 ≤ a ∧ a < 26) then kwG KS kn kw else kw) ++ wR kI kZ x RP RS (if kn < 60 ∧ (a = -1 ∨ (0 ≤ a ∧ a < 26)) then 0 else rn)) A) args s 0 0 A) 0 0 0 [(0, .ref (x 0)), (1, .int (iI (a)))] [] (wC kI kZ x ++ wK kI kZ x KS KB KE KZ KV kn kw ++ wR kI kZ x RP RS rn)
  obtain ⟨hkn, hkw, hKS, hKB, hKE, hKZ, hKV⟩ := id hK
  obtain ⟨hrn, hRP, hRS⟩ := id hR
  refine j_aload_n (q := 1) C 0 rfl d_C_sign_0 rfl ?_
  refine j_get (q := 4) C i_C rfl 0 rfl 1 (by decide) rfl rfl fl_C_19 d_C_sign_1 rfl ?_
  refine j_iload_n (q := 5) C 1 rfl d_C_sign_4 rfl ?_
  have e5 : 0 ≤ (if kn < 60 ∧ (a = -1 ∨ (0 ≤ a ∧ a < 26)) then (1 : Int) else 0) ∧ (if kn < 60 ∧ (a = -1 ∨ (0 ≤ a ∧ a < 26)) then (1 : Int) else 0) ≤ 1 := by split <;> omega
  refine j_callV (q := 8) (wr := wC kI kZ x ++ wR kI kZ x RP RS rn) C [.int (iI (a))] [] (c_K_append kI kZ x KS KB KE KZ KV kn kw hK a (by omega)) ml_C_74 mk_K_append in_K_append se_K_append rfl rfl rfl [1, 2, 3, 4, 5, 6] [0, 7, 8, 9] [0, 4, 5, 6, 7, 8, 9, 1, 2, 3] rfl (by decide) rfl (by decide) (by decide) (wC kI kZ x ++ wK kI kZ x (if kn < 60 ∧ (a = -1 ∨ (0 ≤ a ∧ a < 26)) then uI KS kn.toNat a else KS) (if kn < 60 ∧ (0 ≤ a ∧ a < 26) then kbG KS KB kn kw else KB) (if kn < 60 ∧ (0 ≤ a ∧ a < 26) then keG KS KE kn kw else KE) (if kn < 60 ∧ (0 ≤ a ∧ a < 26) then uI KZ a.toNat 1 else KZ) KV (if kn < 60 ∧ (a = -1 ∨ (0 ≤ a ∧ a < 26)) then kn + 1 else kn) (if kn < 60 ∧ (0 ≤ a ∧ a < 26) then kwG KS kn kw else kw) ++ wR kI kZ x RP RS rn) rfl (by decide) rfl rfl rfl (Nat.le_of_ble_eq_true rfl) ⟨Nat.le_of_ble_eq_true rfl, Nat.le_of_ble_eq_true rfl⟩ ⟨Nat.le_of_ble_eq_true rfl, Nat.le_of_ble_eq_true rfl⟩ d_C_sign_5 rfl ?_
  refine j_if_ne C 13 11 d_C_sign_8 rfl rfl (by omega) (fun c1 => ?_) (fun c1 => ?_)
  · have k8 : (kn < 60 ∧ (a = -1 ∨ (0 ≤ a ∧ a < 26))) := by split at c1 <;> omega
    refine j_aload_n (q := 14) C 0 rfl d_C_sign_13 rfl ?_
    refine j_get (q := 17) C i_C rfl 0 rfl 3 (by decide) rfl rfl fl_C_33 d_C_sign_14 rfl ?_
    refine j_callV (q := 20) (wr := wC kI kZ x ++ wK kI kZ x (if kn < 60 ∧ (a = -1 ∨ (0 ≤ a ∧ a < 26)) then uI KS kn.toNat a else KS) (if kn < 60 ∧ (0 ≤ a ∧ a < 26) then kbG KS KB kn kw else KB) (if kn < 60 ∧ (0 ≤ a ∧ a < 26) then keG KS KE kn kw else KE) (if kn < 60 ∧ (0 ≤ a ∧ a < 26) then uI KZ a.toNat 1 else KZ) KV (if kn < 60 ∧ (a = -1 ∨ (0 ≤ a ∧ a < 26)) then kn + 1 else kn) (if kn < 60 ∧ (0 ≤ a ∧ a < 26) then kwG KS kn kw else kw)) C [] [] (c_R_forget kI kZ x RP RS rn hR) ml_C_77 mk_R_forget in_R_forget se_R_forget rfl rfl rfl [7, 8, 9] [0, 1, 2, 3, 4, 5, 6] [0, 1, 2, 3, 4, 5, 6, 7, 8, 9] rfl (by decide) rfl (by decide) (by decide) (wC kI kZ x ++ wK kI kZ x (if kn < 60 ∧ (a = -1 ∨ (0 ≤ a ∧ a < 26)) then uI KS kn.toNat a else KS) (if kn < 60 ∧ (0 ≤ a ∧ a < 26) then kbG KS KB kn kw else KB) (if kn < 60 ∧ (0 ≤ a ∧ a < 26) then keG KS KE kn kw else KE) (if kn < 60 ∧ (0 ≤ a ∧ a < 26) then uI KZ a.toNat 1 else KZ) KV (if kn < 60 ∧ (a = -1 ∨ (0 ≤ a ∧ a < 26)) then kn + 1 else kn) (if kn < 60 ∧ (0 ≤ a ∧ a < 26) then kwG KS kn kw else kw) ++ wR kI kZ x RP RS 0) rfl (by decide) rfl rfl rfl (Nat.le_of_ble_eq_true rfl) ⟨Nat.le_of_ble_eq_true rfl, Nat.le_of_ble_eq_true rfl⟩ ⟨Nat.le_of_ble_eq_true rfl, Nat.le_of_ble_eq_true rfl⟩ d_C_sign_17 rfl ?_
    refine j_iconst (q := 21) C d_C_sign_20 rfl ?_
    exact j_zret C hr hlk (by omega) d_C_sign_21 (congrArg (fun z => some (Value.int (iI z))) (show (if kn < 60 ∧ (a = -1 ∨ (0 ≤ a ∧ a < 26)) then 1 else 0) = (1) from by split <;> omega)) (by rw [if_pos k8, if_pos k8, if_pos k8])
  · have k8 : ¬ (kn < 60 ∧ (a = -1 ∨ (0 ≤ a ∧ a < 26))) := by split at c1 <;> omega
    refine j_iconst (q := 12) C d_C_sign_11 rfl ?_
    exact j_zret C hr hlk (by omega) d_C_sign_12 (congrArg (fun z => some (Value.int (iI z))) (show (if kn < 60 ∧ (a = -1 ∨ (0 ≤ a ∧ a < 26)) then 1 else 0) = (0) from by split <;> omega)) (by rw [if_neg k8, if_neg k8, if_neg k8])
set_option maxRecDepth 100000 in
set_option maxHeartbeats 4000000 in
theorem c_C_keep {l : Launch} {D : va_G} (kI kZ : ClassId) (x : Nat → Nat) (KS KB KE KZ KV : Nat → Int) (kn kw : Int) (hK : IK KS KB KE KZ KV kn kw) (RP RS : Nat → Int) (rn : Int) (hR : IR RP RS rn) (a : Int) (ha : (-2147483648 ≤ a ∧ a < 2147483648)) (b : Int) (hb : (-2147483648 ≤ b ∧ b < 2147483648)) : Dt l D (ty2 kI kZ) y_C_keep w_C_keep { frames := 2, cells := 0, slots := 0, locals := 42 } [.ref (x 0), .int (iI (a)), .int (iI (b))] (wC kI kZ x ++ wK kI kZ x KS KB KE KZ KV kn kw ++ wR kI kZ x RP RS rn) (some (.int (iI (if (0 ≤ a ∧ a < 26) ∧ (b = 0 ∨ (97 ≤ b ∧ b < 123)) then 1 else 0)))) (wC kI kZ x ++ wK kI kZ x KS KB KE KZ (if (0 ≤ a ∧ a < 26) ∧ (b = 0 ∨ (97 ≤ b ∧ b < 123)) then uI KV a.toNat (plOf b) else KV) kn kw ++ wR kI kZ x RP RS (if (0 ≤ a ∧ a < 26) ∧ (b = 0 ∨ (97 ≤ b ∧ b < 123)) then 0 else rn)) := by
  refine Met.toJ (own := R_C) (QD D (some (.int (iI (if (0 ≤ a ∧ a < 26) ∧ (b = 0 ∨ (97 ≤ b ∧ b < 123)) then 1 else 0)))) (wC kI kZ x ++ wK kI kZ x KS KB KE KZ (if (0 ≤ a ∧ a < 26) ∧ (b = 0 ∨ (97 ≤ b ∧ b < 123)) then uI KV a.toNat (plOf b) else KV) kn kw ++ wR kI kZ x RP RS (if (0 ≤ a ∧ a < 26) ∧ (b = 0 ∨ (97 ≤ b ∧ b < 123)) then 0 else rn))) mk_C_keep rfl (Nat.le_of_ble_eq_true rfl) ?_
  intro p e s m args below meth c A C hr hlk hnm
  show JJ p l e { frames := 2, cells := 0, slots := 0, locals := 42 } s m args below meth c D A 4 (MQ below (QD D (some (.int (iI (if (0 ≤ a ∧ a < 26) ∧ (b = 0 ∨ (97 ≤ b ∧ b < 123)) then 1 else 0)))) (wC kI kZ x ++ wK kI kZ x KS KB KE KZ (if (0 ≤ a ∧ a < 26) ∧ (b = 0 ∨ (97 ≤ b ∧ b < 123)) then uI KV a.toNat (plOf b) else KV) kn kw ++ wR kI kZ x RP RS (if (0 ≤ a ∧ a < 26) ∧ (b = 0 ∨ (97 ≤ b ∧ b < 123)) then 0 else rn)) A) args s 0 0 A) 0 0 0 [(0, .ref (x 0)), (1, .int (iI (a))), (2, .int (iI (b)))] [] (wC kI kZ x ++ wK kI kZ x KS KB KE KZ KV kn kw ++ wR kI kZ x RP RS rn)
  obtain ⟨hkn, hkw, hKS, hKB, hKE, hKZ, hKV⟩ := id hK
  obtain ⟨hrn, hRP, hRS⟩ := id hR
  have p0 : plOf b = -1 ∨ (97 ≤ b ∧ b < 123) := by unfold plOf; split <;> omega
  have p1 : ¬ plOf b = -1 ∨ ¬ (97 ≤ b ∧ b < 123) := by unfold plOf; split <;> omega
  refine j_iload_n (q := 1) C 2 rfl d_C_keep_0 rfl ?_
  have e1 := plOf_r b
  refine j_callS (q := 4) (wr := wC kI kZ x ++ wK kI kZ x KS KB KE KZ KV kn kw ++ wR kI kZ x RP RS rn) C [.int (iI (b))] [] (c_C_placeOf kI kZ x b (by omega)) ml_C_62 mk_C_placeOf st_C_placeOf [] [0, 1, 2, 3, 4, 5, 6, 7, 8, 9] [0, 1, 2, 3, 4, 5, 6, 7, 8, 9] rfl (by decide) rfl (by decide) (by decide) (wC kI kZ x ++ wK kI kZ x KS KB KE KZ KV kn kw ++ wR kI kZ x RP RS rn) rfl (by decide) rfl rfl rfl (Nat.le_of_ble_eq_true rfl) ⟨Nat.le_of_ble_eq_true rfl, Nat.le_of_ble_eq_true rfl⟩ ⟨Nat.le_of_ble_eq_true rfl, Nat.le_of_ble_eq_true rfl⟩ d_C_keep_1 rfl ?_
  refine j_istore_n (q := 5) C [(0, .ref (x 0)), (1, .int (iI (a))), (2, .int (iI (b))), (3, .int (iI (plOf b)))] rfl (by decide) d_C_keep_4 rfl ?_
  refine j_iload_n (q := 6) C 1 rfl d_C_keep_5 rfl ?_
  have e6 := bP_r a
  refine j_callS (q := 9) (wr := wC kI kZ x ++ wK kI kZ x KS KB KE KZ KV kn kw ++ wR kI kZ x RP RS rn) C [.int (iI (a))] [] (c_C_isNumber kI kZ x a (by omega)) ml_C_80 mk_C_isNumber st_C_isNumber [] [0, 1, 2, 3, 4, 5, 6, 7, 8, 9] [0, 1, 2, 3, 4, 5, 6, 7, 8, 9] rfl (by decide) rfl (by decide) (by decide) (wC kI kZ x ++ wK kI kZ x KS KB KE KZ KV kn kw ++ wR kI kZ x RP RS rn) rfl (by decide) rfl rfl rfl (Nat.le_of_ble_eq_true rfl) ⟨Nat.le_of_ble_eq_true rfl, Nat.le_of_ble_eq_true rfl⟩ ⟨Nat.le_of_ble_eq_true rfl, Nat.le_of_ble_eq_true rfl⟩ d_C_keep_6 rfl ?_
  refine j_if_eq C 21 12 d_C_keep_9 rfl rfl (by omega) (fun c1 => ?_) (fun c1 => ?_)
  · have c1 := bP_0 c1
    refine j_iconst (q := 22) C d_C_keep_21 rfl ?_
    exact j_zret C hr hlk (by omega) d_C_keep_22 (congrArg (fun z => some (Value.int (iI z))) (show (if (0 ≤ a ∧ a < 26) ∧ (b = 0 ∨ (97 ≤ b ∧ b < 123)) then 1 else 0) = (0) from by split <;> omega)) (by repeat (first | rfl | (rw [if_pos (by omega)]) | (rw [if_neg (by omega)])))
  · have c1 := bP_1 c1
    refine j_iload_n (q := 13) C 3 rfl d_C_keep_12 rfl ?_
    refine j_iconst (q := 14) C d_C_keep_13 rfl ?_
    refine j_icmp_ne C 23 17 d_C_keep_14 rfl rfl (by omega) (by omega) (fun c2 => ?_) (fun c2 => ?_)
    · refine j_aload_n (q := 24) C 0 rfl d_C_keep_23 rfl ?_
      refine j_get (q := 27) C i_C rfl 0 rfl 1 (by decide) rfl rfl fl_C_19 d_C_keep_24 rfl ?_
      refine j_iload_n (q := 28) C 1 rfl d_C_keep_27 rfl ?_
      refine j_iload_n (q := 29) C 3 rfl d_C_keep_28 rfl ?_
      refine j_callV (q := 32) (wr := wC kI kZ x ++ wR kI kZ x RP RS rn) C [.int (iI (a)), .int (iI (plOf b))] [] (c_K_keepPlace kI kZ x KS KB KE KZ KV kn kw hK a (plOf b) (by omega) (by omega)) ml_C_83 mk_K_keepPlace in_K_keepPlace se_K_keepPlace rfl rfl rfl [1, 2, 3, 4, 5, 6] [0, 7, 8, 9] [0, 4, 5, 6, 7, 8, 9, 1, 2, 3] rfl (by decide) rfl (by decide) (by decide) (wC kI kZ x ++ wK kI kZ x KS KB KE KZ (if 0 ≤ a ∧ a < 26 then uI KV a.toNat (plOf b) else KV) kn kw ++ wR kI kZ x RP RS rn) rfl (by decide) rfl rfl rfl (Nat.le_of_ble_eq_true rfl) ⟨Nat.le_of_ble_eq_true rfl, Nat.le_of_ble_eq_true rfl⟩ ⟨Nat.le_of_ble_eq_true rfl, Nat.le_of_ble_eq_true rfl⟩ d_C_keep_29 rfl ?_
      refine j_aload_n (q := 33) C 0 rfl d_C_keep_32 rfl ?_
      refine j_get (q := 36) C i_C rfl 0 rfl 3 (by decide) rfl rfl fl_C_33 d_C_keep_33 rfl ?_
      refine j_callV (q := 39) (wr := wC kI kZ x ++ wK kI kZ x KS KB KE KZ (if 0 ≤ a ∧ a < 26 then uI KV a.toNat (plOf b) else KV) kn kw) C [] [] (c_R_forget kI kZ x RP RS rn hR) ml_C_77 mk_R_forget in_R_forget se_R_forget rfl rfl rfl [7, 8, 9] [0, 1, 2, 3, 4, 5, 6] [0, 1, 2, 3, 4, 5, 6, 7, 8, 9] rfl (by decide) rfl (by decide) (by decide) (wC kI kZ x ++ wK kI kZ x KS KB KE KZ (if 0 ≤ a ∧ a < 26 then uI KV a.toNat (plOf b) else KV) kn kw ++ wR kI kZ x RP RS 0) rfl (by decide) rfl rfl rfl (Nat.le_of_ble_eq_true rfl) ⟨Nat.le_of_ble_eq_true rfl, Nat.le_of_ble_eq_true rfl⟩ ⟨Nat.le_of_ble_eq_true rfl, Nat.le_of_ble_eq_true rfl⟩ d_C_keep_36 rfl ?_
      refine j_iconst (q := 40) C d_C_keep_39 rfl ?_
      first | (exfalso; omega) | exact j_zret C hr hlk (by omega) d_C_keep_40 (congrArg (fun z => some (Value.int (iI z))) (show (if (0 ≤ a ∧ a < 26) ∧ (b = 0 ∨ (97 ≤ b ∧ b < 123)) then 1 else 0) = (1) from by split <;> omega)) (by repeat (first | rfl | (rw [if_pos (by omega)]) | (rw [if_neg (by omega)])))
    · refine j_iload_n (q := 18) C 2 rfl d_C_keep_17 rfl ?_
      refine j_if_eq C 23 21 d_C_keep_18 rfl rfl (by omega) (fun c3 => ?_) (fun c3 => ?_)
      · refine j_aload_n (q := 24) C 0 rfl d_C_keep_23 rfl ?_
        refine j_get (q := 27) C i_C rfl 0 rfl 1 (by decide) rfl rfl fl_C_19 d_C_keep_24 rfl ?_
        refine j_iload_n (q := 28) C 1 rfl d_C_keep_27 rfl ?_
        refine j_iload_n (q := 29) C 3 rfl d_C_keep_28 rfl ?_
        refine j_callV (q := 32) (wr := wC kI kZ x ++ wR kI kZ x RP RS rn) C [.int (iI (a)), .int (iI (plOf b))] [] (c_K_keepPlace kI kZ x KS KB KE KZ KV kn kw hK a (plOf b) (by omega) (by omega)) ml_C_83 mk_K_keepPlace in_K_keepPlace se_K_keepPlace rfl rfl rfl [1, 2, 3, 4, 5, 6] [0, 7, 8, 9] [0, 4, 5, 6, 7, 8, 9, 1, 2, 3] rfl (by decide) rfl (by decide) (by decide) (wC kI kZ x ++ wK kI kZ x KS KB KE KZ (if 0 ≤ a ∧ a < 26 then uI KV a.toNat (plOf b) else KV) kn kw ++ wR kI kZ x RP RS rn) rfl (by decide) rfl rfl rfl (Nat.le_of_ble_eq_true rfl) ⟨Nat.le_of_ble_eq_true rfl, Nat.le_of_ble_eq_true rfl⟩ ⟨Nat.le_of_ble_eq_true rfl, Nat.le_of_ble_eq_true rfl⟩ d_C_keep_29 rfl ?_
        refine j_aload_n (q := 33) C 0 rfl d_C_keep_32 rfl ?_
        refine j_get (q := 36) C i_C rfl 0 rfl 3 (by decide) rfl rfl fl_C_33 d_C_keep_33 rfl ?_
        refine j_callV (q := 39) (wr := wC kI kZ x ++ wK kI kZ x KS KB KE KZ (if 0 ≤ a ∧ a < 26 then uI KV a.toNat (plOf b) else KV) kn kw) C [] [] (c_R_forget kI kZ x RP RS rn hR) ml_C_77 mk_R_forget in_R_forget se_R_forget rfl rfl rfl [7, 8, 9] [0, 1, 2, 3, 4, 5, 6] [0, 1, 2, 3, 4, 5, 6, 7, 8, 9] rfl (by decide) rfl (by decide) (by decide) (wC kI kZ x ++ wK kI kZ x KS KB KE KZ (if 0 ≤ a ∧ a < 26 then uI KV a.toNat (plOf b) else KV) kn kw ++ wR kI kZ x RP RS 0) rfl (by decide) rfl rfl rfl (Nat.le_of_ble_eq_true rfl) ⟨Nat.le_of_ble_eq_true rfl, Nat.le_of_ble_eq_true rfl⟩ ⟨Nat.le_of_ble_eq_true rfl, Nat.le_of_ble_eq_true rfl⟩ d_C_keep_36 rfl ?_
        refine j_iconst (q := 40) C d_C_keep_39 rfl ?_
        first | (exfalso; omega) | exact j_zret C hr hlk (by omega) d_C_keep_40 (congrArg (fun z => some (Value.int (iI z))) (show (if (0 ≤ a ∧ a < 26) ∧ (b = 0 ∨ (97 ≤ b ∧ b < 123)) then 1 else 0) = (1) from by split <;> omega)) (by repeat (first | rfl | (rw [if_pos (by omega)]) | (rw [if_neg (by omega)])))
      · refine j_iconst (q := 22) C d_C_keep_21 rfl ?_
        first | (exfalso; omega) | exact j_zret C hr hlk (by omega) d_C_keep_22 (congrArg (fun z => some (Value.int (iI z))) (show (if (0 ≤ a ∧ a < 26) ∧ (b = 0 ∨ (97 ≤ b ∧ b < 123)) then 1 else 0) = (0) from by split <;> omega)) (by repeat (first | rfl | (rw [if_pos (by omega)]) | (rw [if_neg (by omega)])))
set_option maxRecDepth 100000 in
set_option maxHeartbeats 4000000 in
theorem c_C_pair {l : Launch} {D : va_G} (kI kZ : ClassId) (x : Nat → Nat) (PW : Nat → Int) (hP : ∀ j, -1000 ≤ PW j ∧ PW j ≤ 1000) (a b v : Int) (ha : (-2147483648 ≤ a ∧ a < 2147483648)) (hb : (-2147483648 ≤ b ∧ b < 2147483648)) (hv : (-2147483648 ≤ v ∧ v < 2147483648)) : Dt l D (ty2 kI kZ) y_C_pair w_C_pair { frames := 2, cells := 0, slots := 0, locals := 43 } [.ref (x 0), .int (iI (a)), .int (iI (b)), .int (iI (v))] (wC kI kZ x ++ wP kI kZ x PW) (some (.int (iI (if ((0 ≤ (plOf a) ∧ (plOf a) < 26) ∧ (0 ≤ (plOf b) ∧ (plOf b) < 26)) ∧ (-1000 ≤ v ∧ v ≤ 1000) then 1 else 0)))) (wC kI kZ x ++ wP kI kZ x (if ((0 ≤ (plOf a) ∧ (plOf a) < 26) ∧ (0 ≤ (plOf b) ∧ (plOf b) < 26)) ∧ (-1000 ≤ v ∧ v ≤ 1000) then uI PW ((plOf a) * 26 + (plOf b)).toNat v else PW)) := by
  refine Met.toJ (own := R_C) (QD D (some (.int (iI (if ((0 ≤ (plOf a) ∧ (plOf a) < 26) ∧ (0 ≤ (plOf b) ∧ (plOf b) < 26)) ∧ (-1000 ≤ v ∧ v ≤ 1000) then 1 else 0)))) (wC kI kZ x ++ wP kI kZ x (if ((0 ≤ (plOf a) ∧ (plOf a) < 26) ∧ (0 ≤ (plOf b) ∧ (plOf b) < 26)) ∧ (-1000 ≤ v ∧ v ≤ 1000) then uI PW ((plOf a) * 26 + (plOf b)).toNat v else PW))) mk_C_pair rfl (Nat.le_of_ble_eq_true rfl) ?_
  intro p e s m args below meth c A C hr hlk hnm
  show JJ p l e { frames := 2, cells := 0, slots := 0, locals := 43 } s m args below meth c D A 4 (MQ below (QD D (some (.int (iI (if ((0 ≤ (plOf a) ∧ (plOf a) < 26) ∧ (0 ≤ (plOf b) ∧ (plOf b) < 26)) ∧ (-1000 ≤ v ∧ v ≤ 1000) then 1 else 0)))) (wC kI kZ x ++ wP kI kZ x (if ((0 ≤ (plOf a) ∧ (plOf a) < 26) ∧ (0 ≤ (plOf b) ∧ (plOf b) < 26)) ∧ (-1000 ≤ v ∧ v ≤ 1000) then uI PW ((plOf a) * 26 + (plOf b)).toNat v else PW)) A) args s 0 0 A) 0 0 0 [(0, .ref (x 0)), (1, .int (iI (a))), (2, .int (iI (b))), (3, .int (iI (v)))] [] (wC kI kZ x ++ wP kI kZ x PW)
  refine j_aload_n (q := 1) C 0 rfl d_C_pair_0 rfl ?_
  refine j_get (q := 4) C i_C rfl 0 rfl 2 (by decide) rfl rfl fl_C_26 d_C_pair_1 rfl ?_
  refine j_iload_n (q := 5) C 1 rfl d_C_pair_4 rfl ?_
  have e5 := plOf_r a
  refine j_callS (q := 8) (wr := wC kI kZ x ++ wP kI kZ x PW) C [.int (iI (a))] [.ref (x 11)] (c_C_placeOf kI kZ x a (by omega)) ml_C_62 mk_C_placeOf st_C_placeOf [] [0, 1, 2] [0, 1, 2] rfl (by decide) rfl (by decide) (by decide) (wC kI kZ x ++ wP kI kZ x PW) rfl (by decide) rfl rfl rfl (Nat.le_of_ble_eq_true rfl) ⟨Nat.le_of_ble_eq_true rfl, Nat.le_of_ble_eq_true rfl⟩ ⟨Nat.le_of_ble_eq_true rfl, Nat.le_of_ble_eq_true rfl⟩ d_C_pair_5 rfl ?_
  refine j_iload_n (q := 9) C 2 rfl d_C_pair_8 rfl ?_
  have e9 := plOf_r b
  refine j_callS (q := 12) (wr := wC kI kZ x ++ wP kI kZ x PW) C [.int (iI (b))] [.int (iI (plOf a)), .ref (x 11)] (c_C_placeOf kI kZ x b (by omega)) ml_C_62 mk_C_placeOf st_C_placeOf [] [0, 1, 2] [0, 1, 2] rfl (by decide) rfl (by decide) (by decide) (wC kI kZ x ++ wP kI kZ x PW) rfl (by decide) rfl rfl rfl (Nat.le_of_ble_eq_true rfl) ⟨Nat.le_of_ble_eq_true rfl, Nat.le_of_ble_eq_true rfl⟩ ⟨Nat.le_of_ble_eq_true rfl, Nat.le_of_ble_eq_true rfl⟩ d_C_pair_9 rfl ?_
  refine j_iload_n (q := 13) C 3 rfl d_C_pair_12 rfl ?_
  have e13 : 0 ≤ (if ((0 ≤ (plOf a) ∧ (plOf a) < 26) ∧ (0 ≤ (plOf b) ∧ (plOf b) < 26)) ∧ (-1000 ≤ v ∧ v ≤ 1000) then (1 : Int) else 0) ∧ (if ((0 ≤ (plOf a) ∧ (plOf a) < 26) ∧ (0 ≤ (plOf b) ∧ (plOf b) < 26)) ∧ (-1000 ≤ v ∧ v ≤ 1000) then (1 : Int) else 0) ≤ 1 := by split <;> omega
  refine j_callV (q := 16) (wr := wC kI kZ x) C [.int (iI (plOf a)), .int (iI (plOf b)), .int (iI (v))] [] (c_P_weigh kI kZ x PW hP (plOf a) (plOf b) v (by omega) (by omega) (by omega)) ml_C_87 mk_P_weigh in_P_weigh se_P_weigh rfl rfl rfl [1, 2] [0] [0, 1, 2] rfl (by decide) rfl (by decide) (by decide) (wC kI kZ x ++ wP kI kZ x (if ((0 ≤ (plOf a) ∧ (plOf a) < 26) ∧ (0 ≤ (plOf b) ∧ (plOf b) < 26)) ∧ (-1000 ≤ v ∧ v ≤ 1000) then uI PW ((plOf a) * 26 + (plOf b)).toNat v else PW)) rfl (by decide) rfl rfl rfl (Nat.le_of_ble_eq_true rfl) ⟨Nat.le_of_ble_eq_true rfl, Nat.le_of_ble_eq_true rfl⟩ ⟨Nat.le_of_ble_eq_true rfl, Nat.le_of_ble_eq_true rfl⟩ d_C_pair_13 rfl ?_
  exact j_zret C hr hlk (by omega) d_C_pair_16 rfl rfl
set_option maxRecDepth 100000 in
set_option maxHeartbeats 4000000 in
theorem c_C_letter {l : Launch} {D : va_G} (kI kZ : ClassId) (x : Nat → Nat) (RP RS : Nat → Int) (rn : Int) (hR : IR RP RS rn) (k a : Int) (hk : (-2147483648 ≤ k ∧ k < 2147483648)) (ha : (-2147483648 ≤ a ∧ a < 2147483648)) : Dt l D (ty2 kI kZ) y_C_letter w_C_letter { frames := 2, cells := 0, slots := 0, locals := 43 } [.ref (x 0), .int (iI (k)), .int (iI (a))] (wC kI kZ x ++ wR kI kZ x RP RS rn) (some (.int (iI (leOf (rdAt RP RS rn k a))))) (wC kI kZ x ++ wR kI kZ x RP RS rn) := by
  refine Met.toJ (own := R_C) (QD D (some (.int (iI (leOf (rdAt RP RS rn k a))))) (wC kI kZ x ++ wR kI kZ x RP RS rn)) mk_C_letter rfl (Nat.le_of_ble_eq_true rfl) ?_
  intro p e s m args below meth c A C hr hlk hnm
  show JJ p l e { frames := 2, cells := 0, slots := 0, locals := 43 } s m args below meth c D A 3 (MQ below (QD D (some (.int (iI (leOf (rdAt RP RS rn k a))))) (wC kI kZ x ++ wR kI kZ x RP RS rn) A) args s 0 0 A) 0 0 0 [(0, .ref (x 0)), (1, .int (iI (k))), (2, .int (iI (a)))] [] (wC kI kZ x ++ wR kI kZ x RP RS rn)
  refine j_aload_n (q := 1) C 0 rfl d_C_letter_0 rfl ?_
  refine j_get (q := 4) C i_C rfl 0 rfl 3 (by decide) rfl rfl fl_C_33 d_C_letter_1 rfl ?_
  refine j_iload_n (q := 5) C 1 rfl d_C_letter_4 rfl ?_
  refine j_iload_n (q := 6) C 2 rfl d_C_letter_5 rfl ?_
  have e6 := rdAt_r hR k a
  refine j_callV (q := 9) (wr := wC kI kZ x) C [.int (iI (k)), .int (iI (a))] [] (c_R_placeIn kI kZ x RP RS rn hR k a (by omega) (by omega)) ml_C_98 mk_R_placeIn in_R_placeIn se_R_placeIn rfl rfl rfl [1, 2, 3] [0] [0, 1, 2, 3] rfl (by decide) rfl (by decide) (by decide) (wC kI kZ x ++ wR kI kZ x RP RS rn) rfl (by decide) rfl rfl rfl (Nat.le_of_ble_eq_true rfl) ⟨Nat.le_of_ble_eq_true rfl, Nat.le_of_ble_eq_true rfl⟩ ⟨Nat.le_of_ble_eq_true rfl, Nat.le_of_ble_eq_true rfl⟩ d_C_letter_6 rfl ?_
  have e9 : -1 ≤ leOf (rdAt RP RS rn k a) ∧ leOf (rdAt RP RS rn k a) < 123 := by unfold leOf; split <;> omega
  refine j_callS (q := 12) (wr := wC kI kZ x ++ wR kI kZ x RP RS rn) C [.int (iI (rdAt RP RS rn k a))] [] (c_C_letterOf kI kZ x (rdAt RP RS rn k a) (by omega)) ml_C_102 mk_C_letterOf st_C_letterOf [] [0, 1, 2, 3] [0, 1, 2, 3] rfl (by decide) rfl (by decide) (by decide) (wC kI kZ x ++ wR kI kZ x RP RS rn) rfl (by decide) rfl rfl rfl (Nat.le_of_ble_eq_true rfl) ⟨Nat.le_of_ble_eq_true rfl, Nat.le_of_ble_eq_true rfl⟩ ⟨Nat.le_of_ble_eq_true rfl, Nat.le_of_ble_eq_true rfl⟩ d_C_letter_9 rfl ?_
  exact j_iret C hr hlk d_C_letter_12 rfl rfl
set_option maxRecDepth 100000 in
set_option maxHeartbeats 4000000 in
theorem c_C_codewords {l : Launch} {D : va_G} (kI kZ : ClassId) (x : Nat → Nat) (KS KB KE KZ KV : Nat → Int) (kn kw : Int) (hK : IK KS KB KE KZ KV kn kw) : Dt l D (ty2 kI kZ) y_C_codewords w_C_codewords { frames := 1, cells := 0, slots := 0, locals := 20 } [.ref (x 0)] (wC kI kZ x ++ wK kI kZ x KS KB KE KZ KV kn kw) (some (.int (iI (kw)))) (wC kI kZ x ++ wK kI kZ x KS KB KE KZ KV kn kw) := by
  refine Met.toJ (own := R_C) (QD D (some (.int (iI (kw)))) (wC kI kZ x ++ wK kI kZ x KS KB KE KZ KV kn kw)) mk_C_codewords rfl (Nat.le_of_ble_eq_true rfl) ?_
  intro p e s m args below meth c A C hr hlk hnm
  show JJ p l e { frames := 1, cells := 0, slots := 0, locals := 20 } s m args below meth c D A 1 (MQ below (QD D (some (.int (iI (kw)))) (wC kI kZ x ++ wK kI kZ x KS KB KE KZ KV kn kw) A) args s 0 0 A) 0 0 0 [(0, .ref (x 0))] [] (wC kI kZ x ++ wK kI kZ x KS KB KE KZ KV kn kw)
  refine j_aload_n (q := 1) C 0 rfl d_C_codewords_0 rfl ?_
  refine j_get (q := 4) C i_C rfl 0 rfl 1 (by decide) rfl rfl fl_C_19 d_C_codewords_1 rfl ?_
  refine j_callV (q := 7) (wr := wC kI kZ x) C [] [] (c_K_codewordCount kI kZ x KS KB KE KZ KV kn kw hK) ml_C_124 mk_K_codewordCount in_K_codewordCount se_K_codewordCount rfl rfl rfl [1, 2, 3, 4, 5, 6] [0] [0, 1, 2, 3, 4, 5, 6] rfl (by decide) rfl (by decide) (by decide) (wC kI kZ x ++ wK kI kZ x KS KB KE KZ KV kn kw) rfl (by decide) rfl rfl rfl (Nat.le_of_ble_eq_true rfl) ⟨Nat.le_of_ble_eq_true rfl, Nat.le_of_ble_eq_true rfl⟩ ⟨Nat.le_of_ble_eq_true rfl, Nat.le_of_ble_eq_true rfl⟩ d_C_codewords_4 rfl ?_
  exact j_iret C hr hlk d_C_codewords_7 rfl rfl
set_option maxRecDepth 100000 in
set_option maxHeartbeats 4000000 in
theorem c_C_plain {l : Launch} {D : va_G} (kI kZ : ClassId) (x : Nat → Nat) (XP : Nat → Int) (xn : Int) (hX : IX XP xn) (a : Int) (ha : (-2147483648 ≤ a ∧ a < 2147483648)) : Dt l D (ty2 kI kZ) y_C_plain w_C_plain { frames := 2, cells := 0, slots := 0, locals := 41 } [.ref (x 0), .int (iI (a))] (wC kI kZ x ++ wX kI kZ x XP xn) (some (.int (iI (if (0 ≤ plOf a ∧ plOf a < 26) ∧ xn < 60 then 1 else 0)))) (wC kI kZ x ++ wX kI kZ x (if (0 ≤ plOf a ∧ plOf a < 26) ∧ xn < 60 then uI XP xn.toNat (plOf a) else XP) (if (0 ≤ plOf a ∧ plOf a < 26) ∧ xn < 60 then xn + 1 else xn)) := by
  refine Met.toJ (own := R_C) (QD D (some (.int (iI (if (0 ≤ plOf a ∧ plOf a < 26) ∧ xn < 60 then 1 else 0)))) (wC kI kZ x ++ wX kI kZ x (if (0 ≤ plOf a ∧ plOf a < 26) ∧ xn < 60 then uI XP xn.toNat (plOf a) else XP) (if (0 ≤ plOf a ∧ plOf a < 26) ∧ xn < 60 then xn + 1 else xn))) mk_C_plain rfl (Nat.le_of_ble_eq_true rfl) ?_
  intro p e s m args below meth c A C hr hlk hnm
  show JJ p l e { frames := 2, cells := 0, slots := 0, locals := 41 } s m args below meth c D A 2 (MQ below (QD D (some (.int (iI (if (0 ≤ plOf a ∧ plOf a < 26) ∧ xn < 60 then 1 else 0)))) (wC kI kZ x ++ wX kI kZ x (if (0 ≤ plOf a ∧ plOf a < 26) ∧ xn < 60 then uI XP xn.toNat (plOf a) else XP) (if (0 ≤ plOf a ∧ plOf a < 26) ∧ xn < 60 then xn + 1 else xn)) A) args s 0 0 A) 0 0 0 [(0, .ref (x 0)), (1, .int (iI (a)))] [] (wC kI kZ x ++ wX kI kZ x XP xn)
  refine j_aload_n (q := 1) C 0 rfl d_C_plain_0 rfl ?_
  refine j_get (q := 4) C i_C rfl 0 rfl 5 (by decide) rfl rfl fl_C_49 d_C_plain_1 rfl ?_
  refine j_iload_n (q := 5) C 1 rfl d_C_plain_4 rfl ?_
  have e5 := plOf_r a
  refine j_callS (q := 8) (wr := wC kI kZ x ++ wX kI kZ x XP xn) C [.int (iI (a))] [.ref (x 20)] (c_C_placeOf kI kZ x a (by omega)) ml_C_62 mk_C_placeOf st_C_placeOf [] [0, 1, 2] [0, 1, 2] rfl (by decide) rfl (by decide) (by decide) (wC kI kZ x ++ wX kI kZ x XP xn) rfl (by decide) rfl rfl rfl (Nat.le_of_ble_eq_true rfl) ⟨Nat.le_of_ble_eq_true rfl, Nat.le_of_ble_eq_true rfl⟩ ⟨Nat.le_of_ble_eq_true rfl, Nat.le_of_ble_eq_true rfl⟩ d_C_plain_5 rfl ?_
  have e8 : 0 ≤ (if (0 ≤ (plOf a) ∧ (plOf a) < 26) ∧ xn < 60 then (1 : Int) else 0) ∧ (if (0 ≤ (plOf a) ∧ (plOf a) < 26) ∧ xn < 60 then (1 : Int) else 0) ≤ 1 := by split <;> omega
  refine j_callV (q := 11) (wr := wC kI kZ x) C [.int (iI (plOf a))] [] (c_X_append kI kZ x XP xn hX (plOf a) (by omega)) ml_C_127 mk_X_append in_X_append se_X_append rfl rfl rfl [1, 2] [0] [0, 1, 2] rfl (by decide) rfl (by decide) (by decide) (wC kI kZ x ++ wX kI kZ x (if (0 ≤ (plOf a) ∧ (plOf a) < 26) ∧ xn < 60 then uI XP xn.toNat (plOf a) else XP) (if (0 ≤ (plOf a) ∧ (plOf a) < 26) ∧ xn < 60 then xn + 1 else xn)) rfl (by decide) rfl rfl rfl (Nat.le_of_ble_eq_true rfl) ⟨Nat.le_of_ble_eq_true rfl, Nat.le_of_ble_eq_true rfl⟩ ⟨Nat.le_of_ble_eq_true rfl, Nat.le_of_ble_eq_true rfl⟩ d_C_plain_8 rfl ?_
  exact j_zret C hr hlk (by omega) d_C_plain_11 rfl rfl
set_option maxRecDepth 100000 in
set_option maxHeartbeats 4000000 in
theorem c_C_keyed {l : Launch} {D : va_G} (kI kZ : ClassId) (x : Nat → Nat) (WP WL WC : Nat → Int) (wn wk : Int) (hW : IW WP WL WC wn wk) (XP : Nat → Int) (xn : Int) (hX : IX XP xn) (hPl : ∀ a j, 0 ≤ j → j < lnOf WL wn a → 0 ≤ plAt WP WL wn a j) (a i : Int) (ha : (-2147483648 ≤ a ∧ a < 2147483648)) (hi : (-2147483648 ≤ i ∧ i < 2147483648)) : Dt l D (ty2 kI kZ) y_C_keyed w_C_keyed { frames := 3, cells := 0, slots := 0, locals := 61 } [.ref (x 0), .int (iI (a)), .int (iI (i))] (wC kI kZ x ++ wW kI kZ x WP WL WC wn wk ++ wX kI kZ x XP xn) (some (.int (iI (if lnOf WL wn a ≤ 0 ∨ i < 0 then -1 else shL (sgAt XP xn i) (plAt WP WL wn a (i % lnOf WL wn a)))))) (wC kI kZ x ++ wW kI kZ x WP WL WC wn wk ++ wX kI kZ x XP xn) := by
  refine Met.toJ (own := R_C) (QD D (some (.int (iI (if lnOf WL wn a ≤ 0 ∨ i < 0 then -1 else shL (sgAt XP xn i) (plAt WP WL wn a (i % lnOf WL wn a)))))) (wC kI kZ x ++ wW kI kZ x WP WL WC wn wk ++ wX kI kZ x XP xn)) mk_C_keyed rfl (Nat.le_of_ble_eq_true rfl) ?_
  intro p e s m args below meth c A C hr hlk hnm
  show JJ p l e { frames := 3, cells := 0, slots := 0, locals := 61 } s m args below meth c D A 4 (MQ below (QD D (some (.int (iI (if lnOf WL wn a ≤ 0 ∨ i < 0 then -1 else shL (sgAt XP xn i) (plAt WP WL wn a (i % lnOf WL wn a)))))) (wC kI kZ x ++ wW kI kZ x WP WL WC wn wk ++ wX kI kZ x XP xn) A) args s 0 0 A) 0 0 0 [(0, .ref (x 0)), (1, .int (iI (a))), (2, .int (iI (i)))] [] (wC kI kZ x ++ wW kI kZ x WP WL WC wn wk ++ wX kI kZ x XP xn)
  obtain ⟨hwn, hwk, hWL, hWP, hWC⟩ := id hW
  obtain ⟨hxn, hXP⟩ := id hX
  have hP0 : ∀ j, 0 ≤ j → j < lnOf WL wn a → 0 ≤ plAt WP WL wn a j := hPl a
  refine j_aload_n (q := 1) C 0 rfl d_C_keyed_0 rfl ?_
  refine j_get (q := 4) C i_C rfl 0 rfl 0 (by decide) rfl rfl fl_C_12 d_C_keyed_1 rfl ?_
  refine j_iload_n (q := 5) C 1 rfl d_C_keyed_4 rfl ?_
  have e5 := lnOf_r hW a
  refine j_callV (q := 8) (wr := wC kI kZ x ++ wX kI kZ x XP xn) C [.int (iI (a))] [] (c_W_lengthOf kI kZ x WP WL WC wn wk hW a (by omega)) ml_C_142 mk_W_lengthOf in_W_lengthOf se_W_lengthOf rfl rfl rfl [1, 2, 3, 4] [0, 5, 6] [0, 3, 4, 5, 6, 1, 2] rfl (by decide) rfl (by decide) (by decide) (wC kI kZ x ++ wW kI kZ x WP WL WC wn wk ++ wX kI kZ x XP xn) rfl (by decide) rfl rfl rfl (Nat.le_of_ble_eq_true rfl) ⟨Nat.le_of_ble_eq_true rfl, Nat.le_of_ble_eq_true rfl⟩ ⟨Nat.le_of_ble_eq_true rfl, Nat.le_of_ble_eq_true rfl⟩ d_C_keyed_5 rfl ?_
  refine j_istore_n (q := 9) C [(0, .ref (x 0)), (1, .int (iI (a))), (2, .int (iI (i))), (3, .int (iI (lnOf WL wn a)))] rfl (by decide) d_C_keyed_8 rfl ?_
  refine j_iload_n (q := 10) C 3 rfl d_C_keyed_9 rfl ?_
  refine j_if_le C 17 13 d_C_keyed_10 rfl rfl (by omega) (fun c1 => ?_) (fun c1 => ?_)
  · refine j_iconst (q := 18) C d_C_keyed_17 rfl ?_
    exact j_iret C hr hlk d_C_keyed_18 (congrArg (fun z => some (Value.int (iI z))) (show (if lnOf WL wn a ≤ 0 ∨ i < 0 then -1 else shL (sgAt XP xn i) (plAt WP WL wn a (i % lnOf WL wn a))) = (-1) from by split <;> first | rfl | omega)) rfl
  · refine j_iload_n (q := 14) C 2 rfl d_C_keyed_13 rfl ?_
    refine j_if_ge C 19 17 d_C_keyed_14 rfl rfl (by omega) (fun c2 => ?_) (fun c2 => ?_)
    · refine j_aload_n (q := 20) C 0 rfl d_C_keyed_19 rfl ?_
      refine j_get (q := 23) C i_C rfl 0 rfl 5 (by decide) rfl rfl fl_C_49 d_C_keyed_20 rfl ?_
      refine j_iload_n (q := 24) C 2 rfl d_C_keyed_23 rfl ?_
      have e24 := sgAt_r hX.b xn i
      refine j_callV (q := 27) (wr := wC kI kZ x ++ wW kI kZ x WP WL WC wn wk) C [.int (iI (i))] [] (c_X_placeAt kI kZ x XP xn hX i (by omega)) ml_C_128 mk_X_placeAt in_X_placeAt se_X_placeAt rfl rfl rfl [5, 6] [0, 1, 2, 3, 4] [0, 1, 2, 3, 4, 5, 6] rfl (by decide) rfl (by decide) (by decide) (wC kI kZ x ++ wW kI kZ x WP WL WC wn wk ++ wX kI kZ x XP xn) rfl (by decide) rfl rfl rfl (Nat.le_of_ble_eq_true rfl) ⟨Nat.le_of_ble_eq_true rfl, Nat.le_of_ble_eq_true rfl⟩ ⟨Nat.le_of_ble_eq_true rfl, Nat.le_of_ble_eq_true rfl⟩ d_C_keyed_24 rfl ?_
      refine j_aload_n (q := 28) C 0 rfl d_C_keyed_27 rfl ?_
      refine j_get (q := 31) C i_C rfl 0 rfl 0 (by decide) rfl rfl fl_C_12 d_C_keyed_28 rfl ?_
      refine j_iload_n (q := 32) C 1 rfl d_C_keyed_31 rfl ?_
      refine j_iload_n (q := 33) C 2 rfl d_C_keyed_32 rfl ?_
      refine j_iload_n (q := 34) C 3 rfl d_C_keyed_33 rfl ?_
      refine j_irem (q := 35) C (by omega) (by omega) d_C_keyed_34 rfl ?_
      have q1 := Int.emod_nonneg i (show lnOf WL wn a ≠ 0 from by omega)
      have q2 := Int.emod_lt_of_pos i (show 0 < lnOf WL wn a from by omega)
      have e35 := plAt_r hW a (i % (lnOf WL wn a))
      refine j_callV (q := 38) (wr := wC kI kZ x ++ wX kI kZ x XP xn) C [.int (iI (a)), .int (iI (i % (lnOf WL wn a)))] [.int (iI (sgAt XP xn i))] (c_W_placeAt kI kZ x WP WL WC wn wk hW a (i % (lnOf WL wn a)) (by omega) (by omega)) ml_C_145 mk_W_placeAt in_W_placeAt se_W_placeAt rfl rfl rfl [1, 2, 3, 4] [0, 5, 6] [0, 3, 4, 5, 6, 1, 2] rfl (by decide) rfl (by decide) (by decide) (wC kI kZ x ++ wW kI kZ x WP WL WC wn wk ++ wX kI kZ x XP xn) rfl (by decide) rfl rfl rfl (Nat.le_of_ble_eq_true rfl) ⟨Nat.le_of_ble_eq_true rfl, Nat.le_of_ble_eq_true rfl⟩ ⟨Nat.le_of_ble_eq_true rfl, Nat.le_of_ble_eq_true rfl⟩ d_C_keyed_35 rfl ?_
      have q3 := hP0 _ q1 q2
      refine j_callS (q := 41) (wr := wC kI kZ x ++ wW kI kZ x WP WL WC wn wk ++ wX kI kZ x XP xn) C [.int (iI (sgAt XP xn i)), .int (iI (plAt WP WL wn a (i % (lnOf WL wn a))))] [] (c_C_shiftedLetter kI kZ x (sgAt XP xn i) (plAt WP WL wn a (i % (lnOf WL wn a))) (by omega) (by omega)) ml_C_136 mk_C_shiftedLetter st_C_shiftedLetter [] [0, 1, 2, 3, 4, 5, 6] [0, 1, 2, 3, 4, 5, 6] rfl (by decide) rfl (by decide) (by decide) (wC kI kZ x ++ wW kI kZ x WP WL WC wn wk ++ wX kI kZ x XP xn) rfl (by decide) rfl rfl rfl (Nat.le_of_ble_eq_true rfl) ⟨Nat.le_of_ble_eq_true rfl, Nat.le_of_ble_eq_true rfl⟩ ⟨Nat.le_of_ble_eq_true rfl, Nat.le_of_ble_eq_true rfl⟩ d_C_keyed_38 rfl ?_
      first | (exfalso; omega) | exact j_iret C hr hlk d_C_keyed_41 (congrArg (fun z => some (Value.int (iI z))) (show (if lnOf WL wn a ≤ 0 ∨ i < 0 then -1 else shL (sgAt XP xn i) (plAt WP WL wn a (i % lnOf WL wn a))) = (shL (sgAt XP xn i) (plAt WP WL wn a (i % (lnOf WL wn a)))) from by split <;> first | rfl | omega)) rfl
    · refine j_iconst (q := 18) C d_C_keyed_17 rfl ?_
      first | (exfalso; omega) | exact j_iret C hr hlk d_C_keyed_18 (congrArg (fun z => some (Value.int (iI z))) (show (if lnOf WL wn a ≤ 0 ∨ i < 0 then -1 else shL (sgAt XP xn i) (plAt WP WL wn a (i % lnOf WL wn a))) = (-1) from by split <;> first | rfl | omega)) rfl
set_option maxRecDepth 100000 in
set_option maxHeartbeats 4000000 in
theorem c_C_breaks {l : Launch} {D : va_G} (kI kZ : ClassId) (x : Nat → Nat) (BF : Nat → Int) (hB : IB BF) (WP WL WC : Nat → Int) (wn wk : Int) (hW : IW WP WL WC wn wk) (XP : Nat → Int) (xn : Int) (hX : IX XP xn) (hL1 : ∀ a, 0 ≤ a → a < wn → 1 ≤ lnOf WL wn a) : Dt l D (ty2 kI kZ) y_C_breaks w_C_breaks { frames := 5, cells := 0, slots := 0, locals := 113 } [.ref (x 0)] (wC kI kZ x ++ wB kI kZ x BF ++ wW kI kZ x WP WL WC wn wk ++ wX kI kZ x XP xn) (some (.int (iI (fwZ BF WP WL wn XP xn (0 : Int).toNat)))) (wC kI kZ x ++ wB kI kZ x (fwZ BF WP WL wn XP xn) ++ wW kI kZ x WP WL WC wn wk ++ wX kI kZ x XP xn) := by
  refine Met.toJ (own := R_C) (QD D (some (.int (iI (fwZ BF WP WL wn XP xn (0 : Int).toNat)))) (wC kI kZ x ++ wB kI kZ x (fwZ BF WP WL wn XP xn) ++ wW kI kZ x WP WL WC wn wk ++ wX kI kZ x XP xn)) mk_C_breaks rfl (Nat.le_of_ble_eq_true rfl) ?_
  intro p e s m args below meth c A C hr hlk hnm
  show JJ p l e { frames := 5, cells := 0, slots := 0, locals := 113 } s m args below meth c D A 1 (MQ below (QD D (some (.int (iI (fwZ BF WP WL wn XP xn (0 : Int).toNat)))) (wC kI kZ x ++ wB kI kZ x (fwZ BF WP WL wn XP xn) ++ wW kI kZ x WP WL WC wn wk ++ wX kI kZ x XP xn) A) args s 0 0 A) 0 0 0 [(0, .ref (x 0))] [] (wC kI kZ x ++ wB kI kZ x BF ++ wW kI kZ x WP WL WC wn wk ++ wX kI kZ x XP xn)
  obtain ⟨hwn, hwk, hWL, hWP, hWC⟩ := id hW
  obtain ⟨hxn, hXP⟩ := id hX
  refine j_aload_n (q := 1) C 0 rfl d_C_breaks_0 rfl ?_
  refine j_get (q := 4) C i_C rfl 0 rfl 6 (by decide) rfl rfl fl_C_58 d_C_breaks_1 rfl ?_
  have b4 := fwZ_r (XP := XP) (WP := WP) hB hwn.1 hxn hL1
  have e4 := b4 (0 : Int).toNat
  refine j_callV (q := 7) (wr := wC kI kZ x) C [] [] (c_B_fewestWords kI kZ x BF hB WP WL WC wn wk hW XP xn hX hL1) ml_C_147 mk_B_fewestWords in_B_fewestWords se_B_fewestWords rfl rfl rfl [1, 2, 3, 4, 5, 6, 7, 8] [0] [0, 1, 2, 3, 4, 5, 6, 7, 8] rfl (by decide) rfl (by decide) (by decide) (wC kI kZ x ++ wB kI kZ x (fwZ BF WP WL wn XP xn) ++ wW kI kZ x WP WL WC wn wk ++ wX kI kZ x XP xn) rfl (by decide) rfl rfl rfl (Nat.le_of_ble_eq_true rfl) ⟨Nat.le_of_ble_eq_true rfl, Nat.le_of_ble_eq_true rfl⟩ ⟨Nat.le_of_ble_eq_true rfl, Nat.le_of_ble_eq_true rfl⟩ d_C_breaks_4 rfl ?_
  exact j_iret C hr hlk d_C_breaks_7 rfl rfl
set_option maxRecDepth 100000 in
set_option maxHeartbeats 4000000 in
theorem c_C_breakAt {l : Launch} {D : va_G} (kI kZ : ClassId) (x : Nat → Nat) (BF : Nat → Int) (hB : IB BF) (WP WL WC : Nat → Int) (wn wk : Int) (hW : IW WP WL WC wn wk) (XP : Nat → Int) (xn : Int) (hX : IX XP xn) (hL1 : ∀ a, 0 ≤ a → a < wn → 1 ≤ lnOf WL wn a) (k : Int) (hk : (-2147483648 ≤ k ∧ k < 2147483648)) : Dt l D (ty2 kI kZ) y_C_breakAt w_C_breakAt { frames := 6, cells := 0, slots := 0, locals := 136 } [.ref (x 0), .int (iI (k))] (wC kI kZ x ++ wB kI kZ x BF ++ wW kI kZ x WP WL WC wn wk ++ wX kI kZ x XP xn) (some (.int (iI (wdB BF WP WL wn XP xn k)))) (wC kI kZ x ++ wB kI kZ x (if k < 0 then BF else fwZ BF WP WL wn XP xn) ++ wW kI kZ x WP WL WC wn wk ++ wX kI kZ x XP xn) := by
  refine Met.toJ (own := R_C) (QD D (some (.int (iI (wdB BF WP WL wn XP xn k)))) (wC kI kZ x ++ wB kI kZ x (if k < 0 then BF else fwZ BF WP WL wn XP xn) ++ wW kI kZ x WP WL WC wn wk ++ wX kI kZ x XP xn)) mk_C_breakAt rfl (Nat.le_of_ble_eq_true rfl) ?_
  intro p e s m args below meth c A C hr hlk hnm
  show JJ p l e { frames := 6, cells := 0, slots := 0, locals := 136 } s m args below meth c D A 2 (MQ below (QD D (some (.int (iI (wdB BF WP WL wn XP xn k)))) (wC kI kZ x ++ wB kI kZ x (if k < 0 then BF else fwZ BF WP WL wn XP xn) ++ wW kI kZ x WP WL WC wn wk ++ wX kI kZ x XP xn) A) args s 0 0 A) 0 0 0 [(0, .ref (x 0)), (1, .int (iI (k)))] [] (wC kI kZ x ++ wB kI kZ x BF ++ wW kI kZ x WP WL WC wn wk ++ wX kI kZ x XP xn)
  obtain ⟨hwn, hwk, hWL, hWP, hWC⟩ := id hW
  obtain ⟨hxn, hXP⟩ := id hX
  refine j_aload_n (q := 1) C 0 rfl d_C_breakAt_0 rfl ?_
  refine j_get (q := 4) C i_C rfl 0 rfl 6 (by decide) rfl rfl fl_C_58 d_C_breakAt_1 rfl ?_
  refine j_iload_n (q := 5) C 1 rfl d_C_breakAt_4 rfl ?_
  refine j_callV (q := 8) (wr := wC kI kZ x) C [.int (iI (k))] [] (c_B_wordOf kI kZ x BF hB WP WL WC wn wk hW XP xn hX hL1 k (by omega)) ml_C_150 mk_B_wordOf in_B_wordOf se_B_wordOf rfl rfl rfl [1, 2, 3, 4, 5, 6, 7, 8] [0] [0, 1, 2, 3, 4, 5, 6, 7, 8] rfl (by decide) rfl (by decide) (by decide) (wC kI kZ x ++ wB kI kZ x (if k < 0 then BF else fwZ BF WP WL wn XP xn) ++ wW kI kZ x WP WL WC wn wk ++ wX kI kZ x XP xn) rfl (by decide) rfl rfl rfl (Nat.le_of_ble_eq_true rfl) ⟨Nat.le_of_ble_eq_true rfl, Nat.le_of_ble_eq_true rfl⟩ ⟨Nat.le_of_ble_eq_true rfl, Nat.le_of_ble_eq_true rfl⟩ d_C_breakAt_5 rfl ?_
  exact j_iret C hr hlk d_C_breakAt_8 rfl rfl
set_option maxRecDepth 100000 in
set_option maxHeartbeats 4000000 in
theorem c_C_clear {l : Launch} {D : va_G} (kI kZ : ClassId) (x : Nat → Nat) (KS KB KE KZ KV : Nat → Int) (kn kw : Int) (hK : IK KS KB KE KZ KV kn kw) (RP RS : Nat → Int) (rn : Int) (hR : IR RP RS rn) (XP : Nat → Int) (xn : Int) (hX : IX XP xn) : Dt l D (ty2 kI kZ) y_C_clear w_C_clear { frames := 1, cells := 0, slots := 0, locals := 21 } [.ref (x 0)] (wC kI kZ x ++ wK kI kZ x KS KB KE KZ KV kn kw ++ wR kI kZ x RP RS rn ++ wX kI kZ x XP xn) none (wC kI kZ x ++ wK kI kZ x KS KB KE (zrB KZ 0) (zrB KV (-1)) 0 0 ++ wR kI kZ x RP RS 0 ++ wX kI kZ x XP 0) := by
  refine Met.toJ (own := R_C) (QD D none (wC kI kZ x ++ wK kI kZ x KS KB KE (zrB KZ 0) (zrB KV (-1)) 0 0 ++ wR kI kZ x RP RS 0 ++ wX kI kZ x XP 0)) mk_C_clear rfl (Nat.le_of_ble_eq_true rfl) ?_
  intro p e s m args below meth c A C hr hlk hnm
  show JJ p l e { frames := 1, cells := 0, slots := 0, locals := 21 } s m args below meth c D A 1 (MQ below (QD D none (wC kI kZ x ++ wK kI kZ x KS KB KE (zrB KZ 0) (zrB KV (-1)) 0 0 ++ wR kI kZ x RP RS 0 ++ wX kI kZ x XP 0) A) args s 0 0 A) 0 0 0 [(0, .ref (x 0))] [] (wC kI kZ x ++ wK kI kZ x KS KB KE KZ KV kn kw ++ wR kI kZ x RP RS rn ++ wX kI kZ x XP xn)
  refine j_aload_n (q := 1) C 0 rfl d_C_clear_0 rfl ?_
  refine j_get (q := 4) C i_C rfl 0 rfl 1 (by decide) rfl rfl fl_C_19 d_C_clear_1 rfl ?_
  refine j_callV (q := 7) (wr := wC kI kZ x ++ wR kI kZ x RP RS rn ++ wX kI kZ x XP xn) C [] [] (c_K_empty kI kZ x KS KB KE KZ KV kn kw hK) ml_C_153 mk_K_empty in_K_empty se_K_empty rfl rfl rfl [1, 2, 3, 4, 5, 6] [0, 7, 8, 9, 10, 11] [0, 6, 7, 8, 9, 10, 11, 1, 2, 3, 4, 5] rfl (by decide) rfl (by decide) (by decide) (wC kI kZ x ++ wK kI kZ x KS KB KE (zrB KZ 0) (zrB KV (-1)) 0 0 ++ wR kI kZ x RP RS rn ++ wX kI kZ x XP xn) rfl (by decide) rfl rfl rfl (Nat.le_of_ble_eq_true rfl) ⟨Nat.le_of_ble_eq_true rfl, Nat.le_of_ble_eq_true rfl⟩ ⟨Nat.le_of_ble_eq_true rfl, Nat.le_of_ble_eq_true rfl⟩ d_C_clear_4 rfl ?_
  refine j_aload_n (q := 8) C 0 rfl d_C_clear_7 rfl ?_
  refine j_get (q := 11) C i_C rfl 0 rfl 3 (by decide) rfl rfl fl_C_33 d_C_clear_8 rfl ?_
  refine j_callV (q := 14) (wr := wC kI kZ x ++ wK kI kZ x KS KB KE (zrB KZ 0) (zrB KV (-1)) 0 0 ++ wX kI kZ x XP xn) C [] [] (c_R_forget kI kZ x RP RS rn hR) ml_C_77 mk_R_forget in_R_forget se_R_forget rfl rfl rfl [7, 8, 9] [0, 1, 2, 3, 4, 5, 6, 10, 11] [0, 1, 2, 3, 4, 5, 6, 9, 10, 11, 7, 8] rfl (by decide) rfl (by decide) (by decide) (wC kI kZ x ++ wK kI kZ x KS KB KE (zrB KZ 0) (zrB KV (-1)) 0 0 ++ wR kI kZ x RP RS 0 ++ wX kI kZ x XP xn) rfl (by decide) rfl rfl rfl (Nat.le_of_ble_eq_true rfl) ⟨Nat.le_of_ble_eq_true rfl, Nat.le_of_ble_eq_true rfl⟩ ⟨Nat.le_of_ble_eq_true rfl, Nat.le_of_ble_eq_true rfl⟩ d_C_clear_11 rfl ?_
  refine j_aload_n (q := 15) C 0 rfl d_C_clear_14 rfl ?_
  refine j_get (q := 18) C i_C rfl 0 rfl 5 (by decide) rfl rfl fl_C_49 d_C_clear_15 rfl ?_
  refine j_callV (q := 21) (wr := wC kI kZ x ++ wK kI kZ x KS KB KE (zrB KZ 0) (zrB KV (-1)) 0 0 ++ wR kI kZ x RP RS 0) C [] [] (c_X_empty kI kZ x XP xn hX) ml_C_156 mk_X_empty in_X_empty se_X_empty rfl rfl rfl [10, 11] [0, 1, 2, 3, 4, 5, 6, 7, 8, 9] [0, 1, 2, 3, 4, 5, 6, 7, 8, 9, 10, 11] rfl (by decide) rfl (by decide) (by decide) (wC kI kZ x ++ wK kI kZ x KS KB KE (zrB KZ 0) (zrB KV (-1)) 0 0 ++ wR kI kZ x RP RS 0 ++ wX kI kZ x XP 0) rfl (by decide) rfl rfl rfl (Nat.le_of_ble_eq_true rfl) ⟨Nat.le_of_ble_eq_true rfl, Nat.le_of_ble_eq_true rfl⟩ ⟨Nat.le_of_ble_eq_true rfl, Nat.le_of_ble_eq_true rfl⟩ d_C_clear_18 rfl ?_
  exact j_vret C hr hlk d_C_clear_21 rfl
/-- the sum of g 1 .. g m -/
def smI (g : Int → Int) : Nat → Int
  | 0 => 0
  | n + 1 => smI g n + g (n + 1 : Nat)
theorem smI_s (g : Int → Int) {i : Int} (h : 1 ≤ i) : smI g i.toNat = smI g (i - 1).toNat + g i := by
  obtain ⟨n, hn⟩ := Int.eq_ofNat_of_zero_le (show 0 ≤ i - 1 by omega)
  have e1 : i.toNat = n + 1 := by omega
  have e2 : (i - 1).toNat = n := by omega
  have e3 : i = ((n + 1 : Nat) : Int) := by omega
  rw [e1, e2]
  rw [show g i = g ((n + 1 : Nat) : Int) from by rw [← e3]]
  rfl
theorem smI_r {g : Int → Int} (h : ∀ i, -1000 ≤ g i ∧ g i ≤ 1000) (n : Nat) : -1000 * (n : Int) ≤ smI g n ∧ smI g n ≤ 1000 * (n : Int) := by
  induction n with
  | zero => unfold smI; omega
  | succ n ih =>
    have := h (n + 1 : Nat)
    unfold smI
    omega
theorem smI_c {f g : Int → Int} {n : Nat} (h : ∀ i : Int, 1 ≤ i → i ≤ n → f i = g i) : smI f n = smI g n := by
  induction n with
  | zero => rfl
  | succ n ih =>
    unfold smI
    rw [ih (fun i h1 h2 => h i h1 (by omega)), h (n + 1 : Nat) (by omega) (by omega)]
/-- the best of g 0 .. g (m - 1), of alike ones the first, and what it has -/
def bsI (g : Int → Int) : Nat → Int × Int
  | 0 => (-1, 0)
  | n + 1 => if (bsI g n).1 = -1 ∨ (bsI g n).2 < g n then ((n : Int), g n) else bsI g n
theorem bsI_s (g : Int → Int) {i : Int} (h : 0 ≤ i) : bsI g (i + 1).toNat = if (bsI g i.toNat).1 = -1 ∨ (bsI g i.toNat).2 < g i then (i, g i) else bsI g i.toNat := by
  obtain ⟨n, rfl⟩ := Int.eq_ofNat_of_zero_le h
  rfl
theorem bsI_c {f g : Int → Int} {n : Nat} (h : ∀ i : Int, 0 ≤ i → i < n → f i = g i) : bsI f n = bsI g n := by
  induction n with
  | zero => rfl
  | succ n ih =>
    unfold bsI
    rw [ih (fun i h1 h2 => h i h1 (by omega)), h n (by omega) (by omega)]
def rkG (KS : Nat → Int) (kn : Int) (RP RS : Nat → Int) (rn : Int) (PW : Nat → Int) (k i : Int) : Int := wtOf PW (rdAt RP RS rn k (sgAt KS kn (i - 1))) (rdAt RP RS rn k (sgAt KS kn i))
/-- the rank of reading k -/
def rkC (KS : Nat → Int) (kn : Int) (RP RS : Nat → Int) (rn : Int) (PW : Nat → Int) (k : Int) : Int := smI (rkG KS kn RP RS rn PW k) (kn - 1).toNat
theorem rkC_r {KS RP RS PW : Nat → Int} {kn rn : Int} (hP : ∀ j, -1000 ≤ PW j ∧ PW j ≤ 1000) (hkn : 0 ≤ kn ∧ kn ≤ 60) (k : Int) : -100000 ≤ rkC KS kn RP RS rn PW k ∧ rkC KS kn RP RS rn PW k ≤ 100000 := by
  have := smI_r (g := rkG KS kn RP RS rn PW k) (fun i => wtOf_r hP _ _) (kn - 1).toNat
  unfold rkC
  omega
def shG (PW XP : Nat → Int) (xn t i : Int) : Int := wtOf PW ((sgAt XP xn (i - 1) + t) % 26) ((sgAt XP xn i + t) % 26)
/-- the sum of the weights of the plain shifted by t -/
def shC (PW XP : Nat → Int) (xn t : Int) : Int := smI (shG PW XP xn t) (xn - 1).toNat
theorem shC_r {PW XP : Nat → Int} {xn : Int} (hP : ∀ j, -1000 ≤ PW j ∧ PW j ≤ 1000) (hxn : 0 ≤ xn ∧ xn ≤ 60) (t : Int) : -100000 ≤ shC PW XP xn t ∧ shC PW XP xn t ≤ 100000 := by
  have := smI_r (g := shG PW XP xn t) (fun i => wtOf_r hP _ _) (xn - 1).toNat
  unfold shC
  omega

set_option maxRecDepth 100000 in
set_option maxHeartbeats 4000000 in
theorem c_C_rankOfKept {l : Launch} {D : va_G} (kI kZ : ClassId) (x : Nat → Nat) (KS KB KE KZ KV : Nat → Int) (kn kw : Int) (hK : IK KS KB KE KZ KV kn kw) (RP RS : Nat → Int) (rn : Int) (hR : IR RP RS rn) (PW : Nat → Int) (hP : ∀ j, -1000 ≤ PW j ∧ PW j ≤ 1000) (k : Int) (hk : (-2147483648 ≤ k ∧ k < 2147483648)) : Dt l D (ty2 kI kZ) y_C_rankOfKept w_C_rankOfKept { frames := 2, cells := 0, slots := 0, locals := 43 } [.ref (x 0), .int (iI (k))] (wC kI kZ x ++ wK kI kZ x KS KB KE KZ KV kn kw ++ wR kI kZ x RP RS rn ++ wP kI kZ x PW) (some (.long (lI (rkC KS kn RP RS rn PW k)))) (wC kI kZ x ++ wK kI kZ x KS KB KE KZ KV kn kw ++ wR kI kZ x RP RS rn ++ wP kI kZ x PW) := by
  refine Met.toJ (own := R_C) (QD D (some (.long (lI (rkC KS kn RP RS rn PW k)))) (wC kI kZ x ++ wK kI kZ x KS KB KE KZ KV kn kw ++ wR kI kZ x RP RS rn ++ wP kI kZ x PW)) mk_C_rankOfKept rfl (Nat.le_of_ble_eq_true rfl) ?_
  intro p e s m args below meth c A C hr hlk hnm
  show JJ p l e { frames := 2, cells := 0, slots := 0, locals := 43 } s m args below meth c D A 7 (MQ below (QD D (some (.long (lI (rkC KS kn RP RS rn PW k)))) (wC kI kZ x ++ wK kI kZ x KS KB KE KZ KV kn kw ++ wR kI kZ x RP RS rn ++ wP kI kZ x PW) A) args s 0 0 A) 0 0 0 [(0, .ref (x 0)), (1, .int (iI (k)))] [] (wC kI kZ x ++ wK kI kZ x KS KB KE KZ KV kn kw ++ wR kI kZ x RP RS rn ++ wP kI kZ x PW)
  obtain ⟨hkn, hkw, hKS, hKB, hKE, hKZ, hKV⟩ := id hK
  obtain ⟨hrn, hRP, hRS⟩ := id hR
  refine j_lconst0 (q := 1) C d_C_rankOfKept_0 rfl ?_
  refine j_lstore_n (q := 2) C [(0, .ref (x 0)), (1, .int (iI (k))), (2, .long (lI (0)))] rfl (by decide) d_C_rankOfKept_1 rfl ?_
  refine j_iconst (q := 3) C d_C_rankOfKept_2 rfl ?_
  refine j_istore (q := 5) C [(0, .ref (x 0)), (1, .int (iI (k))), (2, .long (lI (0))), (4, .int (iI (1)))] rfl (by decide) d_C_rankOfKept_3 rfl ?_
  have lp5 : ∀ (N : Nat) (i t : Int), (1 ≤ i ∧ i ≤ 61 ∧ (i ≤ kn ∨ i = 1)) → (t = smI (rkG KS kn RP RS rn PW k) (i - 1).toNat) → (61 - i).toNat < N → JJ p l e { frames := 2, cells := 0, slots := 0, locals := 43 } s m args below meth c D A 7 (MQ below (QD D (some (.long (lI (rkC KS kn RP RS rn PW k)))) (wC kI kZ x ++ wK kI kZ x KS KB KE KZ KV kn kw ++ wR kI kZ x RP RS rn ++ wP kI kZ x PW) A) args s 0 0 A) 0 0 5 [(0, .ref (x 0)), (1, .int (iI (k))), (2, .long (lI (t))), (4, .int (iI (i)))] [] (wC kI kZ x ++ wK kI kZ x KS KB KE KZ KV kn kw ++ wR kI kZ x RP RS rn ++ wP kI kZ x PW) := by
    intro N
    induction N with
    | zero =>
      intro i t i0 i1 hN
      omega
    | succ N ih =>
      intro i t i0 i1 hN
      refine j_iload (q := 7) C 3 rfl d_C_rankOfKept_5 rfl ?_
      refine j_aload_n (q := 8) C 0 rfl d_C_rankOfKept_7 rfl ?_
      refine j_get (q := 11) C i_C rfl 0 rfl 1 (by decide) rfl rfl fl_C_19 d_C_rankOfKept_8 rfl ?_
      refine j_callV (q := 14) (wr := wC kI kZ x ++ wR kI kZ x RP RS rn ++ wP kI kZ x PW) C [] [.int (iI (i))] (c_K_size kI kZ x KS KB KE KZ KV kn kw hK) ml_C_157 mk_K_size in_K_size se_K_size rfl rfl rfl [1, 2, 3, 4, 5, 6] [0, 7, 8, 9, 10, 11] [0, 6, 7, 8, 9, 10, 11, 1, 2, 3, 4, 5] rfl (by decide) rfl (by decide) (by decide) (wC kI kZ x ++ wK kI kZ x KS KB KE KZ KV kn kw ++ wR kI kZ x RP RS rn ++ wP kI kZ x PW) rfl (by decide) rfl rfl rfl (Nat.le_of_ble_eq_true rfl) ⟨Nat.le_of_ble_eq_true rfl, Nat.le_of_ble_eq_true rfl⟩ ⟨Nat.le_of_ble_eq_true rfl, Nat.le_of_ble_eq_true rfl⟩ d_C_rankOfKept_11 rfl ?_
      refine j_icmp_ge C 78 17 d_C_rankOfKept_14 rfl rfl (by omega) (by omega) (fun c1 => ?_) (fun c1 => ?_)
      · refine j_lload_n (q := 79) C 2 rfl d_C_rankOfKept_78 rfl ?_
        exact j_lret C hr hlk d_C_rankOfKept_79 (congrArg (fun z => some (Value.long (lI z))) (show (rkC KS kn RP RS rn PW k) = (t) from by unfold rkC; rw [i1]; congr 1; omega)) rfl
      · refine j_aload_n (q := 18) C 0 rfl d_C_rankOfKept_17 rfl ?_
        refine j_get (q := 21) C i_C rfl 0 rfl 3 (by decide) rfl rfl fl_C_33 d_C_rankOfKept_18 rfl ?_
        refine j_iload_n (q := 22) C 1 rfl d_C_rankOfKept_21 rfl ?_
        refine j_aload_n (q := 23) C 0 rfl d_C_rankOfKept_22 rfl ?_
        refine j_get (q := 26) C i_C rfl 0 rfl 1 (by decide) rfl rfl fl_C_19 d_C_rankOfKept_23 rfl ?_
        refine j_iload (q := 28) C 3 rfl d_C_rankOfKept_26 rfl ?_
        refine j_iconst (q := 29) C d_C_rankOfKept_28 rfl ?_
        refine j_isub (q := 30) C d_C_rankOfKept_29 rfl ?_
        have e30 := sgAt_r hKS kn (i - 1)
        refine j_callV (q := 33) (wr := wC kI kZ x ++ wR kI kZ x RP RS rn ++ wP kI kZ x PW) C [.int (iI (i - 1))] [.int (iI (k)), .ref (x 13)] (c_K_signAt kI kZ x KS KB KE KZ KV kn kw hK (i - 1) (by omega)) ml_C_158 mk_K_signAt in_K_signAt se_K_signAt rfl rfl rfl [1, 2, 3, 4, 5, 6] [0, 7, 8, 9, 10, 11] [0, 6, 7, 8, 9, 10, 11, 1, 2, 3, 4, 5] rfl (by decide) rfl (by decide) (by decide) (wC kI kZ x ++ wK kI kZ x KS KB KE KZ KV kn kw ++ wR kI kZ x RP RS rn ++ wP kI kZ x PW) rfl (by decide) rfl rfl rfl (Nat.le_of_ble_eq_true rfl) ⟨Nat.le_of_ble_eq_true rfl, Nat.le_of_ble_eq_true rfl⟩ ⟨Nat.le_of_ble_eq_true rfl, Nat.le_of_ble_eq_true rfl⟩ d_C_rankOfKept_30 rfl ?_
        have e33 := rdAt_r hR k (sgAt KS kn (i - 1))
        refine j_callV (q := 36) (wr := wC kI kZ x ++ wK kI kZ x KS KB KE KZ KV kn kw ++ wP kI kZ x PW) C [.int (iI (k)), .int (iI (sgAt KS kn (i - 1)))] [] (c_R_placeIn kI kZ x RP RS rn hR k (sgAt KS kn (i - 1)) (by omega) (by omega)) ml_C_98 mk_R_placeIn in_R_placeIn se_R_placeIn rfl rfl rfl [7, 8, 9] [0, 1, 2, 3, 4, 5, 6, 10, 11] [0, 1, 2, 3, 4, 5, 6, 9, 10, 11, 7, 8] rfl (by decide) rfl (by decide) (by decide) (wC kI kZ x ++ wK kI kZ x KS KB KE KZ KV kn kw ++ wR kI kZ x RP RS rn ++ wP kI kZ x PW) rfl (by decide) rfl rfl rfl (Nat.le_of_ble_eq_true rfl) ⟨Nat.le_of_ble_eq_true rfl, Nat.le_of_ble_eq_true rfl⟩ ⟨Nat.le_of_ble_eq_true rfl, Nat.le_of_ble_eq_true rfl⟩ d_C_rankOfKept_33 rfl ?_
        refine j_istore (q := 38) C [(0, .ref (x 0)), (1, .int (iI (k))), (2, .long (lI (t))), (4, .int (iI (i))), (5, .int (iI (rdAt RP RS rn k (sgAt KS kn (i - 1)))))] rfl (by decide) d_C_rankOfKept_36 rfl ?_
        refine j_aload_n (q := 39) C 0 rfl d_C_rankOfKept_38 rfl ?_
        refine j_get (q := 42) C i_C rfl 0 rfl 3 (by decide) rfl rfl fl_C_33 d_C_rankOfKept_39 rfl ?_
        refine j_iload_n (q := 43) C 1 rfl d_C_rankOfKept_42 rfl ?_
        refine j_aload_n (q := 44) C 0 rfl d_C_rankOfKept_43 rfl ?_
        refine j_get (q := 47) C i_C rfl 0 rfl 1 (by decide) rfl rfl fl_C_19 d_C_rankOfKept_44 rfl ?_
        refine j_iload (q := 49) C 3 rfl d_C_rankOfKept_47 rfl ?_
        have e49 := sgAt_r hKS kn i
        refine j_callV (q := 52) (wr := wC kI kZ x ++ wR kI kZ x RP RS rn ++ wP kI kZ x PW) C [.int (iI (i))] [.int (iI (k)), .ref (x 13)] (c_K_signAt kI kZ x KS KB KE KZ KV kn kw hK i (by omega)) ml_C_158 mk_K_signAt in_K_signAt se_K_signAt rfl rfl rfl [1, 2, 3, 4, 5, 6] [0, 7, 8, 9, 10, 11] [0, 6, 7, 8, 9, 10, 11, 1, 2, 3, 4, 5] rfl (by decide) rfl (by decide) (by decide) (wC kI kZ x ++ wK kI kZ x KS KB KE KZ KV kn kw ++ wR kI kZ x RP RS rn ++ wP kI kZ x PW) rfl (by decide) rfl rfl rfl (Nat.le_of_ble_eq_true rfl) ⟨Nat.le_of_ble_eq_true rfl, Nat.le_of_ble_eq_true rfl⟩ ⟨Nat.le_of_ble_eq_true rfl, Nat.le_of_ble_eq_true rfl⟩ d_C_rankOfKept_49 rfl ?_
        have e52 := rdAt_r hR k (sgAt KS kn i)
        refine j_callV (q := 55) (wr := wC kI kZ x ++ wK kI kZ x KS KB KE KZ KV kn kw ++ wP kI kZ x PW) C [.int (iI (k)), .int (iI (sgAt KS kn i))] [] (c_R_placeIn kI kZ x RP RS rn hR k (sgAt KS kn i) (by omega) (by omega)) ml_C_98 mk_R_placeIn in_R_placeIn se_R_placeIn rfl rfl rfl [7, 8, 9] [0, 1, 2, 3, 4, 5, 6, 10, 11] [0, 1, 2, 3, 4, 5, 6, 9, 10, 11, 7, 8] rfl (by decide) rfl (by decide) (by decide) (wC kI kZ x ++ wK kI kZ x KS KB KE KZ KV kn kw ++ wR kI kZ x RP RS rn ++ wP kI kZ x PW) rfl (by decide) rfl rfl rfl (Nat.le_of_ble_eq_true rfl) ⟨Nat.le_of_ble_eq_true rfl, Nat.le_of_ble_eq_true rfl⟩ ⟨Nat.le_of_ble_eq_true rfl, Nat.le_of_ble_eq_true rfl⟩ d_C_rankOfKept_52 rfl ?_
        refine j_istore (q := 57) C [(0, .ref (x 0)), (1, .int (iI (k))), (2, .long (lI (t))), (4, .int (iI (i))), (5, .int (iI (rdAt RP RS rn k (sgAt KS kn (i - 1))))), (6, .int (iI (rdAt RP RS rn k (sgAt KS kn i))))] rfl (by decide) d_C_rankOfKept_55 rfl ?_
        refine j_lload_n (q := 58) C 2 rfl d_C_rankOfKept_57 rfl ?_
        refine j_aload_n (q := 59) C 0 rfl d_C_rankOfKept_58 rfl ?_
        refine j_get (q := 62) C i_C rfl 0 rfl 2 (by decide) rfl rfl fl_C_26 d_C_rankOfKept_59 rfl ?_
        refine j_iload (q := 64) C 4 rfl d_C_rankOfKept_62 rfl ?_
        refine j_iload (q := 66) C 5 rfl d_C_rankOfKept_64 rfl ?_
        have e66 := wtOf_r hP (rdAt RP RS rn k (sgAt KS kn (i - 1))) (rdAt RP RS rn k (sgAt KS kn i))
        refine j_callV (q := 69) (wr := wC kI kZ x ++ wK kI kZ x KS KB KE KZ KV kn kw ++ wR kI kZ x RP RS rn) C [.int (iI (rdAt RP RS rn k (sgAt KS kn (i - 1)))), .int (iI (rdAt RP RS rn k (sgAt KS kn i)))] [.long (lI (t))] (c_P_weightOf kI kZ x PW hP (rdAt RP RS rn k (sgAt KS kn (i - 1))) (rdAt RP RS rn k (sgAt KS kn i)) (by omega) (by omega)) ml_C_161 mk_P_weightOf in_P_weightOf se_P_weightOf rfl rfl rfl [10, 11] [0, 1, 2, 3, 4, 5, 6, 7, 8, 9] [0, 1, 2, 3, 4, 5, 6, 7, 8, 9, 10, 11] rfl (by decide) rfl (by decide) (by decide) (wC kI kZ x ++ wK kI kZ x KS KB KE KZ KV kn kw ++ wR kI kZ x RP RS rn ++ wP kI kZ x PW) rfl (by decide) rfl rfl rfl (Nat.le_of_ble_eq_true rfl) ⟨Nat.le_of_ble_eq_true rfl, Nat.le_of_ble_eq_true rfl⟩ ⟨Nat.le_of_ble_eq_true rfl, Nat.le_of_ble_eq_true rfl⟩ d_C_rankOfKept_66 rfl ?_
        refine j_i2l (q := 70) C (by omega) d_C_rankOfKept_69 rfl ?_
        refine j_ladd (q := 71) C d_C_rankOfKept_70 rfl ?_
        refine j_lstore_n (q := 72) C [(0, .ref (x 0)), (1, .int (iI (k))), (2, .long (lI (t + (wtOf PW (rdAt RP RS rn k (sgAt KS kn (i - 1))) (rdAt RP RS rn k (sgAt KS kn i)))))), (4, .int (iI (i))), (5, .int (iI (rdAt RP RS rn k (sgAt KS kn (i - 1))))), (6, .int (iI (rdAt RP RS rn k (sgAt KS kn i))))] rfl (by decide) d_C_rankOfKept_71 rfl ?_
        refine j_iinc (q := 75) C 3 [(0, .ref (x 0)), (1, .int (iI (k))), (2, .long (lI (t + (wtOf PW (rdAt RP RS rn k (sgAt KS kn (i - 1))) (rdAt RP RS rn k (sgAt KS kn i)))))), (4, .int (iI (i + 1))), (5, .int (iI (rdAt RP RS rn k (sgAt KS kn (i - 1))))), (6, .int (iI (rdAt RP RS rn k (sgAt KS kn i))))] rfl rfl (by decide) d_C_rankOfKept_72 rfl ?_
        refine j_goto C 5 d_C_rankOfKept_75 rfl ?_
        refine j_lv [0, 1, 2, 3] rfl ?_
        exact ih (i + 1) _ (by omega) (by rw [show i + 1 - 1 = i from by omega, smI_s _ i0.1, ← i1]; rfl) (by omega)
  exact lp5 61 1 0 (by omega) rfl (by omega)
set_option maxRecDepth 100000 in
set_option maxHeartbeats 4000000 in
theorem c_C_rank {l : Launch} {D : va_G} (kI kZ : ClassId) (x : Nat → Nat) (KS KB KE KZ KV : Nat → Int) (kn kw : Int) (hK : IK KS KB KE KZ KV kn kw) (RP RS : Nat → Int) (rn : Int) (hR : IR RP RS rn) (PW : Nat → Int) (hP : ∀ j, -1000 ≤ PW j ∧ PW j ≤ 1000) (k : Int) (hk : (-2147483648 ≤ k ∧ k < 2147483648)) : Dt l D (ty2 kI kZ) y_C_rank w_C_rank { frames := 3, cells := 0, slots := 0, locals := 69 } [.ref (x 0), .int (iI (k))] (wC kI kZ x ++ wK kI kZ x KS KB KE KZ KV kn kw ++ wR kI kZ x RP RS rn ++ wP kI kZ x PW) (some (.long (lI (if 0 ≤ k ∧ k < rn then rkC KS kn RP RS rn PW k else 0)))) (wC kI kZ x ++ wK kI kZ x KS KB KE KZ KV kn kw ++ wR kI kZ x RP RS rn ++ wP kI kZ x PW) := by
  refine Met.toJ (own := R_C) (QD D (some (.long (lI (if 0 ≤ k ∧ k < rn then rkC KS kn RP RS rn PW k else 0)))) (wC kI kZ x ++ wK kI kZ x KS KB KE KZ KV kn kw ++ wR kI kZ x RP RS rn ++ wP kI kZ x PW)) mk_C_rank rfl (Nat.le_of_ble_eq_true rfl) ?_
  intro p e s m args below meth c A C hr hlk hnm
  show JJ p l e { frames := 3, cells := 0, slots := 0, locals := 69 } s m args below meth c D A 2 (MQ below (QD D (some (.long (lI (if 0 ≤ k ∧ k < rn then rkC KS kn RP RS rn PW k else 0)))) (wC kI kZ x ++ wK kI kZ x KS KB KE KZ KV kn kw ++ wR kI kZ x RP RS rn ++ wP kI kZ x PW) A) args s 0 0 A) 0 0 0 [(0, .ref (x 0)), (1, .int (iI (k)))] [] (wC kI kZ x ++ wK kI kZ x KS KB KE KZ KV kn kw ++ wR kI kZ x RP RS rn ++ wP kI kZ x PW)
  obtain ⟨hkn, hkw, hKS, hKB, hKE, hKZ, hKV⟩ := id hK
  obtain ⟨hrn, hRP, hRS⟩ := id hR
  refine j_aload_n (q := 1) C 0 rfl d_C_rank_0 rfl ?_
  refine j_get (q := 4) C i_C rfl 0 rfl 3 (by decide) rfl rfl fl_C_33 d_C_rank_1 rfl ?_
  refine j_iload_n (q := 5) C 1 rfl d_C_rank_4 rfl ?_
  have e5 := hsR_r rn k
  refine j_callV (q := 8) (wr := wC kI kZ x ++ wK kI kZ x KS KB KE KZ KV kn kw ++ wP kI kZ x PW) C [.int (iI (k))] [] (c_R_has kI kZ x RP RS rn hR k (by omega)) ml_C_105 mk_R_has in_R_has se_R_has rfl rfl rfl [7, 8, 9] [0, 1, 2, 3, 4, 5, 6, 10, 11] [0, 1, 2, 3, 4, 5, 6, 9, 10, 11, 7, 8] rfl (by decide) rfl (by decide) (by decide) (wC kI kZ x ++ wK kI kZ x KS KB KE KZ KV kn kw ++ wR kI kZ x RP RS rn ++ wP kI kZ x PW) rfl (by decide) rfl rfl rfl (Nat.le_of_ble_eq_true rfl) ⟨Nat.le_of_ble_eq_true rfl, Nat.le_of_ble_eq_true rfl⟩ ⟨Nat.le_of_ble_eq_true rfl, Nat.le_of_ble_eq_true rfl⟩ d_C_rank_5 rfl ?_
  refine j_if_eq C 19 11 d_C_rank_8 rfl rfl (by omega) (fun c1 => ?_) (fun c1 => ?_)
  · have c1 := hsR_0 c1
    refine j_lconst0 (q := 20) C d_C_rank_19 rfl ?_
    exact j_lret C hr hlk d_C_rank_20 (congrArg (fun z => some (Value.long (lI z))) (show (if 0 ≤ k ∧ k < rn then rkC KS kn RP RS rn PW k else 0) = (0) from by split <;> first | rfl | omega)) rfl
  · have c1 := hsR_1 c1
    refine j_aload_n (q := 12) C 0 rfl d_C_rank_11 rfl ?_
    refine j_iload_n (q := 13) C 1 rfl d_C_rank_12 rfl ?_
    have e13 := rkC_r (KS := KS) (RP := RP) (RS := RS) (rn := rn) hP hkn k
    refine j_callV (q := 16) (wr := []) C [.int (iI (k))] [] (c_C_rankOfKept kI kZ x KS KB KE KZ KV kn kw hK RP RS rn hR PW hP k (by omega)) ml_C_108 mk_C_rankOfKept in_C_rankOfKept se_C_rankOfKept rfl rfl rfl [0, 1, 2, 3, 4, 5, 6, 7, 8, 9, 10, 11] [] [0, 1, 2, 3, 4, 5, 6, 7, 8, 9, 10, 11] rfl (by decide) rfl (by decide) (by decide) (wC kI kZ x ++ wK kI kZ x KS KB KE KZ KV kn kw ++ wR kI kZ x RP RS rn ++ wP kI kZ x PW) rfl (by decide) rfl rfl rfl (Nat.le_of_ble_eq_true rfl) ⟨Nat.le_of_ble_eq_true rfl, Nat.le_of_ble_eq_true rfl⟩ ⟨Nat.le_of_ble_eq_true rfl, Nat.le_of_ble_eq_true rfl⟩ d_C_rank_13 rfl ?_
    refine j_goto C 20 d_C_rank_16 rfl ?_
    exact j_lret C hr hlk d_C_rank_20 (congrArg (fun z => some (Value.long (lI z))) (show (if 0 ≤ k ∧ k < rn then rkC KS kn RP RS rn PW k else 0) = (rkC KS kn RP RS rn PW k) from by split <;> first | rfl | omega)) rfl
set_option maxRecDepth 100000 in
set_option maxHeartbeats 4000000 in
theorem c_C_best {l : Launch} {D : va_G} (kI kZ : ClassId) (x : Nat → Nat) (KS KB KE KZ KV : Nat → Int) (kn kw : Int) (hK : IK KS KB KE KZ KV kn kw) (RP RS : Nat → Int) (rn : Int) (hR : IR RP RS rn) (PW : Nat → Int) (hP : ∀ j, -1000 ≤ PW j ∧ PW j ≤ 1000) : Dt l D (ty2 kI kZ) y_C_best w_C_best { frames := 3, cells := 0, slots := 0, locals := 69 } [.ref (x 0)] (wC kI kZ x ++ wK kI kZ x KS KB KE KZ KV kn kw ++ wR kI kZ x RP RS rn ++ wP kI kZ x PW) (some (.int (iI ((bsI (rkC KS kn RP RS rn PW) rn.toNat).1)))) (wC kI kZ x ++ wK kI kZ x KS KB KE KZ KV kn kw ++ wR kI kZ x RP RS rn ++ wP kI kZ x PW) := by
  refine Met.toJ (own := R_C) (QD D (some (.int (iI ((bsI (rkC KS kn RP RS rn PW) rn.toNat).1)))) (wC kI kZ x ++ wK kI kZ x KS KB KE KZ KV kn kw ++ wR kI kZ x RP RS rn ++ wP kI kZ x PW)) mk_C_best rfl (Nat.le_of_ble_eq_true rfl) ?_
  intro p e s m args below meth c A C hr hlk hnm
  show JJ p l e { frames := 3, cells := 0, slots := 0, locals := 69 } s m args below meth c D A 7 (MQ below (QD D (some (.int (iI ((bsI (rkC KS kn RP RS rn PW) rn.toNat).1)))) (wC kI kZ x ++ wK kI kZ x KS KB KE KZ KV kn kw ++ wR kI kZ x RP RS rn ++ wP kI kZ x PW) A) args s 0 0 A) 0 0 0 [(0, .ref (x 0))] [] (wC kI kZ x ++ wK kI kZ x KS KB KE KZ KV kn kw ++ wR kI kZ x RP RS rn ++ wP kI kZ x PW)
  obtain ⟨hkn, hkw, hKS, hKB, hKE, hKZ, hKV⟩ := id hK
  obtain ⟨hrn, hRP, hRS⟩ := id hR
  refine j_iconst (q := 1) C d_C_best_0 rfl ?_
  refine j_istore_n (q := 2) C [(0, .ref (x 0)), (1, .int (iI (-1)))] rfl (by decide) d_C_best_1 rfl ?_
  refine j_lconst0 (q := 3) C d_C_best_2 rfl ?_
  refine j_lstore_n (q := 4) C [(0, .ref (x 0)), (1, .int (iI (-1))), (2, .long (lI (0)))] rfl (by decide) d_C_best_3 rfl ?_
  refine j_iconst (q := 5) C d_C_best_4 rfl ?_
  refine j_istore (q := 7) C [(0, .ref (x 0)), (1, .int (iI (-1))), (2, .long (lI (0))), (4, .int (iI (0)))] rfl (by decide) d_C_best_5 rfl ?_
  have lp7 : ∀ (N : Nat) (i b t : Int), (0 ≤ i ∧ i ≤ rn) → ((b, t) = bsI (rkC KS kn RP RS rn PW) i.toNat) → ((-1 ≤ b ∧ b ≤ i) ∧ (-100000 ≤ t ∧ t ≤ 100000)) → (rn - i).toNat < N → JJ p l e { frames := 3, cells := 0, slots := 0, locals := 69 } s m args below meth c D A 7 (MQ below (QD D (some (.int (iI ((bsI (rkC KS kn RP RS rn PW) rn.toNat).1)))) (wC kI kZ x ++ wK kI kZ x KS KB KE KZ KV kn kw ++ wR kI kZ x RP RS rn ++ wP kI kZ x PW) A) args s 0 0 A) 0 0 7 [(0, .ref (x 0)), (1, .int (iI (b))), (2, .long (lI (t))), (4, .int (iI (i)))] [] (wC kI kZ x ++ wK kI kZ x KS KB KE KZ KV kn kw ++ wR kI kZ x RP RS rn ++ wP kI kZ x PW) := by
    intro N
    induction N with
    | zero =>
      intro i b t i0 i1 i2 hN
      omega
    | succ N ih =>
      intro i b t i0 i1 i2 hN
      refine j_iload (q := 9) C 3 rfl d_C_best_7 rfl ?_
      refine j_aload_n (q := 10) C 0 rfl d_C_best_9 rfl ?_
      refine j_get (q := 13) C i_C rfl 0 rfl 3 (by decide) rfl rfl fl_C_33 d_C_best_10 rfl ?_
      refine j_callV (q := 16) (wr := wC kI kZ x ++ wK kI kZ x KS KB KE KZ KV kn kw ++ wP kI kZ x PW) C [] [.int (iI (i))] (c_R_size kI kZ x RP RS rn hR) ml_C_112 mk_R_size in_R_size se_R_size rfl rfl rfl [7, 8, 9] [0, 1, 2, 3, 4, 5, 6, 10, 11] [0, 1, 2, 3, 4, 5, 6, 9, 10, 11, 7, 8] rfl (by decide) rfl (by decide) (by decide) (wC kI kZ x ++ wK kI kZ x KS KB KE KZ KV kn kw ++ wR kI kZ x RP RS rn ++ wP kI kZ x PW) rfl (by decide) rfl rfl rfl (Nat.le_of_ble_eq_true rfl) ⟨Nat.le_of_ble_eq_true rfl, Nat.le_of_ble_eq_true rfl⟩ ⟨Nat.le_of_ble_eq_true rfl, Nat.le_of_ble_eq_true rfl⟩ d_C_best_13 rfl ?_
      refine j_icmp_ge C 51 19 d_C_best_16 rfl rfl (by omega) (by omega) (fun c1 => ?_) (fun c1 => ?_)
      · refine j_iload_n (q := 52) C 1 rfl d_C_best_51 rfl ?_
        exact j_iret C hr hlk d_C_best_52 (congrArg (fun z => some (Value.int (iI z))) (show ((bsI (rkC KS kn RP RS rn PW) rn.toNat).1) = (b) from by rw [show rn.toNat = i.toNat from by omega, ← i1])) rfl
      · refine j_aload_n (q := 20) C 0 rfl d_C_best_19 rfl ?_
        refine j_iload (q := 22) C 3 rfl d_C_best_20 rfl ?_
        have e22 := rkC_r (KS := KS) (RP := RP) (RS := RS) (rn := rn) hP hkn i
        refine j_callV (q := 25) (wr := []) C [.int (iI (i))] [] (c_C_rankOfKept kI kZ x KS KB KE KZ KV kn kw hK RP RS rn hR PW hP i (by omega)) ml_C_108 mk_C_rankOfKept in_C_rankOfKept se_C_rankOfKept rfl rfl rfl [0, 1, 2, 3, 4, 5, 6, 7, 8, 9, 10, 11] [] [0, 1, 2, 3, 4, 5, 6, 7, 8, 9, 10, 11] rfl (by decide) rfl (by decide) (by decide) (wC kI kZ x ++ wK kI kZ x KS KB KE KZ KV kn kw ++ wR kI kZ x RP RS rn ++ wP kI kZ x PW) rfl (by decide) rfl rfl rfl (Nat.le_of_ble_eq_true rfl) ⟨Nat.le_of_ble_eq_true rfl, Nat.le_of_ble_eq_true rfl⟩ ⟨Nat.le_of_ble_eq_true rfl, Nat.le_of_ble_eq_true rfl⟩ d_C_best_22 rfl ?_
        refine j_lstore (q := 27) C [(0, .ref (x 0)), (1, .int (iI (b))), (2, .long (lI (t))), (4, .int (iI (i))), (5, .long (lI (rkC KS kn RP RS rn PW i)))] rfl (by decide) d_C_best_25 rfl ?_
        refine j_iload_n (q := 28) C 1 rfl d_C_best_27 rfl ?_
        refine j_iconst (q := 29) C d_C_best_28 rfl ?_
        refine j_icmp_eq C 39 32 d_C_best_29 rfl rfl (by omega) (by omega) (fun c2 => ?_) (fun c2 => ?_)
        · refine j_iload (q := 41) C 3 rfl d_C_best_39 rfl ?_
          refine j_istore_n (q := 42) C [(0, .ref (x 0)), (1, .int (iI (i))), (2, .long (lI (t))), (4, .int (iI (i))), (5, .long (lI (rkC KS kn RP RS rn PW i)))] rfl (by decide) d_C_best_41 rfl ?_
          refine j_lload (q := 44) C 4 rfl d_C_best_42 rfl ?_
          refine j_lstore_n (q := 45) C [(0, .ref (x 0)), (1, .int (iI (i))), (2, .long (lI (rkC KS kn RP RS rn PW i))), (4, .int (iI (i))), (5, .long (lI (rkC KS kn RP RS rn PW i)))] rfl (by decide) d_C_best_44 rfl ?_
          refine j_iinc (q := 48) C 3 [(0, .ref (x 0)), (1, .int (iI (i))), (2, .long (lI (rkC KS kn RP RS rn PW i))), (4, .int (iI (i + 1))), (5, .long (lI (rkC KS kn RP RS rn PW i)))] rfl rfl (by decide) d_C_best_45 rfl ?_
          refine j_goto C 7 d_C_best_48 rfl ?_
          refine j_lv [0, 1, 2, 3] rfl ?_
          exact ih (i + 1) _ _ (by omega) (by rw [bsI_s _ i0.1, ← i1]; first | rw [if_pos (by dsimp only; omega)] | rw [if_neg (by dsimp only; omega)]) (by omega) (by omega)
        · refine j_lload (q := 34) C 4 rfl d_C_best_32 rfl ?_
          refine j_lload_n (q := 35) C 2 rfl d_C_best_34 rfl ?_
          refine j_lcmp (q := 36) C (by omega) (by omega) d_C_best_35 rfl ?_
          have r36 : -1 ≤ (if t < rkC KS kn RP RS rn PW i then (1 : Int) else if rkC KS kn RP RS rn PW i = t then 0 else -1) ∧ (if t < rkC KS kn RP RS rn PW i then (1 : Int) else if rkC KS kn RP RS rn PW i = t then 0 else -1) ≤ 1 := by split <;> (try split) <;> omega
          refine j_if_le C 45 39 d_C_best_36 rfl rfl (by omega) (fun c3 => ?_) (fun c3 => ?_)
          · have c3 : rkC KS kn RP RS rn PW i ≤ t := by split at c3 <;> (try split at c3) <;> omega
            refine j_iinc (q := 48) C 3 [(0, .ref (x 0)), (1, .int (iI (b))), (2, .long (lI (t))), (4, .int (iI (i + 1))), (5, .long (lI (rkC KS kn RP RS rn PW i)))] rfl rfl (by decide) d_C_best_45 rfl ?_
            refine j_goto C 7 d_C_best_48 rfl ?_
            refine j_lv [0, 1, 2, 3] rfl ?_
            exact ih (i + 1) _ _ (by omega) (by rw [bsI_s _ i0.1, ← i1]; first | rw [if_pos (by dsimp only; omega)] | rw [if_neg (by dsimp only; omega)]) (by omega) (by omega)
          · have c3 : t < rkC KS kn RP RS rn PW i := by split at c3 <;> (try split at c3) <;> omega
            refine j_iload (q := 41) C 3 rfl d_C_best_39 rfl ?_
            refine j_istore_n (q := 42) C [(0, .ref (x 0)), (1, .int (iI (i))), (2, .long (lI (t))), (4, .int (iI (i))), (5, .long (lI (rkC KS kn RP RS rn PW i)))] rfl (by decide) d_C_best_41 rfl ?_
            refine j_lload (q := 44) C 4 rfl d_C_best_42 rfl ?_
            refine j_lstore_n (q := 45) C [(0, .ref (x 0)), (1, .int (iI (i))), (2, .long (lI (rkC KS kn RP RS rn PW i))), (4, .int (iI (i))), (5, .long (lI (rkC KS kn RP RS rn PW i)))] rfl (by decide) d_C_best_44 rfl ?_
            refine j_iinc (q := 48) C 3 [(0, .ref (x 0)), (1, .int (iI (i))), (2, .long (lI (rkC KS kn RP RS rn PW i))), (4, .int (iI (i + 1))), (5, .long (lI (rkC KS kn RP RS rn PW i)))] rfl rfl (by decide) d_C_best_45 rfl ?_
            refine j_goto C 7 d_C_best_48 rfl ?_
            refine j_lv [0, 1, 2, 3] rfl ?_
            exact ih (i + 1) _ _ (by omega) (by rw [bsI_s _ i0.1, ← i1]; first | rw [if_pos (by dsimp only; omega)] | rw [if_neg (by dsimp only; omega)]) (by omega) (by omega)
  exact lp7 (rn.toNat + 1) 0 (-1) 0 (by omega) rfl (by omega) (by omega)
noncomputable def hiC (KZ KV RP RS : Nat → Int) (rn : Int) : Int := lst (fun n => (¬ ctK KZ n = 0 ∧ kpAt KV n = -1) ∧ ¬ cmP RP RS rn n = -1) 26
theorem hiC_r (KZ KV RP RS : Nat → Int) (rn : Int) : 0 ≤ hiC KZ KV RP RS rn ∧ hiC KZ KV RP RS rn ≤ 26 := by
  unfold hiC
  rcases lst_sp (fun n => (¬ ctK KZ n = 0 ∧ kpAt KV n = -1) ∧ ¬ cmP RP RS rn n = -1) 26 with ⟨h1, h2, -, -⟩ | ⟨h1, -⟩ <;> omega

set_option maxRecDepth 100000 in
set_option maxHeartbeats 4000000 in
theorem c_C_hint {l : Launch} {D : va_G} (kI kZ : ClassId) (x : Nat → Nat) (KS KB KE KZ KV : Nat → Int) (kn kw : Int) (hK : IK KS KB KE KZ KV kn kw) (RP RS : Nat → Int) (rn : Int) (hR : IR RP RS rn) : Dt l D (ty2 kI kZ) y_C_hint w_C_hint { frames := 3, cells := 0, slots := 0, locals := 66 } [.ref (x 0)] (wC kI kZ x ++ wK kI kZ x KS KB KE KZ KV kn kw ++ wR kI kZ x RP RS rn) (some (.int (iI (if hiC KZ KV RP RS rn < 26 then hiC KZ KV RP RS rn else -1)))) (wC kI kZ x ++ wK kI kZ x KS KB KE KZ (if hiC KZ KV RP RS rn < 26 then uI KV (hiC KZ KV RP RS rn).toNat (cmP RP RS rn (hiC KZ KV RP RS rn)) else KV) kn kw ++ wR kI kZ x RP RS rn) := by
  refine Met.toJ (own := R_C) (QD D (some (.int (iI (if hiC KZ KV RP RS rn < 26 then hiC KZ KV RP RS rn else -1)))) (wC kI kZ x ++ wK kI kZ x KS KB KE KZ (if hiC KZ KV RP RS rn < 26 then uI KV (hiC KZ KV RP RS rn).toNat (cmP RP RS rn (hiC KZ KV RP RS rn)) else KV) kn kw ++ wR kI kZ x RP RS rn)) mk_C_hint rfl (Nat.le_of_ble_eq_true rfl) ?_
  intro p e s m args below meth c A C hr hlk hnm
  show JJ p l e { frames := 3, cells := 0, slots := 0, locals := 66 } s m args below meth c D A 3 (MQ below (QD D (some (.int (iI (if hiC KZ KV RP RS rn < 26 then hiC KZ KV RP RS rn else -1)))) (wC kI kZ x ++ wK kI kZ x KS KB KE KZ (if hiC KZ KV RP RS rn < 26 then uI KV (hiC KZ KV RP RS rn).toNat (cmP RP RS rn (hiC KZ KV RP RS rn)) else KV) kn kw ++ wR kI kZ x RP RS rn) A) args s 0 0 A) 0 0 0 [(0, .ref (x 0))] [] (wC kI kZ x ++ wK kI kZ x KS KB KE KZ KV kn kw ++ wR kI kZ x RP RS rn)
  obtain ⟨hkn, hkw, hKS, hKB, hKE, hKZ, hKV⟩ := id hK
  obtain ⟨hrn, hRP, hRS⟩ := id hR
  refine j_iconst (q := 1) C d_C_hint_0 rfl ?_
  refine j_istore_n (q := 2) C [(0, .ref (x 0)), (1, .int (iI (0)))] rfl (by decide) d_C_hint_1 rfl ?_
  have lp2 : ∀ (N : Nat) (i : Int), (0 ≤ i ∧ i ≤ 26) → (∀ j, 0 ≤ j → j < i → ¬ ((¬ ctK KZ j = 0 ∧ kpAt KV j = -1) ∧ ¬ cmP RP RS rn j = -1)) → (26 - i).toNat < N → JJ p l e { frames := 3, cells := 0, slots := 0, locals := 66 } s m args below meth c D A 3 (MQ below (QD D (some (.int (iI (if hiC KZ KV RP RS rn < 26 then hiC KZ KV RP RS rn else -1)))) (wC kI kZ x ++ wK kI kZ x KS KB KE KZ (if hiC KZ KV RP RS rn < 26 then uI KV (hiC KZ KV RP RS rn).toNat (cmP RP RS rn (hiC KZ KV RP RS rn)) else KV) kn kw ++ wR kI kZ x RP RS rn) A) args s 0 0 A) 0 0 2 [(0, .ref (x 0)), (1, .int (iI (i)))] [] (wC kI kZ x ++ wK kI kZ x KS KB KE KZ KV kn kw ++ wR kI kZ x RP RS rn) := by
    intro N
    induction N with
    | zero =>
      intro i i0 i1 hN
      omega
    | succ N ih =>
      intro i i0 i1 hN
      refine j_iload_n (q := 3) C 1 rfl d_C_hint_2 rfl ?_
      refine j_bipush (q := 5) C d_C_hint_3 rfl rfl ?_
      refine j_icmp_ge C 62 8 d_C_hint_5 rfl rfl (by omega) (by omega) (fun c1 => ?_) (fun c1 => ?_)
      · have f63 : hiC KZ KV RP RS rn = 26 := lst_no (fun j h1 h2 => i1 j h1 (by omega))
        refine j_iconst (q := 63) C d_C_hint_62 rfl ?_
        exact j_iret C hr hlk d_C_hint_63 (congrArg (fun z => some (Value.int (iI z))) (show (if hiC KZ KV RP RS rn < 26 then hiC KZ KV RP RS rn else -1) = (-1) from by rw [f63, if_neg (by omega)])) (by rw [f63, if_neg (by omega)])
      · refine j_aload_n (q := 9) C 0 rfl d_C_hint_8 rfl ?_
        refine j_get (q := 12) C i_C rfl 0 rfl 1 (by decide) rfl rfl fl_C_19 d_C_hint_9 rfl ?_
        refine j_iload_n (q := 13) C 1 rfl d_C_hint_12 rfl ?_
        have e13 := ctK_r KZ i
        refine j_callV (q := 16) (wr := wC kI kZ x ++ wR kI kZ x RP RS rn) C [.int (iI (i))] [] (c_K_contains kI kZ x KS KB KE KZ KV kn kw hK i (by omega)) ml_C_115 mk_K_contains in_K_contains se_K_contains rfl rfl rfl [1, 2, 3, 4, 5, 6] [0, 7, 8, 9] [0, 4, 5, 6, 7, 8, 9, 1, 2, 3] rfl (by decide) rfl (by decide) (by decide) (wC kI kZ x ++ wK kI kZ x KS KB KE KZ KV kn kw ++ wR kI kZ x RP RS rn) rfl (by decide) rfl rfl rfl (Nat.le_of_ble_eq_true rfl) ⟨Nat.le_of_ble_eq_true rfl, Nat.le_of_ble_eq_true rfl⟩ ⟨Nat.le_of_ble_eq_true rfl, Nat.le_of_ble_eq_true rfl⟩ d_C_hint_13 rfl ?_
        refine j_if_eq C 56 19 d_C_hint_16 rfl rfl (by omega) (fun c2 => ?_) (fun c2 => ?_)
        · refine j_iinc (q := 59) C 1 [(0, .ref (x 0)), (1, .int (iI (i + 1)))] rfl rfl (by decide) d_C_hint_56 rfl ?_
          refine j_goto C 2 d_C_hint_59 rfl ?_
          refine j_lv [0, 1] rfl ?_
          exact ih (i + 1) (by omega) (fun j h1 h2 => by rcases (show j < i ∨ j = i by omega) with h | h; exact i1 j h1 h; rw [h]; omega) (by omega)
        · refine j_aload_n (q := 20) C 0 rfl d_C_hint_19 rfl ?_
          refine j_get (q := 23) C i_C rfl 0 rfl 1 (by decide) rfl rfl fl_C_19 d_C_hint_20 rfl ?_
          refine j_iload_n (q := 24) C 1 rfl d_C_hint_23 rfl ?_
          have e24 := kpAt_r hKV i
          refine j_callV (q := 27) (wr := wC kI kZ x ++ wR kI kZ x RP RS rn) C [.int (iI (i))] [] (c_K_keptPlace kI kZ x KS KB KE KZ KV kn kw hK i (by omega)) ml_C_118 mk_K_keptPlace in_K_keptPlace se_K_keptPlace rfl rfl rfl [1, 2, 3, 4, 5, 6] [0, 7, 8, 9] [0, 4, 5, 6, 7, 8, 9, 1, 2, 3] rfl (by decide) rfl (by decide) (by decide) (wC kI kZ x ++ wK kI kZ x KS KB KE KZ KV kn kw ++ wR kI kZ x RP RS rn) rfl (by decide) rfl rfl rfl (Nat.le_of_ble_eq_true rfl) ⟨Nat.le_of_ble_eq_true rfl, Nat.le_of_ble_eq_true rfl⟩ ⟨Nat.le_of_ble_eq_true rfl, Nat.le_of_ble_eq_true rfl⟩ d_C_hint_24 rfl ?_
          refine j_iconst (q := 28) C d_C_hint_27 rfl ?_
          refine j_icmp_ne C 56 31 d_C_hint_28 rfl rfl (by omega) (by omega) (fun c3 => ?_) (fun c3 => ?_)
          · refine j_iinc (q := 59) C 1 [(0, .ref (x 0)), (1, .int (iI (i + 1)))] rfl rfl (by decide) d_C_hint_56 rfl ?_
            refine j_goto C 2 d_C_hint_59 rfl ?_
            refine j_lv [0, 1] rfl ?_
            exact ih (i + 1) (by omega) (fun j h1 h2 => by rcases (show j < i ∨ j = i by omega) with h | h; exact i1 j h1 h; rw [h]; omega) (by omega)
          · refine j_aload_n (q := 32) C 0 rfl d_C_hint_31 rfl ?_
            refine j_get (q := 35) C i_C rfl 0 rfl 3 (by decide) rfl rfl fl_C_33 d_C_hint_32 rfl ?_
            refine j_iload_n (q := 36) C 1 rfl d_C_hint_35 rfl ?_
            have e36 := cmP_r hR i
            refine j_callV (q := 39) (wr := wC kI kZ x ++ wK kI kZ x KS KB KE KZ KV kn kw) C [.int (iI (i))] [] (c_R_commonPlace kI kZ x RP RS rn hR i (by omega)) ml_C_121 mk_R_commonPlace in_R_commonPlace se_R_commonPlace rfl rfl rfl [7, 8, 9] [0, 1, 2, 3, 4, 5, 6] [0, 1, 2, 3, 4, 5, 6, 7, 8, 9] rfl (by decide) rfl (by decide) (by decide) (wC kI kZ x ++ wK kI kZ x KS KB KE KZ KV kn kw ++ wR kI kZ x RP RS rn) rfl (by decide) rfl rfl rfl (Nat.le_of_ble_eq_true rfl) ⟨Nat.le_of_ble_eq_true rfl, Nat.le_of_ble_eq_true rfl⟩ ⟨Nat.le_of_ble_eq_true rfl, Nat.le_of_ble_eq_true rfl⟩ d_C_hint_36 rfl ?_
            refine j_istore_n (q := 40) C [(0, .ref (x 0)), (1, .int (iI (i))), (2, .int (iI (cmP RP RS rn i)))] rfl (by decide) d_C_hint_39 rfl ?_
            refine j_iload_n (q := 41) C 2 rfl d_C_hint_40 rfl ?_
            refine j_iconst (q := 42) C d_C_hint_41 rfl ?_
            refine j_icmp_eq C 56 45 d_C_hint_42 rfl rfl (by omega) (by omega) (fun c4 => ?_) (fun c4 => ?_)
            · refine j_iinc (q := 59) C 1 [(0, .ref (x 0)), (1, .int (iI (i + 1))), (2, .int (iI (cmP RP RS rn i)))] rfl rfl (by decide) d_C_hint_56 rfl ?_
              refine j_goto C 2 d_C_hint_59 rfl ?_
              refine j_lv [0, 1] rfl ?_
              exact ih (i + 1) (by omega) (fun j h1 h2 => by rcases (show j < i ∨ j = i by omega) with h | h; exact i1 j h1 h; rw [h]; omega) (by omega)
            · refine j_aload_n (q := 46) C 0 rfl d_C_hint_45 rfl ?_
              refine j_get (q := 49) C i_C rfl 0 rfl 1 (by decide) rfl rfl fl_C_19 d_C_hint_46 rfl ?_
              refine j_iload_n (q := 50) C 1 rfl d_C_hint_49 rfl ?_
              refine j_iload_n (q := 51) C 2 rfl d_C_hint_50 rfl ?_
              refine j_callV (q := 54) (wr := wC kI kZ x ++ wR kI kZ x RP RS rn) C [.int (iI (i)), .int (iI (cmP RP RS rn i))] [] (c_K_keepPlace kI kZ x KS KB KE KZ KV kn kw hK i (cmP RP RS rn i) (by omega) (by omega)) ml_C_83 mk_K_keepPlace in_K_keepPlace se_K_keepPlace rfl rfl rfl [1, 2, 3, 4, 5, 6] [0, 7, 8, 9] [0, 4, 5, 6, 7, 8, 9, 1, 2, 3] rfl (by decide) rfl (by decide) (by decide) (wC kI kZ x ++ wK kI kZ x KS KB KE KZ (if 0 ≤ i ∧ i < 26 then uI KV i.toNat (cmP RP RS rn i) else KV) kn kw ++ wR kI kZ x RP RS rn) rfl (by decide) rfl rfl rfl (Nat.le_of_ble_eq_true rfl) ⟨Nat.le_of_ble_eq_true rfl, Nat.le_of_ble_eq_true rfl⟩ ⟨Nat.le_of_ble_eq_true rfl, Nat.le_of_ble_eq_true rfl⟩ d_C_hint_51 rfl ?_
              have f55 : hiC KZ KV RP RS rn = i := lst_at i0.1 (by omega) ⟨⟨by omega, by omega⟩, by omega⟩ i1
              refine j_iload_n (q := 55) C 1 rfl d_C_hint_54 rfl ?_
              first | (exfalso; omega) | exact j_iret C hr hlk d_C_hint_55 (congrArg (fun z => some (Value.int (iI z))) (show (if hiC KZ KV RP RS rn < 26 then hiC KZ KV RP RS rn else -1) = (i) from by rw [f55, if_pos (by omega)])) (by rw [f55, if_pos (by omega), if_pos (by omega)])
  exact lp2 27 0 (by omega) (fun j h1 h2 => by omega) (by omega)
set_option maxRecDepth 100000 in
set_option maxHeartbeats 4000000 in
theorem c_C_shiftedSum {l : Launch} {D : va_G} (kI kZ : ClassId) (x : Nat → Nat) (PW : Nat → Int) (hP : ∀ j, -1000 ≤ PW j ∧ PW j ≤ 1000) (XP : Nat → Int) (xn : Int) (hX : IX XP xn) (t0 : Int) (ht : 0 ≤ t0 ∧ t0 < 26) : Dt l D (ty2 kI kZ) y_C_shiftedSum w_C_shiftedSum { frames := 2, cells := 0, slots := 0, locals := 42 } [.ref (x 0), .int (iI (t0))] (wC kI kZ x ++ wP kI kZ x PW ++ wX kI kZ x XP xn) (some (.long (lI (shC PW XP xn t0)))) (wC kI kZ x ++ wP kI kZ x PW ++ wX kI kZ x XP xn) := by
  refine Met.toJ (own := R_C) (QD D (some (.long (lI (shC PW XP xn t0)))) (wC kI kZ x ++ wP kI kZ x PW ++ wX kI kZ x XP xn)) mk_C_shiftedSum rfl (Nat.le_of_ble_eq_true rfl) ?_
  intro p e s m args below meth c A C hr hlk hnm
  show JJ p l e { frames := 2, cells := 0, slots := 0, locals := 42 } s m args below meth c D A 7 (MQ below (QD D (some (.long (lI (shC PW XP xn t0)))) (wC kI kZ x ++ wP kI kZ x PW ++ wX kI kZ x XP xn) A) args s 0 0 A) 0 0 0 [(0, .ref (x 0)), (1, .int (iI (t0)))] [] (wC kI kZ x ++ wP kI kZ x PW ++ wX kI kZ x XP xn)
  obtain ⟨hxn, hXP⟩ := id hX
  refine j_lconst0 (q := 1) C d_C_shiftedSum_0 rfl ?_
  refine j_lstore_n (q := 2) C [(0, .ref (x 0)), (1, .int (iI (t0))), (2, .long (lI (0)))] rfl (by decide) d_C_shiftedSum_1 rfl ?_
  refine j_iconst (q := 3) C d_C_shiftedSum_2 rfl ?_
  refine j_istore (q := 5) C [(0, .ref (x 0)), (1, .int (iI (t0))), (2, .long (lI (0))), (4, .int (iI (1)))] rfl (by decide) d_C_shiftedSum_3 rfl ?_
  have lp5 : ∀ (N : Nat) (i t : Int), (1 ≤ i ∧ i ≤ 61 ∧ (i ≤ xn ∨ i = 1)) → (t = smI (shG PW XP xn t0) (i - 1).toNat) → (61 - i).toNat < N → JJ p l e { frames := 2, cells := 0, slots := 0, locals := 42 } s m args below meth c D A 7 (MQ below (QD D (some (.long (lI (shC PW XP xn t0)))) (wC kI kZ x ++ wP kI kZ x PW ++ wX kI kZ x XP xn) A) args s 0 0 A) 0 0 5 [(0, .ref (x 0)), (1, .int (iI (t0))), (2, .long (lI (t))), (4, .int (iI (i)))] [] (wC kI kZ x ++ wP kI kZ x PW ++ wX kI kZ x XP xn) := by
    intro N
    induction N with
    | zero =>
      intro i t i0 i1 hN
      omega
    | succ N ih =>
      intro i t i0 i1 hN
      refine j_iload (q := 7) C 3 rfl d_C_shiftedSum_5 rfl ?_
      refine j_aload_n (q := 8) C 0 rfl d_C_shiftedSum_7 rfl ?_
      refine j_get (q := 11) C i_C rfl 0 rfl 5 (by decide) rfl rfl fl_C_49 d_C_shiftedSum_8 rfl ?_
      refine j_callV (q := 14) (wr := wC kI kZ x ++ wP kI kZ x PW) C [] [.int (iI (i))] (c_X_size kI kZ x XP xn hX) ml_C_164 mk_X_size in_X_size se_X_size rfl rfl rfl [3, 4] [0, 1, 2] [0, 1, 2, 3, 4] rfl (by decide) rfl (by decide) (by decide) (wC kI kZ x ++ wP kI kZ x PW ++ wX kI kZ x XP xn) rfl (by decide) rfl rfl rfl (Nat.le_of_ble_eq_true rfl) ⟨Nat.le_of_ble_eq_true rfl, Nat.le_of_ble_eq_true rfl⟩ ⟨Nat.le_of_ble_eq_true rfl, Nat.le_of_ble_eq_true rfl⟩ d_C_shiftedSum_11 rfl ?_
      refine j_icmp_ge C 70 17 d_C_shiftedSum_14 rfl rfl (by omega) (by omega) (fun c1 => ?_) (fun c1 => ?_)
      · refine j_lload_n (q := 71) C 2 rfl d_C_shiftedSum_70 rfl ?_
        exact j_lret C hr hlk d_C_shiftedSum_71 (congrArg (fun z => some (Value.long (lI z))) (show (shC PW XP xn t0) = (t) from by unfold shC; rw [i1]; congr 1; omega)) rfl
      · refine j_aload_n (q := 18) C 0 rfl d_C_shiftedSum_17 rfl ?_
        refine j_get (q := 21) C i_C rfl 0 rfl 5 (by decide) rfl rfl fl_C_49 d_C_shiftedSum_18 rfl ?_
        refine j_iload (q := 23) C 3 rfl d_C_shiftedSum_21 rfl ?_
        refine j_iconst (q := 24) C d_C_shiftedSum_23 rfl ?_
        refine j_isub (q := 25) C d_C_shiftedSum_24 rfl ?_
        have e25 := sgAt_r hX.b xn (i - 1)
        refine j_callV (q := 28) (wr := wC kI kZ x ++ wP kI kZ x PW) C [.int (iI (i - 1))] [] (c_X_placeAt kI kZ x XP xn hX (i - 1) (by omega)) ml_C_128 mk_X_placeAt in_X_placeAt se_X_placeAt rfl rfl rfl [3, 4] [0, 1, 2] [0, 1, 2, 3, 4] rfl (by decide) rfl (by decide) (by decide) (wC kI kZ x ++ wP kI kZ x PW ++ wX kI kZ x XP xn) rfl (by decide) rfl rfl rfl (Nat.le_of_ble_eq_true rfl) ⟨Nat.le_of_ble_eq_true rfl, Nat.le_of_ble_eq_true rfl⟩ ⟨Nat.le_of_ble_eq_true rfl, Nat.le_of_ble_eq_true rfl⟩ d_C_shiftedSum_25 rfl ?_
        refine j_iload_n (q := 29) C 1 rfl d_C_shiftedSum_28 rfl ?_
        have g29 : 0 ≤ sgAt XP xn (i - 1) := by have := hXP (i - 1).toNat; unfold sgAt; rw [if_pos (by omega)]; omega
        have e29 : 0 ≤ ((sgAt XP xn (i - 1)) + t0) % 26 ∧ ((sgAt XP xn (i - 1)) + t0) % 26 < 26 := by omega
        refine j_callS (q := 32) (wr := wC kI kZ x ++ wP kI kZ x PW ++ wX kI kZ x XP xn) C [.int (iI (sgAt XP xn (i - 1))), .int (iI (t0))] [] (c_C_shiftedPlace kI kZ x (sgAt XP xn (i - 1)) t0 (by omega) (by omega)) ml_C_165 mk_C_shiftedPlace st_C_shiftedPlace [] [0, 1, 2, 3, 4] [0, 1, 2, 3, 4] rfl (by decide) rfl (by decide) (by decide) (wC kI kZ x ++ wP kI kZ x PW ++ wX kI kZ x XP xn) rfl (by decide) rfl rfl rfl (Nat.le_of_ble_eq_true rfl) ⟨Nat.le_of_ble_eq_true rfl, Nat.le_of_ble_eq_true rfl⟩ ⟨Nat.le_of_ble_eq_true rfl, Nat.le_of_ble_eq_true rfl⟩ d_C_shiftedSum_29 rfl ?_
        refine j_istore (q := 34) C [(0, .ref (x 0)), (1, .int (iI (t0))), (2, .long (lI (t))), (4, .int (iI (i))), (5, .int (iI (((sgAt XP xn (i - 1)) + t0) % 26)))] rfl (by decide) d_C_shiftedSum_32 rfl ?_
        refine j_aload_n (q := 35) C 0 rfl d_C_shiftedSum_34 rfl ?_
        refine j_get (q := 38) C i_C rfl 0 rfl 5 (by decide) rfl rfl fl_C_49 d_C_shiftedSum_35 rfl ?_
        refine j_iload (q := 40) C 3 rfl d_C_shiftedSum_38 rfl ?_
        have e40 := sgAt_r hX.b xn i
        refine j_callV (q := 43) (wr := wC kI kZ x ++ wP kI kZ x PW) C [.int (iI (i))] [] (c_X_placeAt kI kZ x XP xn hX i (by omega)) ml_C_128 mk_X_placeAt in_X_placeAt se_X_placeAt rfl rfl rfl [3, 4] [0, 1, 2] [0, 1, 2, 3, 4] rfl (by decide) rfl (by decide) (by decide) (wC kI kZ x ++ wP kI kZ x PW ++ wX kI kZ x XP xn) rfl (by decide) rfl rfl rfl (Nat.le_of_ble_eq_true rfl) ⟨Nat.le_of_ble_eq_true rfl, Nat.le_of_ble_eq_true rfl⟩ ⟨Nat.le_of_ble_eq_true rfl, Nat.le_of_ble_eq_true rfl⟩ d_C_shiftedSum_40 rfl ?_
        refine j_iload_n (q := 44) C 1 rfl d_C_shiftedSum_43 rfl ?_
        have g44 : 0 ≤ sgAt XP xn i := by have := hXP i.toNat; unfold sgAt; rw [if_pos (by omega)]; omega
        have e44 : 0 ≤ ((sgAt XP xn i) + t0) % 26 ∧ ((sgAt XP xn i) + t0) % 26 < 26 := by omega
        refine j_callS (q := 47) (wr := wC kI kZ x ++ wP kI kZ x PW ++ wX kI kZ x XP xn) C [.int (iI (sgAt XP xn i)), .int (iI (t0))] [] (c_C_shiftedPlace kI kZ x (sgAt XP xn i) t0 (by omega) (by omega)) ml_C_165 mk_C_shiftedPlace st_C_shiftedPlace [] [0, 1, 2, 3, 4] [0, 1, 2, 3, 4] rfl (by decide) rfl (by decide) (by decide) (wC kI kZ x ++ wP kI kZ x PW ++ wX kI kZ x XP xn) rfl (by decide) rfl rfl rfl (Nat.le_of_ble_eq_true rfl) ⟨Nat.le_of_ble_eq_true rfl, Nat.le_of_ble_eq_true rfl⟩ ⟨Nat.le_of_ble_eq_true rfl, Nat.le_of_ble_eq_true rfl⟩ d_C_shiftedSum_44 rfl ?_
        refine j_istore (q := 49) C [(0, .ref (x 0)), (1, .int (iI (t0))), (2, .long (lI (t))), (4, .int (iI (i))), (5, .int (iI (((sgAt XP xn (i - 1)) + t0) % 26))), (6, .int (iI (((sgAt XP xn i) + t0) % 26)))] rfl (by decide) d_C_shiftedSum_47 rfl ?_
        refine j_lload_n (q := 50) C 2 rfl d_C_shiftedSum_49 rfl ?_
        refine j_aload_n (q := 51) C 0 rfl d_C_shiftedSum_50 rfl ?_
        refine j_get (q := 54) C i_C rfl 0 rfl 2 (by decide) rfl rfl fl_C_26 d_C_shiftedSum_51 rfl ?_
        refine j_iload (q := 56) C 4 rfl d_C_shiftedSum_54 rfl ?_
        refine j_iload (q := 58) C 5 rfl d_C_shiftedSum_56 rfl ?_
        have e58 := wtOf_r hP (((sgAt XP xn (i - 1)) + t0) % 26) (((sgAt XP xn i) + t0) % 26)
        refine j_callV (q := 61) (wr := wC kI kZ x ++ wX kI kZ x XP xn) C [.int (iI (((sgAt XP xn (i - 1)) + t0) % 26)), .int (iI (((sgAt XP xn i) + t0) % 26))] [.long (lI (t))] (c_P_weightOf kI kZ x PW hP (((sgAt XP xn (i - 1)) + t0) % 26) (((sgAt XP xn i) + t0) % 26) (by omega) (by omega)) ml_C_161 mk_P_weightOf in_P_weightOf se_P_weightOf rfl rfl rfl [1, 2] [0, 3, 4] [0, 3, 4, 1, 2] rfl (by decide) rfl (by decide) (by decide) (wC kI kZ x ++ wP kI kZ x PW ++ wX kI kZ x XP xn) rfl (by decide) rfl rfl rfl (Nat.le_of_ble_eq_true rfl) ⟨Nat.le_of_ble_eq_true rfl, Nat.le_of_ble_eq_true rfl⟩ ⟨Nat.le_of_ble_eq_true rfl, Nat.le_of_ble_eq_true rfl⟩ d_C_shiftedSum_58 rfl ?_
        refine j_i2l (q := 62) C (by omega) d_C_shiftedSum_61 rfl ?_
        refine j_ladd (q := 63) C d_C_shiftedSum_62 rfl ?_
        refine j_lstore_n (q := 64) C [(0, .ref (x 0)), (1, .int (iI (t0))), (2, .long (lI (t + (wtOf PW (((sgAt XP xn (i - 1)) + t0) % 26) (((sgAt XP xn i) + t0) % 26))))), (4, .int (iI (i))), (5, .int (iI (((sgAt XP xn (i - 1)) + t0) % 26))), (6, .int (iI (((sgAt XP xn i) + t0) % 26)))] rfl (by decide) d_C_shiftedSum_63 rfl ?_
        refine j_iinc (q := 67) C 3 [(0, .ref (x 0)), (1, .int (iI (t0))), (2, .long (lI (t + (wtOf PW (((sgAt XP xn (i - 1)) + t0) % 26) (((sgAt XP xn i) + t0) % 26))))), (4, .int (iI (i + 1))), (5, .int (iI (((sgAt XP xn (i - 1)) + t0) % 26))), (6, .int (iI (((sgAt XP xn i) + t0) % 26)))] rfl rfl (by decide) d_C_shiftedSum_64 rfl ?_
        refine j_goto C 5 d_C_shiftedSum_67 rfl ?_
        refine j_lv [0, 1, 2, 3] rfl ?_
        exact ih (i + 1) _ (by omega) (by rw [show i + 1 - 1 = i from by omega, smI_s _ i0.1, ← i1]; rfl) (by omega)
  exact lp5 61 1 0 (by omega) rfl (by omega)
set_option maxRecDepth 100000 in
set_option maxHeartbeats 4000000 in
theorem c_C_bestShift {l : Launch} {D : va_G} (kI kZ : ClassId) (x : Nat → Nat) (PW : Nat → Int) (hP : ∀ j, -1000 ≤ PW j ∧ PW j ≤ 1000) (XP : Nat → Int) (xn : Int) (hX : IX XP xn) : Dt l D (ty2 kI kZ) y_C_bestShift w_C_bestShift { frames := 3, cells := 0, slots := 0, locals := 68 } [.ref (x 0)] (wC kI kZ x ++ wP kI kZ x PW ++ wX kI kZ x XP xn) (some (.int (iI ((bsI (shC PW XP xn) 26).1)))) (wC kI kZ x ++ wP kI kZ x PW ++ wX kI kZ x XP xn) := by
  refine Met.toJ (own := R_C) (QD D (some (.int (iI ((bsI (shC PW XP xn) 26).1)))) (wC kI kZ x ++ wP kI kZ x PW ++ wX kI kZ x XP xn)) mk_C_bestShift rfl (Nat.le_of_ble_eq_true rfl) ?_
  intro p e s m args below meth c A C hr hlk hnm
  show JJ p l e { frames := 3, cells := 0, slots := 0, locals := 68 } s m args below meth c D A 7 (MQ below (QD D (some (.int (iI ((bsI (shC PW XP xn) 26).1)))) (wC kI kZ x ++ wP kI kZ x PW ++ wX kI kZ x XP xn) A) args s 0 0 A) 0 0 0 [(0, .ref (x 0))] [] (wC kI kZ x ++ wP kI kZ x PW ++ wX kI kZ x XP xn)
  obtain ⟨hxn, hXP⟩ := id hX
  refine j_iconst (q := 1) C d_C_bestShift_0 rfl ?_
  refine j_istore_n (q := 2) C [(0, .ref (x 0)), (1, .int (iI (0)))] rfl (by decide) d_C_bestShift_1 rfl ?_
  refine j_aload_n (q := 3) C 0 rfl d_C_bestShift_2 rfl ?_
  refine j_iconst (q := 4) C d_C_bestShift_3 rfl ?_
  have e4 := shC_r (XP := XP) hP hxn (0 : Int)
  refine j_callV (q := 7) (wr := []) C [.int (iI (0))] [] (c_C_shiftedSum kI kZ x PW hP XP xn hX 0 (by omega)) ml_C_139 mk_C_shiftedSum in_C_shiftedSum se_C_shiftedSum rfl rfl rfl [0, 1, 2, 3, 4] [] [0, 1, 2, 3, 4] rfl (by decide) rfl (by decide) (by decide) (wC kI kZ x ++ wP kI kZ x PW ++ wX kI kZ x XP xn) rfl (by decide) rfl rfl rfl (Nat.le_of_ble_eq_true rfl) ⟨Nat.le_of_ble_eq_true rfl, Nat.le_of_ble_eq_true rfl⟩ ⟨Nat.le_of_ble_eq_true rfl, Nat.le_of_ble_eq_true rfl⟩ d_C_bestShift_4 rfl ?_
  refine j_lstore_n (q := 8) C [(0, .ref (x 0)), (1, .int (iI (0))), (2, .long (lI (shC PW XP xn 0)))] rfl (by decide) d_C_bestShift_7 rfl ?_
  refine j_iconst (q := 9) C d_C_bestShift_8 rfl ?_
  refine j_istore (q := 11) C [(0, .ref (x 0)), (1, .int (iI (0))), (2, .long (lI (shC PW XP xn 0))), (4, .int (iI (1)))] rfl (by decide) d_C_bestShift_9 rfl ?_
  have lp11 : ∀ (N : Nat) (i b t : Int), (1 ≤ i ∧ i ≤ 26) → ((b, t) = bsI (shC PW XP xn) i.toNat) → ((0 ≤ b ∧ b ≤ i) ∧ (-100000 ≤ t ∧ t ≤ 100000)) → (26 - i).toNat < N → JJ p l e { frames := 3, cells := 0, slots := 0, locals := 68 } s m args below meth c D A 7 (MQ below (QD D (some (.int (iI ((bsI (shC PW XP xn) 26).1)))) (wC kI kZ x ++ wP kI kZ x PW ++ wX kI kZ x XP xn) A) args s 0 0 A) 0 0 11 [(0, .ref (x 0)), (1, .int (iI (b))), (2, .long (lI (t))), (4, .int (iI (i)))] [] (wC kI kZ x ++ wP kI kZ x PW ++ wX kI kZ x XP xn) := by
    intro N
    induction N with
    | zero =>
      intro i b t i0 i1 i2 hN
      omega
    | succ N ih =>
      intro i b t i0 i1 i2 hN
      refine j_iload (q := 13) C 3 rfl d_C_bestShift_11 rfl ?_
      refine j_bipush (q := 15) C d_C_bestShift_13 rfl rfl ?_
      refine j_icmp_ge C 45 18 d_C_bestShift_15 rfl rfl (by omega) (by omega) (fun c1 => ?_) (fun c1 => ?_)
      · refine j_iload_n (q := 46) C 1 rfl d_C_bestShift_45 rfl ?_
        exact j_iret C hr hlk d_C_bestShift_46 (congrArg (fun z => some (Value.int (iI z))) (show ((bsI (shC PW XP xn) 26).1) = (b) from by rw [show (26 : Nat) = i.toNat from by omega, ← i1])) rfl
      · refine j_aload_n (q := 19) C 0 rfl d_C_bestShift_18 rfl ?_
        refine j_iload (q := 21) C 3 rfl d_C_bestShift_19 rfl ?_
        have e21 := shC_r (XP := XP) hP hxn i
        refine j_callV (q := 24) (wr := []) C [.int (iI (i))] [] (c_C_shiftedSum kI kZ x PW hP XP xn hX i (by omega)) ml_C_139 mk_C_shiftedSum in_C_shiftedSum se_C_shiftedSum rfl rfl rfl [0, 1, 2, 3, 4] [] [0, 1, 2, 3, 4] rfl (by decide) rfl (by decide) (by decide) (wC kI kZ x ++ wP kI kZ x PW ++ wX kI kZ x XP xn) rfl (by decide) rfl rfl rfl (Nat.le_of_ble_eq_true rfl) ⟨Nat.le_of_ble_eq_true rfl, Nat.le_of_ble_eq_true rfl⟩ ⟨Nat.le_of_ble_eq_true rfl, Nat.le_of_ble_eq_true rfl⟩ d_C_bestShift_21 rfl ?_
        refine j_lstore (q := 26) C [(0, .ref (x 0)), (1, .int (iI (b))), (2, .long (lI (t))), (4, .int (iI (i))), (5, .long (lI (shC PW XP xn i)))] rfl (by decide) d_C_bestShift_24 rfl ?_
        refine j_lload (q := 28) C 4 rfl d_C_bestShift_26 rfl ?_
        refine j_lload_n (q := 29) C 2 rfl d_C_bestShift_28 rfl ?_
        refine j_lcmp (q := 30) C (by omega) (by omega) d_C_bestShift_29 rfl ?_
        have r30 : -1 ≤ (if t < shC PW XP xn i then (1 : Int) else if shC PW XP xn i = t then 0 else -1) ∧ (if t < shC PW XP xn i then (1 : Int) else if shC PW XP xn i = t then 0 else -1) ≤ 1 := by split <;> (try split) <;> omega
        refine j_if_le C 39 33 d_C_bestShift_30 rfl rfl (by omega) (fun c2 => ?_) (fun c2 => ?_)
        · have c2 : shC PW XP xn i ≤ t := by split at c2 <;> (try split at c2) <;> omega
          refine j_iinc (q := 42) C 3 [(0, .ref (x 0)), (1, .int (iI (b))), (2, .long (lI (t))), (4, .int (iI (i + 1))), (5, .long (lI (shC PW XP xn i)))] rfl rfl (by decide) d_C_bestShift_39 rfl ?_
          refine j_goto C 11 d_C_bestShift_42 rfl ?_
          refine j_lv [0, 1, 2, 3] rfl ?_
          exact ih (i + 1) _ _ (by omega) (by rw [bsI_s _ (show 0 ≤ i by omega), ← i1]; first | rw [if_pos (by dsimp only; omega)] | rw [if_neg (by dsimp only; omega)]) (by omega) (by omega)
        · have c2 : t < shC PW XP xn i := by split at c2 <;> (try split at c2) <;> omega
          refine j_iload (q := 35) C 3 rfl d_C_bestShift_33 rfl ?_
          refine j_istore_n (q := 36) C [(0, .ref (x 0)), (1, .int (iI (i))), (2, .long (lI (t))), (4, .int (iI (i))), (5, .long (lI (shC PW XP xn i)))] rfl (by decide) d_C_bestShift_35 rfl ?_
          refine j_lload (q := 38) C 4 rfl d_C_bestShift_36 rfl ?_
          refine j_lstore_n (q := 39) C [(0, .ref (x 0)), (1, .int (iI (i))), (2, .long (lI (shC PW XP xn i))), (4, .int (iI (i))), (5, .long (lI (shC PW XP xn i)))] rfl (by decide) d_C_bestShift_38 rfl ?_
          refine j_iinc (q := 42) C 3 [(0, .ref (x 0)), (1, .int (iI (i))), (2, .long (lI (shC PW XP xn i))), (4, .int (iI (i + 1))), (5, .long (lI (shC PW XP xn i)))] rfl rfl (by decide) d_C_bestShift_39 rfl ?_
          refine j_goto C 11 d_C_bestShift_42 rfl ?_
          refine j_lv [0, 1, 2, 3] rfl ?_
          exact ih (i + 1) _ _ (by omega) (by rw [bsI_s _ (show 0 ≤ i by omega), ← i1]; first | rw [if_pos (by dsimp only; omega)] | rw [if_neg (by dsimp only; omega)]) (by omega) (by omega)
  exact lp11 26 1 0 _ (by omega) rfl (by omega) (by omega)
end
section
/-- letters that numbers have, letters taken, numbers given, how many -/
abbrev T4 : Type := (Nat → Int) × (Nat → Int) × (Nat → Int) × Int
def I4 (σ : T4) : Prop := (∀ j, -1 ≤ σ.1 j ∧ σ.1 j < 26) ∧ (∀ j, 0 ≤ σ.2.1 j ∧ σ.2.1 j ≤ 1) ∧ (∀ j, 0 ≤ σ.2.2.1 j ∧ σ.2.2.1 j < 26) ∧ (0 ≤ σ.2.2.2 ∧ σ.2.2.2 ≤ 26)
/-- a number is given a letter that neither had -/
def gvN (SP ST : Nat → Int) (sg n q : Int) : Prop := ((0 ≤ n ∧ n < 26) ∧ (0 ≤ q ∧ q < 26)) ∧ ¬ SP n.toNat = q ∧ SP n.toNat = -1 ∧ ST q.toNat = 0 ∧ sg < 26
noncomputable def gvS (σ : T4) (n q : Int) : T4 := ifP (gvN σ.1 σ.2.1 σ.2.2.2 n q) (uI σ.1 n.toNat q, uI σ.2.1 q.toNat 1, uI σ.2.2.1 σ.2.2.2.toNat n, σ.2.2.2 + 1) σ
def gvO (σ : T4) (n q : Int) : Prop := ((0 ≤ n ∧ n < 26) ∧ (0 ≤ q ∧ q < 26)) ∧ (σ.1 n.toNat = q ∨ gvN σ.1 σ.2.1 σ.2.2.2 n q)
theorem gvS_r {σ : T4} (h : I4 σ) (n q : Int) : I4 (gvS σ n q) := by
  by_cases c : gvN σ.1 σ.2.1 σ.2.2.2 n q
  · have e : gvS σ n q = (uI σ.1 n.toNat q, uI σ.2.1 q.toNat 1, uI σ.2.2.1 σ.2.2.2.toNat n, σ.2.2.2 + 1) := ifP_t c
    obtain ⟨h1, h2, h3, h4⟩ := h
    obtain ⟨⟨c1, c2⟩, -, -, -, c3⟩ := c
    rw [e]
    refine ⟨fun j => ?_, fun j => ?_, fun j => ?_, ?_⟩
    · have := h1 j; show -1 ≤ uI _ _ _ j ∧ uI _ _ _ j < 26; unfold uI; split <;> omega
    · have := h2 j; show 0 ≤ uI _ _ _ j ∧ uI _ _ _ j ≤ 1; unfold uI; split <;> omega
    · have := h3 j; show 0 ≤ uI _ _ _ j ∧ uI _ _ _ j < 26; unfold uI; split <;> omega
    · show 0 ≤ σ.2.2.2 + 1 ∧ σ.2.2.2 + 1 ≤ 26; omega
  · have e : gvS σ n q = σ := ifP_f c
    rw [e]; exact h
/-- the letters of a word given one behind the other, up to the first that does not agree -/
noncomputable def agF (nm pl : Int → Int) (σ : T4) : Nat → T4 × Int
  | 0 => (σ, 1)
  | i + 1 => if (agF nm pl σ i).2 = 0 then agF nm pl σ i else (gvS (agF nm pl σ i).1 (nm i) (pl i), bI (gvO (agF nm pl σ i).1 (nm i) (pl i)))
theorem agF_1 (nm pl : Int → Int) (σ : T4) (i : Nat) : agF nm pl σ (i + 1) = if (agF nm pl σ i).2 = 0 then agF nm pl σ i else (gvS (agF nm pl σ i).1 (nm i) (pl i), bI (gvO (agF nm pl σ i).1 (nm i) (pl i))) := rfl
theorem agF_s (nm pl : Int → Int) (σ : T4) {i : Int} (h : 0 ≤ i) : agF nm pl σ (i + 1).toNat = if (agF nm pl σ i.toNat).2 = 0 then agF nm pl σ i.toNat else (gvS (agF nm pl σ i.toNat).1 (nm i) (pl i), bI (gvO (agF nm pl σ i.toNat).1 (nm i) (pl i))) := by
  obtain ⟨n, rfl⟩ := Int.eq_ofNat_of_zero_le h
  rfl
theorem agF_r {σ : T4} (h : I4 σ) (nm pl : Int → Int) (i : Nat) : I4 (agF nm pl σ i).1 ∧ (0 ≤ (agF nm pl σ i).2 ∧ (agF nm pl σ i).2 ≤ 1) := by
  induction i with
  | zero => exact ⟨h, by show 0 ≤ (1 : Int) ∧ (1 : Int) ≤ 1; omega⟩
  | succ i ih =>
    unfold agF
    split
    · exact ih
    · exact ⟨gvS_r ih.1 _ _, bI_r _⟩
theorem agF_z {nm pl : Int → Int} {σ : T4} {i : Nat} (h : (agF nm pl σ i).2 = 0) (k : Nat) : agF nm pl σ (i + k) = agF nm pl σ i := by
  induction k with
  | zero => rfl
  | succ k ih =>
    rw [show i + (k + 1) = (i + k) + 1 from rfl, agF_1, if_pos (by rw [ih]; exact h)]
    exact ih
/-- k numbers taken back -/
noncomputable def unT (σ : T4) : Nat → (Nat → Int) × (Nat → Int)
  | 0 => (σ.1, σ.2.1)
  | k + 1 => (uI (unT σ k).1 (σ.2.2.1 (σ.2.2.2 - 1 - k).toNat).toNat (-1), ifP (0 ≤ (unT σ k).1 (σ.2.2.1 (σ.2.2.2 - 1 - k).toNat).toNat ∧ (unT σ k).1 (σ.2.2.1 (σ.2.2.2 - 1 - k).toNat).toNat < 26) (uI (unT σ k).2 ((unT σ k).1 (σ.2.2.1 (σ.2.2.2 - 1 - k).toNat).toNat).toNat 0) (unT σ k).2)
theorem unT_s (σ : T4) (k : Nat) : unT σ (k + 1) = (uI (unT σ k).1 (σ.2.2.1 (σ.2.2.2 - 1 - k).toNat).toNat (-1), ifP (0 ≤ (unT σ k).1 (σ.2.2.1 (σ.2.2.2 - 1 - k).toNat).toNat ∧ (unT σ k).1 (σ.2.2.1 (σ.2.2.2 - 1 - k).toNat).toNat < 26) (uI (unT σ k).2 ((unT σ k).1 (σ.2.2.1 (σ.2.2.2 - 1 - k).toNat).toNat).toNat 0) (unT σ k).2) := rfl
theorem unT_r {σ : T4} (h : I4 σ) (k : Nat) : (∀ j, -1 ≤ (unT σ k).1 j ∧ (unT σ k).1 j < 26) ∧ ∀ j, 0 ≤ (unT σ k).2 j ∧ (unT σ k).2 j ≤ 1 := by
  induction k with
  | zero => exact ⟨h.1, h.2.1⟩
  | succ k ih =>
    refine ⟨fun j => ?_, fun j => ?_⟩
    · have := ih.1 j
      show -1 ≤ uI _ _ _ j ∧ uI _ _ _ j < 26
      unfold uI
      split <;> omega
    · have := ih.2 j
      unfold unT
      by_cases c : 0 ≤ (unT σ k).1 (σ.2.2.1 (σ.2.2.2 - 1 - k).toNat).toNat ∧ (unT σ k).1 (σ.2.2.1 (σ.2.2.2 - 1 - k).toNat).toNat < 26
      · rw [ifP_t c]
        show 0 ≤ uI _ _ _ j ∧ uI _ _ _ j ≤ 1
        unfold uI
        split <;> omega
      · rw [ifP_f c]
        exact this

set_option maxRecDepth 100000 in
set_option maxHeartbeats 4000000 in
theorem c_A_fill {l : Launch} {D : va_G} (kI kZ : ClassId) (x : Nat → Nat) (SP : Nat → Int) (v : Int) : Dt l D (ty2 kI kZ) y_A_fill w_A_fill { frames := 0, cells := 0, slots := 0, locals := 0 } [.ref (x 17), .int (iI (v))] (wY kI kZ x SP) none (wY kI kZ x (zrB SP v)) := by
  refine Met.toJ (own := R_A) (QD D none (wY kI kZ x (zrB SP v))) mk_A_fill rfl (Nat.le_of_ble_eq_true rfl) ?_
  intro p e s m args below meth c A C hr hlk hnm
  show JJ p l e { frames := 0, cells := 0, slots := 0, locals := 0 } s m args below meth c D A 4 (MQ below (QD D none (wY kI kZ x (zrB SP v)) A) args s 0 0 A) 0 0 0 [(0, .ref (x 17)), (1, .int (iI (v)))] [] (wY kI kZ x SP)
  refine j_iconst (q := 1) C d_A_fill_0 rfl ?_
  refine j_istore_n (q := 2) C [(0, .ref (x 17)), (1, .int (iI (v))), (2, .int (iI (0)))] rfl (by decide) d_A_fill_1 rfl ?_
  refine j_aload_n (q := 3) C 0 rfl d_A_fill_2 rfl ?_
  refine j_alen (q := 4) C 0 0 rfl rfl d_A_fill_3 rfl ?_
  refine j_istore_n (q := 5) C [(0, .ref (x 17)), (1, .int (iI (v))), (2, .int (iI (0))), (3, .int (iI (26)))] rfl (by decide) d_A_fill_4 rfl ?_
  have lp5 : ∀ (N : Nat) (i : Int) (F : Nat → Int), (0 ≤ i ∧ i ≤ 26) → (∀ j : Nat, F j = if (j : Int) < i then v else SP j) → (26 - i).toNat < N → JJ p l e { frames := 0, cells := 0, slots := 0, locals := 0 } s m args below meth c D A 4 (MQ below (QD D none (wY kI kZ x (zrB SP v)) A) args s 0 0 A) 0 0 5 [(0, .ref (x 17)), (1, .int (iI (v))), (2, .int (iI (i))), (3, .int (iI (26)))] [] (wY kI kZ x F) := by
    intro N
    induction N with
    | zero =>
      intro i F i0 i1 hN
      omega
    | succ N ih =>
      intro i F i0 i1 hN
      refine j_iload_n (q := 6) C 2 rfl d_A_fill_5 rfl ?_
      refine j_iload_n (q := 7) C 3 rfl d_A_fill_6 rfl ?_
      refine j_icmp_ge C 20 10 d_A_fill_7 rfl rfl (by omega) (by omega) (fun c1 => ?_) (fun c1 => ?_)
      · exact j_vret C hr hlk d_A_fill_20 (by have z1 : F = zrB SP v := (by funext j; rw [i1 j]; unfold zrB; split <;> split <;> first | rfl | omega); rw [z1])
      · refine j_aload_n (q := 11) C 0 rfl d_A_fill_10 rfl ?_
        refine j_iload_n (q := 12) C 2 rfl d_A_fill_11 rfl ?_
        refine j_iload_n (q := 13) C 1 rfl d_A_fill_12 rfl ?_
        refine j_iast (q := 14) C 0 0 rfl rfl (by decide) (by omega) (wY kI kZ x (uI F i.toNat v)) rfl d_A_fill_13 rfl ?_
        refine j_iinc (q := 17) C 2 [(0, .ref (x 17)), (1, .int (iI (v))), (2, .int (iI (i + 1))), (3, .int (iI (26)))] rfl rfl (by decide) d_A_fill_14 rfl ?_
        refine j_goto C 5 d_A_fill_17 rfl ?_
        exact ih (i + 1) _ (by omega) (fun j => by unfold uI; rw [i1 j]; split <;> split <;> first | rfl | omega) (by omega)
  exact lp5 27 0 SP (by omega) (fun j => by rw [if_neg (by omega)]) (by omega)
set_option maxRecDepth 100000 in
set_option maxHeartbeats 4000000 in
theorem c_S_stepsMade {l : Launch} {D : va_G} (kI kZ : ClassId) (x : Nat → Nat) (σ : T4) (hσ : I4 σ) (sa sm sf ss : Int) : Dt l D (ty2 kI kZ) y_S_stepsMade w_S_stepsMade { frames := 0, cells := 0, slots := 0, locals := 0 } [.ref (x 16)] (wS kI kZ x σ.2.1 σ.2.2.1 σ.2.2.2 sa sm sf ss ++ wY kI kZ x σ.1) (some (.int (iI (sm)))) (wS kI kZ x σ.2.1 σ.2.2.1 σ.2.2.2 sa sm sf ss ++ wY kI kZ x σ.1) := by
  refine Met.toJ (own := R_S) (QD D (some (.int (iI (sm)))) (wS kI kZ x σ.2.1 σ.2.2.1 σ.2.2.2 sa sm sf ss ++ wY kI kZ x σ.1)) mk_S_stepsMade rfl (Nat.le_of_ble_eq_true rfl) ?_
  intro p e s m args below meth c A C hr hlk hnm
  show JJ p l e { frames := 0, cells := 0, slots := 0, locals := 0 } s m args below meth c D A 1 (MQ below (QD D (some (.int (iI (sm)))) (wS kI kZ x σ.2.1 σ.2.2.1 σ.2.2.2 sa sm sf ss ++ wY kI kZ x σ.1) A) args s 0 0 A) 0 0 0 [(0, .ref (x 16))] [] (wS kI kZ x σ.2.1 σ.2.2.1 σ.2.2.2 sa sm sf ss ++ wY kI kZ x σ.1)
  refine j_aload_n (q := 1) C 0 rfl d_S_stepsMade_0 rfl ?_
  refine j_get (q := 4) C i_S rfl 0 rfl 8 (by decide) rfl rfl fl_S_29 d_S_stepsMade_1 rfl ?_
  exact j_iret C hr hlk d_S_stepsMade_4 rfl rfl
set_option maxRecDepth 100000 in
set_option maxHeartbeats 4000000 in
theorem c_S_give {l : Launch} {D : va_G} (kI kZ : ClassId) (x : Nat → Nat) (σ : T4) (hσ : I4 σ) (sa sm sf ss : Int) (a b : Int) (ha : (-2147483648 ≤ a ∧ a < 2147483648)) (hb : (-2147483648 ≤ b ∧ b < 2147483648)) : Dt l D (ty2 kI kZ) y_S_give w_S_give { frames := 1, cells := 0, slots := 0, locals := 20 } [.ref (x 16), .int (iI (a)), .int (iI (b))] (wS kI kZ x σ.2.1 σ.2.2.1 σ.2.2.2 sa sm sf ss ++ wY kI kZ x σ.1) (some (.int (iI (bI (gvO σ a b))))) (wS kI kZ x ((gvS σ a b).2.1) ((gvS σ a b).2.2.1) ((gvS σ a b).2.2.2) sa sm sf ss ++ wY kI kZ x ((gvS σ a b).1)) := by
  refine Met.toJ (own := R_S) (QD D (some (.int (iI (bI (gvO σ a b))))) (wS kI kZ x ((gvS σ a b).2.1) ((gvS σ a b).2.2.1) ((gvS σ a b).2.2.2) sa sm sf ss ++ wY kI kZ x ((gvS σ a b).1))) mk_S_give rfl (Nat.le_of_ble_eq_true rfl) ?_
  intro p e s m args below meth c A C hr hlk hnm
  show JJ p l e { frames := 1, cells := 0, slots := 0, locals := 20 } s m args below meth c D A 3 (MQ below (QD D (some (.int (iI (bI (gvO σ a b))))) (wS kI kZ x ((gvS σ a b).2.1) ((gvS σ a b).2.2.1) ((gvS σ a b).2.2.2) sa sm sf ss ++ wY kI kZ x ((gvS σ a b).1)) A) args s 0 0 A) 0 0 0 [(0, .ref (x 16)), (1, .int (iI (a))), (2, .int (iI (b)))] [] (wS kI kZ x σ.2.1 σ.2.2.1 σ.2.2.2 sa sm sf ss ++ wY kI kZ x σ.1)
  obtain ⟨hY, hST, hSG, hsg⟩ := id hσ
  refine j_iload_n (q := 1) C 1 rfl d_S_give_0 rfl ?_
  have e1 := bP_r a
  refine j_callN (q := 4) (wr := wS kI kZ x σ.2.1 σ.2.2.1 σ.2.2.2 sa sm sf ss ++ wY kI kZ x σ.1) C [.int (iI (a))] [] (c_C_isNumber kI kZ x a (by omega)) nl_S_123 mk_C_isNumber st_C_isNumber [] [0, 1, 2, 3] [0, 1, 2, 3] rfl (by decide) rfl (by decide) (by decide) (wS kI kZ x σ.2.1 σ.2.2.1 σ.2.2.2 sa sm sf ss ++ wY kI kZ x σ.1) rfl (by decide) rfl rfl rfl (Nat.le_of_ble_eq_true rfl) ⟨Nat.le_of_ble_eq_true rfl, Nat.le_of_ble_eq_true rfl⟩ ⟨Nat.le_of_ble_eq_true rfl, Nat.le_of_ble_eq_true rfl⟩ d_S_give_1 rfl ?_
  refine j_if_eq C 14 7 d_S_give_4 rfl rfl (by omega) (fun c1 => ?_) (fun c1 => ?_)
  · have c1 := bP_0 c1
    refine j_iconst (q := 15) C d_S_give_14 rfl ?_
    exact j_zret C hr hlk (by omega) d_S_give_15 (congrArg (fun z => some (Value.int (iI z))) (show (bI (gvO σ a b)) = (0) from bI_0 (fun h => by have h1 := h.1; omega))) (by rw [show gvS σ a b = σ from ifP_f (fun h => by have h1 := h.1; omega)])
  · have c1 := bP_1 c1
    refine j_iload_n (q := 8) C 2 rfl d_S_give_7 rfl ?_
    have e8 := bP_r b
    refine j_callN (q := 11) (wr := wS kI kZ x σ.2.1 σ.2.2.1 σ.2.2.2 sa sm sf ss ++ wY kI kZ x σ.1) C [.int (iI (b))] [] (c_C_isPlace kI kZ x b (by omega)) nl_S_80 mk_C_isPlace st_C_isPlace [] [0, 1, 2, 3] [0, 1, 2, 3] rfl (by decide) rfl (by decide) (by decide) (wS kI kZ x σ.2.1 σ.2.2.1 σ.2.2.2 sa sm sf ss ++ wY kI kZ x σ.1) rfl (by decide) rfl rfl rfl (Nat.le_of_ble_eq_true rfl) ⟨Nat.le_of_ble_eq_true rfl, Nat.le_of_ble_eq_true rfl⟩ ⟨Nat.le_of_ble_eq_true rfl, Nat.le_of_ble_eq_true rfl⟩ d_S_give_8 rfl ?_
    refine j_if_ne C 16 14 d_S_give_11 rfl rfl (by omega) (fun c2 => ?_) (fun c2 => ?_)
    · have c2 := bP_1 c2
      refine j_aload_n (q := 17) C 0 rfl d_S_give_16 rfl ?_
      refine j_get (q := 20) C i_S rfl 0 rfl 3 (by decide) rfl rfl fl_S_9 d_S_give_17 rfl ?_
      refine j_iload_n (q := 21) C 1 rfl d_S_give_20 rfl ?_
      refine j_iald (q := 22) C 3 0 rfl rfl (by decide) (by omega) d_S_give_21 rfl ?_
      have h21 := hY a.toNat
      refine j_iload_n (q := 23) C 2 rfl d_S_give_22 rfl ?_
      refine j_icmp_ne C 28 26 d_S_give_23 rfl rfl (by omega) (by omega) (fun c3 => ?_) (fun c3 => ?_)
      · refine j_aload_n (q := 29) C 0 rfl d_S_give_28 rfl ?_
        refine j_get (q := 32) C i_S rfl 0 rfl 3 (by decide) rfl rfl fl_S_9 d_S_give_29 rfl ?_
        refine j_iload_n (q := 33) C 1 rfl d_S_give_32 rfl ?_
        refine j_iald (q := 34) C 3 0 rfl rfl (by decide) (by omega) d_S_give_33 rfl ?_
        have h33 := hY a.toNat
        refine j_iconst (q := 35) C d_S_give_34 rfl ?_
        refine j_icmp_ne C 56 38 d_S_give_35 rfl rfl (by omega) (by omega) (fun c4 => ?_) (fun c4 => ?_)
        · refine j_iconst (q := 57) C d_S_give_56 rfl ?_
          first | (exfalso; omega) | exact j_zret C hr hlk (by omega) d_S_give_57 (congrArg (fun z => some (Value.int (iI z))) (show (bI (gvO σ a b)) = (0) from bI_0 (fun h => by rcases h.2 with h1 | ⟨h0, h1, h2, h3, h4⟩ <;> omega))) (by rw [show gvS σ a b = σ from ifP_f (fun h => by obtain ⟨h0, h1, h2, h3, h4⟩ := h; omega)])
        · refine j_aload_n (q := 39) C 0 rfl d_S_give_38 rfl ?_
          refine j_get (q := 42) C i_S rfl 0 rfl 4 (by decide) rfl rfl fl_S_15 d_S_give_39 rfl ?_
          refine j_iload_n (q := 43) C 2 rfl d_S_give_42 rfl ?_
          refine j_zald (q := 44) C 1 1 rfl rfl (by decide) (by omega) d_S_give_43 rfl ?_
          have h43 := hST b.toNat
          refine j_if_ne C 56 47 d_S_give_44 rfl rfl (by omega) (fun c5 => ?_) (fun c5 => ?_)
          · refine j_iconst (q := 57) C d_S_give_56 rfl ?_
            first | (exfalso; omega) | exact j_zret C hr hlk (by omega) d_S_give_57 (congrArg (fun z => some (Value.int (iI z))) (show (bI (gvO σ a b)) = (0) from bI_0 (fun h => by rcases h.2 with h1 | ⟨h0, h1, h2, h3, h4⟩ <;> omega))) (by rw [show gvS σ a b = σ from ifP_f (fun h => by obtain ⟨h0, h1, h2, h3, h4⟩ := h; omega)])
          · refine j_aload_n (q := 48) C 0 rfl d_S_give_47 rfl ?_
            refine j_get (q := 51) C i_S rfl 0 rfl 6 (by decide) rfl rfl fl_S_22 d_S_give_48 rfl ?_
            refine j_bipush (q := 53) C d_S_give_51 rfl rfl ?_
            refine j_icmp_lt C 58 56 d_S_give_53 rfl rfl (by omega) (by omega) (fun c6 => ?_) (fun c6 => ?_)
            · refine j_aload_n (q := 59) C 0 rfl d_S_give_58 rfl ?_
              refine j_get (q := 62) C i_S rfl 0 rfl 3 (by decide) rfl rfl fl_S_9 d_S_give_59 rfl ?_
              refine j_iload_n (q := 63) C 1 rfl d_S_give_62 rfl ?_
              refine j_iload_n (q := 64) C 2 rfl d_S_give_63 rfl ?_
              refine j_iast (q := 65) C 3 0 rfl rfl (by decide) (by omega) (wS kI kZ x σ.2.1 σ.2.2.1 σ.2.2.2 sa sm sf ss ++ wY kI kZ x (uI σ.1 a.toNat b)) rfl d_S_give_64 rfl ?_
              refine j_aload_n (q := 66) C 0 rfl d_S_give_65 rfl ?_
              refine j_get (q := 69) C i_S rfl 0 rfl 4 (by decide) rfl rfl fl_S_15 d_S_give_66 rfl ?_
              refine j_iload_n (q := 70) C 2 rfl d_S_give_69 rfl ?_
              refine j_iconst (q := 71) C d_S_give_70 rfl ?_
              refine j_zast (q := 72) C 1 1 rfl rfl (by decide) (by omega) (by omega) (wS kI kZ x (uI σ.2.1 b.toNat 1) σ.2.2.1 σ.2.2.2 sa sm sf ss ++ wY kI kZ x (uI σ.1 a.toNat b)) rfl d_S_give_71 rfl ?_
              refine j_aload_n (q := 73) C 0 rfl d_S_give_72 rfl ?_
              refine j_get (q := 76) C i_S rfl 0 rfl 5 (by decide) rfl rfl fl_S_19 d_S_give_73 rfl ?_
              refine j_aload_n (q := 77) C 0 rfl d_S_give_76 rfl ?_
              refine j_get (q := 80) C i_S rfl 0 rfl 6 (by decide) rfl rfl fl_S_22 d_S_give_77 rfl ?_
              refine j_iload_n (q := 81) C 1 rfl d_S_give_80 rfl ?_
              refine j_iast (q := 82) C 2 0 rfl rfl (by decide) (by omega) (wS kI kZ x (uI σ.2.1 b.toNat 1) (uI σ.2.2.1 σ.2.2.2.toNat a) σ.2.2.2 sa sm sf ss ++ wY kI kZ x (uI σ.1 a.toNat b)) rfl d_S_give_81 rfl ?_
              refine j_aload_n (q := 83) C 0 rfl d_S_give_82 rfl ?_
              refine j_dup (q := 84) C rfl d_S_give_83 rfl ?_
              refine j_get (q := 87) C i_S rfl 0 rfl 6 (by decide) rfl rfl fl_S_22 d_S_give_84 rfl ?_
              refine j_iconst (q := 88) C d_S_give_87 rfl ?_
              refine j_iadd (q := 89) C d_S_give_88 rfl ?_
              refine j_put (q := 92) (ty := .int) C i_S rfl t_S t_S_ok n_S 0 rfl 6 (by decide) rfl fl_S_22 rfl (by decide +kernel) rfl rfl (Nat.le_of_ble_eq_true rfl) (wS kI kZ x (uI σ.2.1 b.toNat 1) (uI σ.2.2.1 σ.2.2.2.toNat a) (σ.2.2.2 + 1) sa sm sf ss ++ wY kI kZ x (uI σ.1 a.toNat b)) rfl d_S_give_89 rfl ?_
              refine j_iconst (q := 93) C d_S_give_92 rfl ?_
              first | (exfalso; omega) | exact j_zret C hr hlk (by omega) d_S_give_93 (congrArg (fun z => some (Value.int (iI z))) (show (bI (gvO σ a b)) = (1) from bI_1 ⟨by omega, Or.inr ⟨by omega, by omega, by omega, by omega, by omega⟩⟩)) (by rw [show gvS σ a b = (uI σ.1 a.toNat b, uI σ.2.1 b.toNat 1, uI σ.2.2.1 σ.2.2.2.toNat a, σ.2.2.2 + 1) from ifP_t ⟨by omega, by omega, by omega, by omega, by omega⟩])
            · refine j_iconst (q := 57) C d_S_give_56 rfl ?_
              first | (exfalso; omega) | exact j_zret C hr hlk (by omega) d_S_give_57 (congrArg (fun z => some (Value.int (iI z))) (show (bI (gvO σ a b)) = (0) from bI_0 (fun h => by rcases h.2 with h1 | ⟨h0, h1, h2, h3, h4⟩ <;> omega))) (by rw [show gvS σ a b = σ from ifP_f (fun h => by obtain ⟨h0, h1, h2, h3, h4⟩ := h; omega)])
      · refine j_iconst (q := 27) C d_S_give_26 rfl ?_
        first | (exfalso; omega) | exact j_zret C hr hlk (by omega) d_S_give_27 (congrArg (fun z => some (Value.int (iI z))) (show (bI (gvO σ a b)) = (1) from bI_1 ⟨by omega, Or.inl (by omega)⟩)) (by rw [show gvS σ a b = σ from ifP_f (fun h => by have h1 := h.2.1; omega)])
    · have c2 := bP_0 c2
      refine j_iconst (q := 15) C d_S_give_14 rfl ?_
      first | (exfalso; omega) | exact j_zret C hr hlk (by omega) d_S_give_15 (congrArg (fun z => some (Value.int (iI z))) (show (bI (gvO σ a b)) = (0) from bI_0 (fun h => by have h1 := h.1; omega))) (by rw [show gvS σ a b = σ from ifP_f (fun h => by have h1 := h.1; omega)])
set_option maxRecDepth 100000 in
set_option maxHeartbeats 4000000 in
theorem c_S_agrees {l : Launch} {D : va_G} (kI kZ : ClassId) (x : Nat → Nat) (σ : T4) (hσ : I4 σ) (sa sm sf ss : Int) (WP WL WC : Nat → Int) (wn wk : Int) (hW : IW WP WL WC wn wk) (KS KB KE KZ KV : Nat → Int) (kn kw : Int) (hK : IK KS KB KE KZ KV kn kw) (cw wd : Int) (hcw : (-2147483648 ≤ cw ∧ cw < 2147483648)) (hwd : (-2147483648 ≤ wd ∧ wd < 2147483648)) : Dt l D (ty2 kI kZ) y_S_agrees w_S_agrees { frames := 2, cells := 0, slots := 0, locals := 43 } [.ref (x 16), .int (iI (cw)), .int (iI (wd))] (wS kI kZ x σ.2.1 σ.2.2.1 σ.2.2.2 sa sm sf ss ++ wY kI kZ x σ.1 ++ wW kI kZ x WP WL WC wn wk ++ wK kI kZ x KS KB KE KZ KV kn kw) (some (.int (iI ((agF (fun j => nmAt KS KB KE kn kw cw j) (fun j => plAt WP WL wn wd j) σ (lnOf WL wn wd).toNat).2)))) (wS kI kZ x ((agF (fun j => nmAt KS KB KE kn kw cw j) (fun j => plAt WP WL wn wd j) σ (lnOf WL wn wd).toNat).1.2.1) ((agF (fun j => nmAt KS KB KE kn kw cw j) (fun j => plAt WP WL wn wd j) σ (lnOf WL wn wd).toNat).1.2.2.1) ((agF (fun j => nmAt KS KB KE kn kw cw j) (fun j => plAt WP WL wn wd j) σ (lnOf WL wn wd).toNat).1.2.2.2) sa sm sf ss ++ wY kI kZ x ((agF (fun j => nmAt KS KB KE kn kw cw j) (fun j => plAt WP WL wn wd j) σ (lnOf WL wn wd).toNat).1.1) ++ wW kI kZ x WP WL WC wn wk ++ wK kI kZ x KS KB KE KZ KV kn kw) := by
  refine Met.toJ (own := R_S) (QD D (some (.int (iI ((agF (fun j => nmAt KS KB KE kn kw cw j) (fun j => plAt WP WL wn wd j) σ (lnOf WL wn wd).toNat).2)))) (wS kI kZ x ((agF (fun j => nmAt KS KB KE kn kw cw j) (fun j => plAt WP WL wn wd j) σ (lnOf WL wn wd).toNat).1.2.1) ((agF (fun j => nmAt KS KB KE kn kw cw j) (fun j => plAt WP WL wn wd j) σ (lnOf WL wn wd).toNat).1.2.2.1) ((agF (fun j => nmAt KS KB KE kn kw cw j) (fun j => plAt WP WL wn wd j) σ (lnOf WL wn wd).toNat).1.2.2.2) sa sm sf ss ++ wY kI kZ x ((agF (fun j => nmAt KS KB KE kn kw cw j) (fun j => plAt WP WL wn wd j) σ (lnOf WL wn wd).toNat).1.1) ++ wW kI kZ x WP WL WC wn wk ++ wK kI kZ x KS KB KE KZ KV kn kw)) mk_S_agrees rfl (Nat.le_of_ble_eq_true rfl) ?_
  intro p e s m args below meth c A C hr hlk hnm
  show JJ p l e { frames := 2, cells := 0, slots := 0, locals := 43 } s m args below meth c D A 5 (MQ below (QD D (some (.int (iI ((agF (fun j => nmAt KS KB KE kn kw cw j) (fun j => plAt WP WL wn wd j) σ (lnOf WL wn wd).toNat).2)))) (wS kI kZ x ((agF (fun j => nmAt KS KB KE kn kw cw j) (fun j => plAt WP WL wn wd j) σ (lnOf WL wn wd).toNat).1.2.1) ((agF (fun j => nmAt KS KB KE kn kw cw j) (fun j => plAt WP WL wn wd j) σ (lnOf WL wn wd).toNat).1.2.2.1) ((agF (fun j => nmAt KS KB KE kn kw cw j) (fun j => plAt WP WL wn wd j) σ (lnOf WL wn wd).toNat).1.2.2.2) sa sm sf ss ++ wY kI kZ x ((agF (fun j => nmAt KS KB KE kn kw cw j) (fun j => plAt WP WL wn wd j) σ (lnOf WL wn wd).toNat).1.1) ++ wW kI kZ x WP WL WC wn wk ++ wK kI kZ x KS KB KE KZ KV kn kw) A) args s 0 0 A) 0 0 0 [(0, .ref (x 16)), (1, .int (iI (cw))), (2, .int (iI (wd)))] [] (wS kI kZ x σ.2.1 σ.2.2.1 σ.2.2.2 sa sm sf ss ++ wY kI kZ x σ.1 ++ wW kI kZ x WP WL WC wn wk ++ wK kI kZ x KS KB KE KZ KV kn kw)
  obtain ⟨hwn, hwk, hWL, hWP, hWC⟩ := id hW
  obtain ⟨hkn, hkw, hKS, hKB, hKE, hKZ, hKV⟩ := id hK
  refine j_aload_n (q := 1) C 0 rfl d_S_agrees_0 rfl ?_
  refine j_get (q := 4) C i_S rfl 0 rfl 0 (by decide) rfl rfl fl_S_39 d_S_agrees_1 rfl ?_
  refine j_iload_n (q := 5) C 2 rfl d_S_agrees_4 rfl ?_
  have e5 := lnOf_r hW wd
  refine j_callV (q := 8) (wr := wS kI kZ x σ.2.1 σ.2.2.1 σ.2.2.2 sa sm sf ss ++ wY kI kZ x σ.1 ++ wK kI kZ x KS KB KE KZ KV kn kw) C [.int (iI (wd))] [] (c_W_lengthOf kI kZ x WP WL WC wn wk hW wd (by omega)) ml_S_99 mk_W_lengthOf in_W_lengthOf se_W_lengthOf rfl rfl rfl [4, 5, 6, 7] [0, 1, 2, 3, 8, 9, 10, 11, 12, 13] [0, 1, 2, 3, 10, 11, 12, 13, 4, 5, 6, 7, 8, 9] rfl (by decide) rfl (by decide) (by decide) (wS kI kZ x σ.2.1 σ.2.2.1 σ.2.2.2 sa sm sf ss ++ wY kI kZ x σ.1 ++ wW kI kZ x WP WL WC wn wk ++ wK kI kZ x KS KB KE KZ KV kn kw) rfl (by decide) rfl rfl rfl (Nat.le_of_ble_eq_true rfl) ⟨Nat.le_of_ble_eq_true rfl, Nat.le_of_ble_eq_true rfl⟩ ⟨Nat.le_of_ble_eq_true rfl, Nat.le_of_ble_eq_true rfl⟩ d_S_agrees_5 rfl ?_
  refine j_istore_n (q := 9) C [(0, .ref (x 16)), (1, .int (iI (cw))), (2, .int (iI (wd))), (3, .int (iI (lnOf WL wn wd)))] rfl (by decide) d_S_agrees_8 rfl ?_
  refine j_iconst (q := 10) C d_S_agrees_9 rfl ?_
  refine j_istore (q := 12) C [(0, .ref (x 16)), (1, .int (iI (cw))), (2, .int (iI (wd))), (3, .int (iI (lnOf WL wn wd))), (4, .int (iI (0)))] rfl (by decide) d_S_agrees_10 rfl ?_
  have lp12 : ∀ (N : Nat) (i : Int) (τ : T4), (0 ≤ i ∧ i ≤ lnOf WL wn wd) → ((τ, (1 : Int)) = agF (fun j => nmAt KS KB KE kn kw cw j) (fun j => plAt WP WL wn wd j) σ i.toNat) → (True) → (I4 τ) → (lnOf WL wn wd - i).toNat < N → JJ p l e { frames := 2, cells := 0, slots := 0, locals := 43 } s m args below meth c D A 5 (MQ below (QD D (some (.int (iI ((agF (fun j => nmAt KS KB KE kn kw cw j) (fun j => plAt WP WL wn wd j) σ (lnOf WL wn wd).toNat).2)))) (wS kI kZ x ((agF (fun j => nmAt KS KB KE kn kw cw j) (fun j => plAt WP WL wn wd j) σ (lnOf WL wn wd).toNat).1.2.1) ((agF (fun j => nmAt KS KB KE kn kw cw j) (fun j => plAt WP WL wn wd j) σ (lnOf WL wn wd).toNat).1.2.2.1) ((agF (fun j => nmAt KS KB KE kn kw cw j) (fun j => plAt WP WL wn wd j) σ (lnOf WL wn wd).toNat).1.2.2.2) sa sm sf ss ++ wY kI kZ x ((agF (fun j => nmAt KS KB KE kn kw cw j) (fun j => plAt WP WL wn wd j) σ (lnOf WL wn wd).toNat).1.1) ++ wW kI kZ x WP WL WC wn wk ++ wK kI kZ x KS KB KE KZ KV kn kw) A) args s 0 0 A) 0 0 12 [(0, .ref (x 16)), (1, .int (iI (cw))), (2, .int (iI (wd))), (3, .int (iI (lnOf WL wn wd))), (4, .int (iI (i)))] [] (wS kI kZ x τ.2.1 τ.2.2.1 τ.2.2.2 sa sm sf ss ++ wY kI kZ x τ.1 ++ wW kI kZ x WP WL WC wn wk ++ wK kI kZ x KS KB KE KZ KV kn kw) := by
    intro N
    induction N with
    | zero =>
      intro i τ i0 i1 i2 i3 hN
      omega
    | succ N ih =>
      intro i τ i0 i1 i2 i3 hN
      refine j_iload (q := 14) C 4 rfl d_S_agrees_12 rfl ?_
      refine j_iload_n (q := 15) C 3 rfl d_S_agrees_14 rfl ?_
      refine j_icmp_ge C 53 18 d_S_agrees_15 rfl rfl (by omega) (by omega) (fun c1 => ?_) (fun c1 => ?_)
      · refine j_iconst (q := 54) C d_S_agrees_53 rfl ?_
        exact j_zret C hr hlk (by omega) d_S_agrees_54 (congrArg (fun z => some (Value.int (iI z))) (show ((agF (fun j => nmAt KS KB KE kn kw cw j) (fun j => plAt WP WL wn wd j) σ (lnOf WL wn wd).toNat).2) = (1) from by rw [show lnOf WL wn wd = i from by omega, ← i1])) (by rw [show (lnOf WL wn wd).toNat = i.toNat from by omega, ← i1])
      · refine j_aload_n (q := 19) C 0 rfl d_S_agrees_18 rfl ?_
        refine j_aload_n (q := 20) C 0 rfl d_S_agrees_19 rfl ?_
        refine j_get (q := 23) C i_S rfl 0 rfl 1 (by decide) rfl rfl fl_S_43 d_S_agrees_20 rfl ?_
        refine j_iload_n (q := 24) C 1 rfl d_S_agrees_23 rfl ?_
        refine j_iload (q := 26) C 4 rfl d_S_agrees_24 rfl ?_
        have e26 := nmAt_r (KB := KB) (KE := KE) hKS kn kw cw i
        refine j_callV (q := 29) (wr := wS kI kZ x τ.2.1 τ.2.2.1 τ.2.2.2 sa sm sf ss ++ wY kI kZ x τ.1 ++ wW kI kZ x WP WL WC wn wk) C [.int (iI (cw)), .int (iI (i))] [.ref (x 16)] (c_K_numberAt kI kZ x KS KB KE KZ KV kn kw hK cw i (by omega) (by omega)) ml_S_113 mk_K_numberAt in_K_numberAt se_K_numberAt rfl rfl rfl [8, 9, 10, 11, 12, 13] [0, 1, 2, 3, 4, 5, 6, 7] [0, 1, 2, 3, 4, 5, 6, 7, 8, 9, 10, 11, 12, 13] rfl (by decide) rfl (by decide) (by decide) (wS kI kZ x τ.2.1 τ.2.2.1 τ.2.2.2 sa sm sf ss ++ wY kI kZ x τ.1 ++ wW kI kZ x WP WL WC wn wk ++ wK kI kZ x KS KB KE KZ KV kn kw) rfl (by decide) rfl rfl rfl (Nat.le_of_ble_eq_true rfl) ⟨Nat.le_of_ble_eq_true rfl, Nat.le_of_ble_eq_true rfl⟩ ⟨Nat.le_of_ble_eq_true rfl, Nat.le_of_ble_eq_true rfl⟩ d_S_agrees_26 rfl ?_
        refine j_aload_n (q := 30) C 0 rfl d_S_agrees_29 rfl ?_
        refine j_get (q := 33) C i_S rfl 0 rfl 0 (by decide) rfl rfl fl_S_39 d_S_agrees_30 rfl ?_
        refine j_iload_n (q := 34) C 2 rfl d_S_agrees_33 rfl ?_
        refine j_iload (q := 36) C 4 rfl d_S_agrees_34 rfl ?_
        have e36 := plAt_r hW wd i
        refine j_callV (q := 39) (wr := wS kI kZ x τ.2.1 τ.2.2.1 τ.2.2.2 sa sm sf ss ++ wY kI kZ x τ.1 ++ wK kI kZ x KS KB KE KZ KV kn kw) C [.int (iI (wd)), .int (iI (i))] [.int (iI (nmAt KS KB KE kn kw cw i)), .ref (x 16)] (c_W_placeAt kI kZ x WP WL WC wn wk hW wd i (by omega) (by omega)) ml_S_117 mk_W_placeAt in_W_placeAt se_W_placeAt rfl rfl rfl [4, 5, 6, 7] [0, 1, 2, 3, 8, 9, 10, 11, 12, 13] [0, 1, 2, 3, 10, 11, 12, 13, 4, 5, 6, 7, 8, 9] rfl (by decide) rfl (by decide) (by decide) (wS kI kZ x τ.2.1 τ.2.2.1 τ.2.2.2 sa sm sf ss ++ wY kI kZ x τ.1 ++ wW kI kZ x WP WL WC wn wk ++ wK kI kZ x KS KB KE KZ KV kn kw) rfl (by decide) rfl rfl rfl (Nat.le_of_ble_eq_true rfl) ⟨Nat.le_of_ble_eq_true rfl, Nat.le_of_ble_eq_true rfl⟩ ⟨Nat.le_of_ble_eq_true rfl, Nat.le_of_ble_eq_true rfl⟩ d_S_agrees_36 rfl ?_
        have e39 := bI_r (gvO τ (nmAt KS KB KE kn kw cw i) (plAt WP WL wn wd i))
        refine j_callV (q := 42) (wr := wW kI kZ x WP WL WC wn wk ++ wK kI kZ x KS KB KE KZ KV kn kw) C [.int (iI (nmAt KS KB KE kn kw cw i)), .int (iI (plAt WP WL wn wd i))] [] (c_S_give kI kZ x τ i3 sa sm sf ss (nmAt KS KB KE kn kw cw i) (plAt WP WL wn wd i) (by omega) (by omega)) ml_S_120 mk_S_give in_S_give se_S_give rfl rfl rfl [0, 1, 2, 3] [4, 5, 6, 7, 8, 9, 10, 11, 12, 13] [10, 11, 12, 13, 0, 1, 2, 3, 4, 5, 6, 7, 8, 9] rfl (by decide) rfl (by decide) (by decide) (wS kI kZ x ((gvS τ (nmAt KS KB KE kn kw cw i) (plAt WP WL wn wd i)).2.1) ((gvS τ (nmAt KS KB KE kn kw cw i) (plAt WP WL wn wd i)).2.2.1) ((gvS τ (nmAt KS KB KE kn kw cw i) (plAt WP WL wn wd i)).2.2.2) sa sm sf ss ++ wY kI kZ x ((gvS τ (nmAt KS KB KE kn kw cw i) (plAt WP WL wn wd i)).1) ++ wW kI kZ x WP WL WC wn wk ++ wK kI kZ x KS KB KE KZ KV kn kw) rfl (by decide) rfl rfl rfl (Nat.le_of_ble_eq_true rfl) ⟨Nat.le_of_ble_eq_true rfl, Nat.le_of_ble_eq_true rfl⟩ ⟨Nat.le_of_ble_eq_true rfl, Nat.le_of_ble_eq_true rfl⟩ d_S_agrees_39 rfl ?_
        refine j_if_ne C 47 45 d_S_agrees_42 rfl rfl (by omega) (fun c2 => ?_) (fun c2 => ?_)
        · have c2 := bI_n c2
          refine j_iinc (q := 50) C 4 [(0, .ref (x 16)), (1, .int (iI (cw))), (2, .int (iI (wd))), (3, .int (iI (lnOf WL wn wd))), (4, .int (iI (i + 1)))] rfl rfl (by decide) d_S_agrees_47 rfl ?_
          refine j_goto C 12 d_S_agrees_50 rfl ?_
          exact ih (i + 1) _ (by omega) (by rw [agF_s _ _ _ i0.1, ← i1, if_neg (show ¬ (1 : Int) = 0 by omega), bI_1 c2]) trivial (gvS_r i3 _ _) (by omega)
        · have c2 := bI_z c2
          have k45 : agF (fun j => nmAt KS KB KE kn kw cw j) (fun j => plAt WP WL wn wd j) σ (i + 1).toNat = (gvS τ (nmAt KS KB KE kn kw cw i) (plAt WP WL wn wd i), bI (gvO τ (nmAt KS KB KE kn kw cw i) (plAt WP WL wn wd i))) := by rw [agF_s _ _ _ i0.1, ← i1]; exact if_neg (show ¬ (1 : Int) = 0 by omega)
          have k46 : (agF (fun j => nmAt KS KB KE kn kw cw j) (fun j => plAt WP WL wn wd j) σ (i + 1).toNat).2 = 0 := by rw [k45]; exact bI_0 c2
          refine j_iconst (q := 46) C d_S_agrees_45 rfl ?_
          first | (exfalso; omega) | exact j_zret C hr hlk (by omega) d_S_agrees_46 (congrArg (fun z => some (Value.int (iI z))) (show ((agF (fun j => nmAt KS KB KE kn kw cw j) (fun j => plAt WP WL wn wd j) σ (lnOf WL wn wd).toNat).2) = (0) from by have q := agF_z (k := (lnOf WL wn wd).toNat - (i + 1).toNat) k46; rw [show (i + 1).toNat + ((lnOf WL wn wd).toNat - (i + 1).toNat) = (lnOf WL wn wd).toNat from by omega] at q; rw [q, k46])) (by have q := agF_z (k := (lnOf WL wn wd).toNat - (i + 1).toNat) k46; rw [show (i + 1).toNat + ((lnOf WL wn wd).toNat - (i + 1).toNat) = (lnOf WL wn wd).toNat from by omega] at q; rw [q, k45])
  exact lp12 ((lnOf WL wn wd).toNat + 1) 0 σ (by omega) rfl trivial hσ (by omega)
set_option maxRecDepth 100000 in
set_option maxHeartbeats 4000000 in
theorem c_S_takeBack {l : Launch} {D : va_G} (kI kZ : ClassId) (x : Nat → Nat) (σ : T4) (hσ : I4 σ) (sa sm sf ss : Int) (b : Int) (hb : 0 ≤ b ∧ b ≤ σ.2.2.2) : Dt l D (ty2 kI kZ) y_S_takeBack w_S_takeBack { frames := 1, cells := 0, slots := 0, locals := 20 } [.ref (x 16), .int (iI (b))] (wS kI kZ x σ.2.1 σ.2.2.1 σ.2.2.2 sa sm sf ss ++ wY kI kZ x σ.1) none (wS kI kZ x ((unT σ (σ.2.2.2 - b).toNat).2) σ.2.2.1 b sa sm sf ss ++ wY kI kZ x ((unT σ (σ.2.2.2 - b).toNat).1)) := by
  refine Met.toJ (own := R_S) (QD D none (wS kI kZ x ((unT σ (σ.2.2.2 - b).toNat).2) σ.2.2.1 b sa sm sf ss ++ wY kI kZ x ((unT σ (σ.2.2.2 - b).toNat).1))) mk_S_takeBack rfl (Nat.le_of_ble_eq_true rfl) ?_
  intro p e s m args below meth c A C hr hlk hnm
  show JJ p l e { frames := 1, cells := 0, slots := 0, locals := 20 } s m args below meth c D A 5 (MQ below (QD D none (wS kI kZ x ((unT σ (σ.2.2.2 - b).toNat).2) σ.2.2.1 b sa sm sf ss ++ wY kI kZ x ((unT σ (σ.2.2.2 - b).toNat).1)) A) args s 0 0 A) 0 0 0 [(0, .ref (x 16)), (1, .int (iI (b)))] [] (wS kI kZ x σ.2.1 σ.2.2.1 σ.2.2.2 sa sm sf ss ++ wY kI kZ x σ.1)
  obtain ⟨hY, hST, hSG, hsg⟩ := id hσ
  refine j_aload_n (q := 1) C 0 rfl d_S_takeBack_0 rfl ?_
  refine j_get (q := 4) C i_S rfl 0 rfl 6 (by decide) rfl rfl fl_S_22 d_S_takeBack_1 rfl ?_
  refine j_iconst (q := 5) C d_S_takeBack_4 rfl ?_
  refine j_isub (q := 6) C d_S_takeBack_5 rfl ?_
  refine j_istore_n (q := 7) C [(0, .ref (x 16)), (1, .int (iI (b))), (2, .int (iI (σ.2.2.2 - 1)))] rfl (by decide) d_S_takeBack_6 rfl ?_
  have lp7 : ∀ (N : Nat) (kk : Nat), ((kk : Int) ≤ σ.2.2.2 - b) → (σ.2.2.2 - b - kk).toNat < N → JJ p l e { frames := 1, cells := 0, slots := 0, locals := 20 } s m args below meth c D A 5 (MQ below (QD D none (wS kI kZ x ((unT σ (σ.2.2.2 - b).toNat).2) σ.2.2.1 b sa sm sf ss ++ wY kI kZ x ((unT σ (σ.2.2.2 - b).toNat).1)) A) args s 0 0 A) 0 0 7 [(0, .ref (x 16)), (1, .int (iI (b))), (2, .int (iI (σ.2.2.2 - 1 - kk)))] [] (wS kI kZ x ((unT σ kk).2) σ.2.2.1 σ.2.2.2 sa sm sf ss ++ wY kI kZ x ((unT σ kk).1)) := by
    intro N
    induction N with
    | zero =>
      intro kk i0 hN
      omega
    | succ N ih =>
      intro kk i0 hN
      refine j_iload_n (q := 8) C 2 rfl d_S_takeBack_7 rfl ?_
      refine j_iload_n (q := 9) C 1 rfl d_S_takeBack_8 rfl ?_
      refine j_icmp_lt C 56 12 d_S_takeBack_9 rfl rfl (by omega) (by omega) (fun c1 => ?_) (fun c1 => ?_)
      · refine j_aload_n (q := 57) C 0 rfl d_S_takeBack_56 rfl ?_
        refine j_iload_n (q := 58) C 1 rfl d_S_takeBack_57 rfl ?_
        refine j_put (q := 61) (ty := .int) C i_S rfl t_S t_S_ok n_S 0 rfl 6 (by decide) rfl fl_S_22 rfl (by decide +kernel) rfl rfl (Nat.le_of_ble_eq_true rfl) (wS kI kZ x ((unT σ kk).2) σ.2.2.1 b sa sm sf ss ++ wY kI kZ x ((unT σ kk).1)) rfl d_S_takeBack_58 rfl ?_
        exact j_vret C hr hlk d_S_takeBack_61 (by rw [show (σ.2.2.2 - b).toNat = kk from by omega])
      · refine j_aload_n (q := 13) C 0 rfl d_S_takeBack_12 rfl ?_
        refine j_get (q := 16) C i_S rfl 0 rfl 5 (by decide) rfl rfl fl_S_19 d_S_takeBack_13 rfl ?_
        refine j_iload_n (q := 17) C 2 rfl d_S_takeBack_16 rfl ?_
        refine j_iald (q := 18) C 2 0 rfl rfl (by decide) (by omega) d_S_takeBack_17 rfl ?_
        have h17 := hSG (σ.2.2.2 - 1 - kk).toNat
        refine j_istore_n (q := 19) C [(0, .ref (x 16)), (1, .int (iI (b))), (2, .int (iI (σ.2.2.2 - 1 - kk))), (3, .int (iI (σ.2.2.1 (σ.2.2.2 - 1 - kk).toNat)))] rfl (by decide) d_S_takeBack_18 rfl ?_
        refine j_aload_n (q := 20) C 0 rfl d_S_takeBack_19 rfl ?_
        refine j_get (q := 23) C i_S rfl 0 rfl 3 (by decide) rfl rfl fl_S_9 d_S_takeBack_20 rfl ?_
        refine j_iload_n (q := 24) C 3 rfl d_S_takeBack_23 rfl ?_
        refine j_iald (q := 25) C 3 0 rfl rfl (by decide) (by omega) d_S_takeBack_24 rfl ?_
        have h24 := (unT_r hσ kk).1 (σ.2.2.1 (σ.2.2.2 - 1 - kk).toNat).toNat
        refine j_istore (q := 27) C [(0, .ref (x 16)), (1, .int (iI (b))), (2, .int (iI (σ.2.2.2 - 1 - kk))), (3, .int (iI (σ.2.2.1 (σ.2.2.2 - 1 - kk).toNat))), (4, .int (iI (((unT σ kk).1) (σ.2.2.1 (σ.2.2.2 - 1 - kk).toNat).toNat)))] rfl (by decide) d_S_takeBack_25 rfl ?_
        refine j_iload (q := 29) C 4 rfl d_S_takeBack_27 rfl ?_
        have e29 := bP_r (((unT σ kk).1) (σ.2.2.1 (σ.2.2.2 - 1 - kk).toNat).toNat)
        refine j_callN (q := 32) (wr := wS kI kZ x ((unT σ kk).2) σ.2.2.1 σ.2.2.2 sa sm sf ss ++ wY kI kZ x ((unT σ kk).1)) C [.int (iI (((unT σ kk).1) (σ.2.2.1 (σ.2.2.2 - 1 - kk).toNat).toNat))] [] (c_C_isPlace kI kZ x (((unT σ kk).1) (σ.2.2.1 (σ.2.2.2 - 1 - kk).toNat).toNat) (by omega)) nl_S_80 mk_C_isPlace st_C_isPlace [] [0, 1, 2, 3] [0, 1, 2, 3] rfl (by decide) rfl (by decide) (by decide) (wS kI kZ x ((unT σ kk).2) σ.2.2.1 σ.2.2.2 sa sm sf ss ++ wY kI kZ x ((unT σ kk).1)) rfl (by decide) rfl rfl rfl (Nat.le_of_ble_eq_true rfl) ⟨Nat.le_of_ble_eq_true rfl, Nat.le_of_ble_eq_true rfl⟩ ⟨Nat.le_of_ble_eq_true rfl, Nat.le_of_ble_eq_true rfl⟩ d_S_takeBack_29 rfl ?_
        refine j_if_eq C 43 35 d_S_takeBack_32 rfl rfl (by omega) (fun c2 => ?_) (fun c2 => ?_)
        · have c2 := bP_0 c2
          refine j_aload_n (q := 44) C 0 rfl d_S_takeBack_43 rfl ?_
          refine j_get (q := 47) C i_S rfl 0 rfl 3 (by decide) rfl rfl fl_S_9 d_S_takeBack_44 rfl ?_
          refine j_iload_n (q := 48) C 3 rfl d_S_takeBack_47 rfl ?_
          refine j_iconst (q := 49) C d_S_takeBack_48 rfl ?_
          refine j_iast (q := 50) C 3 0 rfl rfl (by decide) (by omega) (wS kI kZ x ((unT σ kk).2) σ.2.2.1 σ.2.2.2 sa sm sf ss ++ wY kI kZ x (uI ((unT σ kk).1) (σ.2.2.1 (σ.2.2.2 - 1 - kk).toNat).toNat (-1))) rfl d_S_takeBack_49 rfl ?_
          refine j_iinc (q := 53) C 2 [(0, .ref (x 16)), (1, .int (iI (b))), (2, .int (iI ((σ.2.2.2 - 1 - kk) + (-1)))), (3, .int (iI (σ.2.2.1 (σ.2.2.2 - 1 - kk).toNat))), (4, .int (iI (((unT σ kk).1) (σ.2.2.1 (σ.2.2.2 - 1 - kk).toNat).toNat)))] rfl rfl (by decide) d_S_takeBack_50 rfl ?_
          refine j_goto C 7 d_S_takeBack_53 rfl ?_
          refine j_lv [0, 1, 2] rfl ?_
          rw [show σ.2.2.2 - 1 - (kk : Int) + -1 = σ.2.2.2 - 1 - ((kk + 1 : Nat) : Int) from by omega]
          have z1 : unT σ (kk + 1) = (uI ((unT σ kk).1) (σ.2.2.1 (σ.2.2.2 - 1 - kk).toNat).toNat (-1), (unT σ kk).2) := by rw [unT_s]; first | rw [ifP_t (by omega)] | rw [ifP_f (by omega)]
          have z2 := ih (kk + 1) (by omega) (by omega)
          rw [z1] at z2
          exact z2
        · have c2 := bP_1 c2
          refine j_aload_n (q := 36) C 0 rfl d_S_takeBack_35 rfl ?_
          refine j_get (q := 39) C i_S rfl 0 rfl 4 (by decide) rfl rfl fl_S_15 d_S_takeBack_36 rfl ?_
          refine j_iload (q := 41) C 4 rfl d_S_takeBack_39 rfl ?_
          refine j_iconst (q := 42) C d_S_takeBack_41 rfl ?_
          refine j_zast (q := 43) C 1 1 rfl rfl (by decide) (by omega) (by omega) (wS kI kZ x (uI ((unT σ kk).2) (((unT σ kk).1) (σ.2.2.1 (σ.2.2.2 - 1 - kk).toNat).toNat).toNat 0) σ.2.2.1 σ.2.2.2 sa sm sf ss ++ wY kI kZ x ((unT σ kk).1)) rfl d_S_takeBack_42 rfl ?_
          refine j_aload_n (q := 44) C 0 rfl d_S_takeBack_43 rfl ?_
          refine j_get (q := 47) C i_S rfl 0 rfl 3 (by decide) rfl rfl fl_S_9 d_S_takeBack_44 rfl ?_
          refine j_iload_n (q := 48) C 3 rfl d_S_takeBack_47 rfl ?_
          refine j_iconst (q := 49) C d_S_takeBack_48 rfl ?_
          refine j_iast (q := 50) C 3 0 rfl rfl (by decide) (by omega) (wS kI kZ x (uI ((unT σ kk).2) (((unT σ kk).1) (σ.2.2.1 (σ.2.2.2 - 1 - kk).toNat).toNat).toNat 0) σ.2.2.1 σ.2.2.2 sa sm sf ss ++ wY kI kZ x (uI ((unT σ kk).1) (σ.2.2.1 (σ.2.2.2 - 1 - kk).toNat).toNat (-1))) rfl d_S_takeBack_49 rfl ?_
          refine j_iinc (q := 53) C 2 [(0, .ref (x 16)), (1, .int (iI (b))), (2, .int (iI ((σ.2.2.2 - 1 - kk) + (-1)))), (3, .int (iI (σ.2.2.1 (σ.2.2.2 - 1 - kk).toNat))), (4, .int (iI (((unT σ kk).1) (σ.2.2.1 (σ.2.2.2 - 1 - kk).toNat).toNat)))] rfl rfl (by decide) d_S_takeBack_50 rfl ?_
          refine j_goto C 7 d_S_takeBack_53 rfl ?_
          refine j_lv [0, 1, 2] rfl ?_
          rw [show σ.2.2.2 - 1 - (kk : Int) + -1 = σ.2.2.2 - 1 - ((kk + 1 : Nat) : Int) from by omega]
          have z1 : unT σ (kk + 1) = (uI ((unT σ kk).1) (σ.2.2.1 (σ.2.2.2 - 1 - kk).toNat).toNat (-1), uI ((unT σ kk).2) (((unT σ kk).1) (σ.2.2.1 (σ.2.2.2 - 1 - kk).toNat).toNat).toNat 0) := by rw [unT_s]; first | rw [ifP_t (by omega)] | rw [ifP_f (by omega)]
          have z2 := ih (kk + 1) (by omega) (by omega)
          rw [z1] at z2
          exact z2
  have z0 : (σ.2.2.2 - 1 : Int) = σ.2.2.2 - 1 - ((0 : Nat) : Int) := by omega
  rw [z0]
  exact lp7 ((σ.2.2.2 - b).toNat + 1) 0 (by omega) (by omega)
end
section
/-! PURE: order of readings, the offer, give and take back -/
theorem lx_tri (f g : Int → Int) : lxB f g ∨ (∀ n, 0 ≤ n → n < 26 → f n = g n) ∨ lxB g f := by
  rcases lst_sp (fun n => ¬ f n = g n) 26 with ⟨h1, h2, h3, h4⟩ | ⟨h1, h2⟩
  · have e : ∀ n, 0 ≤ n → n < lst (fun n => ¬ f n = g n) 26 → f n = g n := fun n a b => Classical.byContradiction fun q => h4 n a b q
    rcases Int.lt_trichotomy (f (lst (fun n => ¬ f n = g n) 26)) (g (lst (fun n => ¬ f n = g n) 26)) with h | h | h
    · exact Or.inl ⟨_, h1, h2, h, e⟩
    · exact absurd h h3
    · exact Or.inr (Or.inr ⟨_, h1, h2, h, fun n a b => (e n a b).symm⟩)
  · exact Or.inr (Or.inl fun n a b => Classical.byContradiction fun q => h2 n a b q)
theorem lx_trans {f g h : Int → Int} (h1 : lxB f g) (h2 : lxB g h) : lxB f h := by
  obtain ⟨n, a1, a2, a3, a4⟩ := h1
  obtain ⟨k, b1, b2, b3, b4⟩ := h2
  rcases Int.lt_trichotomy n k with c | c | c
  · exact ⟨n, a1, a2, by rw [← b4 n a1 c]; exact a3, fun j p q => by rw [a4 j p q, b4 j p (by omega)]⟩
  · subst c
    exact ⟨n, a1, a2, by omega, fun j p q => by rw [a4 j p q, b4 j p q]⟩
  · exact ⟨k, b1, b2, by rw [a4 k b1 c]; exact b3, fun j p q => by rw [a4 j p (by omega), b4 j p q]⟩
theorem lx_asy {f g : Int → Int} (h : lxB f g) : ¬ lxB g f := fun h2 => by
  obtain ⟨n, a1, a2, a3, a4⟩ := lx_trans h h2
  omega
theorem lx_ce {f f' g g' : Int → Int} (hf : ∀ n, 0 ≤ n → n < 26 → f n = f' n) (hg : ∀ n, 0 ≤ n → n < 26 → g n = g' n) (h : lxB f g) : lxB f' g' := by
  obtain ⟨n, a1, a2, a3, a4⟩ := h
  exact ⟨n, a1, a2, by rw [← hf n a1 a2, ← hg n a1 a2]; exact a3, fun k p q => by rw [← hf k p (by omega), ← hg k p (by omega)]; exact a4 k p q⟩
theorem lx_le {f g h : Int → Int} (h1 : ¬ lxB g f) (h2 : lxB g h) : lxB f h := by
  rcases lx_tri f g with c | c | c
  · exact lx_trans c h2
  · exact lx_ce (fun n a b => (c n a b).symm) (fun _ _ _ => rfl) h2
  · exact absurd c h1
def rowR (RP RS : Nat → Int) (k n : Int) : Int := RP (RS k.toNat * 26 + n).toNat
/-- the readings kept stand in order, each in a slot of its own -/
def IRR (RP RS : Nat → Int) (rn : Int) : Prop := IR RP RS rn ∧ (∀ i j, 0 ≤ i → i < j → j < rn → ¬ RS i.toNat = RS j.toNat) ∧ (rn < 200 → ∀ i, 0 ≤ i → i < rn → RS i.toNat < rn) ∧ ∀ i j, 0 ≤ i → i < j → j < rn → ¬ lxB (rowR RP RS j) (rowR RP RS i)
theorem IRR.mono {RP RS : Nat → Int} {rn : Int} (h : IRR RP RS rn) (SP : Nat → Int) : monR RP RS SP rn := by
  intro i j h0 hij hj hA
  rcases (show i = j ∨ i < j by omega) with c | c
  · rw [c]; exact hA
  · exact lx_le (h.2.2.2 i j h0 c hj) hA
theorem IRR.nil {RP RS : Nat → Int} {rn : Int} (h : IR RP RS rn) : IRR RP RS 0 := ⟨⟨by omega, h.2⟩, fun i j _ _ _ => by omega, fun _ i _ _ => by omega, fun i j _ _ _ => by omega⟩
/-- what the rows are when one has come in at the place k -/
theorem off_rows {RP RS SP : Nat → Int} {rn : Int} (h : IRR RP RS rn) (hk : psR RP RS SP rn < 200) :
    ∀ j, 0 ≤ j → j < onR RP RS SP rn → ∀ n, 0 ≤ n → n < 26 → rowR (opR RP RS SP rn) (osR RP RS SP rn) j n = if j < psR RP RS SP rn then rowR RP RS j n else if j = psR RP RS SP rn then SP n.toNat else rowR RP RS (j - 1) n := by
  intro j hj1 hj2 n hn1 hn2
  obtain ⟨⟨hrn, hRP, hRS⟩, hinj, hlow, -⟩ := h
  have hp := psR_r (RP := RP) (RS := RS) (SP := SP) hrn.1
  have hla : laR rn ≤ 199 ∧ (laR rn = rn ∨ (laR rn = 199 ∧ rn = 200)) ∧ psR RP RS SP rn ≤ laR rn := by unfold laR; split <;> omega
  have e1 : onR RP RS SP rn = laR rn + 1 := if_pos hk
  rw [e1] at hj2
  have e2 : osR RP RS SP rn = uI (va_cpy RS RS (psR RP RS SP rn).toNat (psR RP RS SP rn + 1).toNat (laR rn - psR RP RS SP rn).toNat) (psR RP RS SP rn).toNat (slR RS rn) := if_pos hk
  have e3 : opR RP RS SP rn = va_cpy SP RP (0 : Int).toNat (slR RS rn * 26).toNat (26 : Int).toNat := if_pos hk
  have hsl : 0 ≤ slR RS rn ∧ slR RS rn < 200 := by
    have := hRS (199 : Int).toNat
    unfold slR
    split <;> omega
  have hne : ∀ i, 0 ≤ i → i < rn → i < 199 → ¬ RS i.toNat = slR RS rn := by
    intro i h0 h1 h2
    unfold slR
    split
    · exact hinj i 199 h0 h2 (by omega)
    · have := hlow (by omega) i h0 h1
      omega
  have hold : ∀ z : Int, 0 ≤ z → ¬ z = slR RS rn → opR RP RS SP rn (z * 26 + n).toNat = RP (z * 26 + n).toNat := by
    intro z hz0 hz
    rw [e3]
    refine pk_cpy_out ?_
    omega
  have hnew : opR RP RS SP rn (slR RS rn * 26 + n).toNat = SP n.toNat := by
    rw [e3, pk_cpy_in (by omega) (by omega)]
    congr 1
    omega
  unfold rowR
  split
  · rename_i c
    have z : osR RP RS SP rn j.toNat = RS j.toNat := by
      rw [e2]
      unfold uI
      rw [if_neg (by omega)]
      exact pk_cpy_out (by omega)
    rw [z]
    exact hold _ (hRS _).1 (hne j hj1 (by omega) (by omega))
  · split
    · rename_i c
      have z : osR RP RS SP rn j.toNat = slR RS rn := by
        rw [e2, c]
        unfold uI
        rw [if_pos rfl]
      rw [z]
      exact hnew
    · rename_i c1 c2
      have z : osR RP RS SP rn j.toNat = RS (j - 1).toNat := by
        rw [e2]
        unfold uI
        rw [if_neg (by omega), pk_cpy_in (by omega) (by omega)]
        congr 1
        omega
      rw [z]
      exact hold _ (hRS _).1 (hne (j - 1) (by omega) (by omega) (by omega))
theorem off_keep {RP RS SP : Nat → Int} {rn : Int} (hk : ¬ psR RP RS SP rn < 200) : onR RP RS SP rn = rn ∧ opR RP RS SP rn = RP ∧ osR RP RS SP rn = RS := ⟨if_neg hk, if_neg hk, if_neg hk⟩
theorem off_n {RP RS SP : Nat → Int} {rn : Int} (h : IRR RP RS rn) : onR RP RS SP rn = if rn < 200 then rn + 1 else 200 := by
  have hp := psR_r (RP := RP) (RS := RS) (SP := SP) h.1.1.1
  have hrn := h.1.1
  by_cases hk : psR RP RS SP rn < 200
  · rw [show onR RP RS SP rn = laR rn + 1 from if_pos hk]
    unfold laR
    split <;> split <;> omega
  · rw [(off_keep hk).1, if_neg (by omega)]
    omega
theorem ps_lo {RP RS SP : Nat → Int} {rn : Int} {i : Int} (h0 : 0 ≤ i) (h1 : i < psR RP RS SP rn) (h2 : i < rn) : ahd RP RS SP i := by
  unfold psR at h1
  rcases lst_sp (fun k => ¬ ahd RP RS SP k) rn with ⟨-, -, -, h4⟩ | ⟨-, h4⟩
  · exact Classical.byContradiction fun q => h4 i h0 h1 q
  · exact Classical.byContradiction fun q => h4 i h0 h2 q
theorem ps_hi {RP RS SP : Nat → Int} {rn : Int} (hm : monR RP RS SP rn) {i : Int} (h1 : psR RP RS SP rn ≤ i) (h2 : i < rn) : ¬ ahd RP RS SP i := by
  intro hA
  unfold psR at h1
  rcases lst_sp (fun k => ¬ ahd RP RS SP k) rn with ⟨h3, h4, h5, -⟩ | ⟨h3, -⟩
  · exact h5 (hm _ i h3 h1 h2 hA)
  · omega
theorem off_inv {RP RS SP : Nat → Int} {rn : Int} (h : IRR RP RS rn) (hY : IY SP) : IRR (opR RP RS SP rn) (osR RP RS SP rn) (onR RP RS SP rn) := by
  by_cases hk : psR RP RS SP rn < 200
  · have hrows := off_rows h hk
    have hh := h
    have hm := h.mono SP
    obtain ⟨⟨hrn, hRP, hRS⟩, hinj, hlow, hsrt⟩ := h
    have hp := psR_r (RP := RP) (RS := RS) (SP := SP) hrn.1
    have hla : 0 ≤ laR rn ∧ laR rn ≤ 199 ∧ (laR rn = rn ∨ (laR rn = 199 ∧ rn = 200)) ∧ psR RP RS SP rn ≤ laR rn := by unfold laR; split <;> omega
    have e1 : onR RP RS SP rn = laR rn + 1 := if_pos hk
    have e2 : osR RP RS SP rn = uI (va_cpy RS RS (psR RP RS SP rn).toNat (psR RP RS SP rn + 1).toNat (laR rn - psR RP RS SP rn).toNat) (psR RP RS SP rn).toNat (slR RS rn) := if_pos hk
    have e3 : opR RP RS SP rn = va_cpy SP RP (0 : Int).toNat (slR RS rn * 26).toNat (26 : Int).toNat := if_pos hk
    have hsl : (0 ≤ slR RS rn ∧ slR RS rn < 200) ∧ (rn < 200 → slR RS rn = rn) := by
      have := hRS (199 : Int).toNat
      unfold slR
      split <;> omega
    have hne : ∀ i, 0 ≤ i → i < rn → i < 199 → ¬ RS i.toNat = slR RS rn := by
      intro i h0 h1 h2
      unfold slR
      split
      · exact hinj i 199 h0 h2 (by omega)
      · have := hlow (by omega) i h0 h1
        omega
    have hslot : ∀ j, 0 ≤ j → j < laR rn + 1 → osR RP RS SP rn j.toNat = if j < psR RP RS SP rn then RS j.toNat else if j = psR RP RS SP rn then slR RS rn else RS (j - 1).toNat := by
      intro j h1 h2
      rw [e2]
      by_cases c1 : j < psR RP RS SP rn
      · rw [if_pos c1]
        unfold uI
        rw [if_neg (by omega)]
        exact pk_cpy_out (by omega)
      · rw [if_neg c1]
        by_cases c2 : j = psR RP RS SP rn
        · rw [if_pos c2, c2]
          unfold uI
          rw [if_pos rfl]
        · rw [if_neg c2]
          unfold uI
          rw [if_neg (by omega), pk_cpy_in (by omega) (by omega)]
          congr 1
          omega
    refine ⟨⟨by rw [e1]; omega, fun j => ?_, fun j => ?_⟩, fun i j h0 hij hj => ?_, fun hl i h0 hi => ?_, fun i j h0 hij hj => ?_⟩
    · rw [e3]
      have a1 := hY (0 + (j - (slR RS rn * 26).toNat))
      have a2 := hRP j
      unfold va_cpy
      split
      · exact hY _
      · exact a2
    · rw [e2]
      unfold uI
      split
      · exact hsl.1
      · unfold va_cpy
        split <;> exact hRS _
    · rw [e1] at hj
      rw [hslot i h0 (by omega), hslot j (by omega) (by omega)]
      split
      · rename_i c1
        split
        · exact hinj i j h0 hij (by omega)
        · split
          · exact hne i h0 (by omega) (by omega)
          · exact hinj i (j - 1) h0 (by omega) (by omega)
      · split
        · rename_i c1 c2
          rw [if_neg (by omega), if_neg (by omega)]
          exact fun q => hne (j - 1) (by omega) (by omega) (by omega) q.symm
        · rename_i c1 c2
          rw [if_neg (by omega), if_neg (by omega)]
          exact hinj (i - 1) (j - 1) (by omega) (by omega) (by omega)
    · rw [e1] at hl hi
      rw [e1, hslot i h0 (by omega)]
      have hl2 : rn < 200 ∧ laR rn = rn := by omega
      split
      · have := hlow hl2.1 i h0 (by omega); omega
      · split
        · have := hsl.2 hl2.1; omega
        · have := hlow hl2.1 (i - 1) (by omega) (by omega); omega
    · have r1 := hrows i h0 (by omega)
      have r2 := hrows j (by omega) hj
      rw [e1] at hj
      intro hx
      have hx2 := lx_ce r2 r1 hx
      by_cases c1 : j < psR RP RS SP rn
      · refine hsrt i j h0 hij (by omega) (lx_ce (fun n _ _ => ?_) (fun n _ _ => ?_) hx2)
        · rw [if_pos c1]
        · rw [if_pos (by omega)]
      · by_cases c2 : j = psR RP RS SP rn
        · refine lx_asy (ps_lo h0 (by omega) (show i < rn by omega) : ahd RP RS SP i) (lx_ce (fun n _ _ => ?_) (fun n _ _ => ?_) hx2)
          · rw [if_neg c1, if_pos c2]
          · rw [if_pos (by omega)]; rfl
        · by_cases c3 : i < psR RP RS SP rn
          · refine hsrt i (j - 1) h0 (by omega) (by omega) (lx_ce (fun n _ _ => ?_) (fun n _ _ => ?_) hx2)
            · rw [if_neg c1, if_neg c2]
            · rw [if_pos c3]
          · by_cases c4 : i = psR RP RS SP rn
            · refine ps_hi hm (i := j - 1) (by omega) (by omega) (lx_ce (fun n _ _ => ?_) (fun n _ _ => ?_) hx2)
              · rw [if_neg c1, if_neg c2]; rfl
              · rw [if_neg c3, if_pos c4]
            · refine hsrt (i - 1) (j - 1) (by omega) (by omega) (by omega) (lx_ce (fun n _ _ => ?_) (fun n _ _ => ?_) hx2)
              · rw [if_neg c1, if_neg c2]
              · rw [if_neg c3, if_neg c4]
  · obtain ⟨a, b, c⟩ := off_keep hk
    rw [a, b, c]
    exact h
end
section
/-! PURE: give and take back; the search as a function -/
def cnt (f : Nat → Int) : Nat → Int
  | 0 => 0
  | n + 1 => cnt f n + (if f n = -1 then 0 else 1)
theorem cnt_1 (f : Nat → Int) (n : Nat) : cnt f (n + 1) = cnt f n + (if f n = -1 then 0 else 1) := rfl
theorem cnt_r (f : Nat → Int) (n : Nat) : 0 ≤ cnt f n ∧ cnt f n ≤ n := by
  induction n with
  | zero => exact ⟨Int.le_refl 0, Int.le_refl 0⟩
  | succ n ih => rw [cnt_1]; split <;> omega
theorem cnt_lt {f : Nat → Int} {n k : Nat} (h : k < n) (hk : f k = -1) : cnt f n < n := by
  induction n with
  | zero => omega
  | succ n ih =>
    have := cnt_r f n
    rw [cnt_1]
    by_cases c : k = n
    · rw [← c, if_pos hk, c]; omega
    · have := ih (by omega)
      split <;> omega
theorem cnt_up {f : Nat → Int} {k : Nat} {q : Int} (hk : f k = -1) (hq : ¬ q = -1) (n : Nat) : cnt (uI f k q) n = cnt f n + (if k < n then 1 else 0) := by
  induction n with
  | zero => rfl
  | succ n ih =>
    rw [cnt_1, cnt_1, ih]
    by_cases c : k = n
    · rw [show uI f k q n = q from if_pos c.symm, ← c, hk, if_neg hq, if_pos rfl, if_neg (show ¬ k < k by omega), if_pos (show k < k + 1 by omega)]
    · rw [show uI f k q n = f n from if_neg (fun z => c z.symm)]
      by_cases c2 : k < n
      · rw [if_pos c2, if_pos (show k < n + 1 by omega)]; omega
      · rw [if_neg c2, if_neg (show ¬ k < n + 1 by omega)]; omega
/-- the letters taken are those that numbers have; no more are given than numbers have letters -/
def SI (σ : T4) : Prop := I4 σ ∧ (∀ q, 0 ≤ q → q < 26 → (σ.2.1 q.toNat = 0 ↔ ∀ n : Int, 0 ≤ n → n < 26 → ¬ σ.1 n.toNat = q)) ∧ σ.2.2.2 ≤ cnt σ.1 26
noncomputable def tlO (f : Nat → Int) (n q : Int) : Option (Nat → Int) := ifP (f n.toNat = q) (some f) (ifP (f n.toNat = -1 ∧ ∀ k : Int, 0 ≤ k → k < 26 → ¬ f k.toNat = q) (some (uI f n.toNat q)) none)
noncomputable def taO (nm pl : Int → Int) (f : Nat → Int) : Nat → Option (Nat → Int)
  | 0 => some f
  | i + 1 => (taO nm pl f i).bind (fun g => tlO g (nm i) (pl i))
theorem taO_1 (nm pl : Int → Int) (f : Nat → Int) (i : Nat) : taO nm pl f (i + 1) = (taO nm pl f i).bind (fun g => tlO g (nm i) (pl i)) := rfl
theorem gv_tl {σ : T4} (h : SI σ) {n q : Int} (hn : 0 ≤ n ∧ n < 26) (hq : 0 ≤ q ∧ q < 26) : tlO σ.1 n q = ifP (gvO σ n q) (some (gvS σ n q).1) none ∧ SI (gvS σ n q) := by
  by_cases c1 : σ.1 n.toNat = q
  · have e : gvS σ n q = σ := ifP_f (fun z => z.2.1 c1)
    refine ⟨?_, by rw [e]; exact h⟩
    unfold tlO
    rw [ifP_t c1, ifP_t (show gvO σ n q from ⟨⟨hn, hq⟩, Or.inl c1⟩), e]
  · by_cases c2 : gvN σ.1 σ.2.1 σ.2.2.2 n q
    · have e : gvS σ n q = (uI σ.1 n.toNat q, uI σ.2.1 q.toNat 1, uI σ.2.2.1 σ.2.2.2.toNat n, σ.2.2.2 + 1) := ifP_t c2
      obtain ⟨h1, h2, h3⟩ := h
      obtain ⟨-, -, d1, d2, d3⟩ := id c2
      refine ⟨?_, gvS_r h1 n q, ?_, ?_⟩
      · unfold tlO
        rw [ifP_f c1, ifP_t ⟨d1, (h2 q hq.1 hq.2).mp d2⟩, ifP_t (show gvO σ n q from ⟨⟨hn, hq⟩, Or.inr c2⟩), e]
      · rw [e]
        intro r hr1 hr2
        show uI σ.2.1 q.toNat 1 r.toNat = 0 ↔ ∀ k : Int, 0 ≤ k → k < 26 → ¬ uI σ.1 n.toNat q k.toNat = r
        by_cases c3 : r = q
        · constructor
          · intro z
            rw [c3, show uI σ.2.1 q.toNat 1 q.toNat = 1 from if_pos rfl] at z
            omega
          · intro z
            exact absurd (show uI σ.1 n.toNat q n.toNat = r by rw [c3]; exact if_pos rfl) (z n hn.1 hn.2)
        · rw [show uI σ.2.1 q.toNat 1 r.toNat = σ.2.1 r.toNat from if_neg (by omega), h2 r hr1 hr2]
          constructor
          · intro z k hk1 hk2
            by_cases c4 : k = n
            · rw [c4, show uI σ.1 n.toNat q n.toNat = q from if_pos rfl]; omega
            · rw [show uI σ.1 n.toNat q k.toNat = σ.1 k.toNat from if_neg (by omega)]; exact z k hk1 hk2
          · intro z k hk1 hk2
            by_cases c4 : k = n
            · rw [c4, d1]; omega
            · have := z k hk1 hk2
              rwa [show uI σ.1 n.toNat q k.toNat = σ.1 k.toNat from if_neg (by omega)] at this
      · rw [e]
        show σ.2.2.2 + 1 ≤ cnt (uI σ.1 n.toNat q) 26
        rw [cnt_up d1 (by omega), if_pos (by omega)]
        omega
    · have e : gvS σ n q = σ := ifP_f c2
      refine ⟨?_, by rw [e]; exact h⟩
      obtain ⟨h1, h2, h3⟩ := h
      unfold tlO
      rw [ifP_f c1, ifP_f (fun z => c2 ⟨⟨hn, hq⟩, c1, z.1, (h2 q hq.1 hq.2).mpr z.2, by have := cnt_lt (n := 26) (k := n.toNat) (by omega) z.1; omega⟩), ifP_f (fun z => by rcases z.2 with z1 | z1; exact c1 z1; exact c2 z1)]
theorem ag_ta {σ : T4} (h : SI σ) {nm pl : Int → Int} {k : Nat} (hv : ∀ j : Int, 0 ≤ j → j < k → (0 ≤ nm j ∧ nm j < 26) ∧ (0 ≤ pl j ∧ pl j < 26)) (i : Nat) : i ≤ k → SI (agF nm pl σ i).1 ∧ taO nm pl σ.1 i = ifP ((agF nm pl σ i).2 = 0) none (some (agF nm pl σ i).1.1) := by
  induction i with
  | zero =>
    intro _
    refine ⟨h, ?_⟩
    rw [ifP_f (show ¬ (agF nm pl σ 0).2 = 0 from (by decide : ¬ (1 : Int) = 0))]
    rfl
  | succ i ih =>
    intro hi
    obtain ⟨a1, a2⟩ := ih (by omega)
    have v := hv i (by omega) (by omega)
    rw [taO_1, a2, agF_1]
    by_cases c : (agF nm pl σ i).2 = 0
    · rw [if_pos c, ifP_t c]
      exact ⟨a1, rfl⟩
    · rw [if_neg c, ifP_f c]
      obtain ⟨b1, b2⟩ := gv_tl a1 v.1 v.2
      refine ⟨b2, ?_⟩
      show tlO (agF nm pl σ i).1.1 (nm i) (pl i) = _
      rw [b1]
      by_cases c2 : gvO (agF nm pl σ i).1 (nm i) (pl i)
      · rw [ifP_t c2, ifP_f (by rw [bI_1 c2]; show ¬ (1 : Int) = 0; decide)]
      · rw [ifP_f c2, ifP_t (bI_0 c2)]
theorem uI_back {f : Nat → Int} {k : Nat} {a b : Int} (h : f k = b) : uI (uI f k a) k b = f := by
  funext j
  unfold uI
  split
  · rename_i c; rw [c, h]
  · rfl
def psh (τ : T4) (n q : Int) : T4 := (uI τ.1 n.toNat q, uI τ.2.1 q.toNat 1, uI τ.2.2.1 τ.2.2.2.toNat n, τ.2.2.2 + 1)
theorem unT_psh {τ : T4} (h : I4 τ) {n q : Int} (hg : gvN τ.1 τ.2.1 τ.2.2.2 n q) (k : Nat) : (k : Int) ≤ τ.2.2.2 → unT (psh τ n q) (k + 1) = unT τ k := by
  obtain ⟨⟨hn, hq⟩, -, d1, d2, d3⟩ := hg
  have hs := h.2.2.2
  induction k with
  | zero =>
    intro _
    rw [unT_s]
    have e1 : (psh τ n q).2.2.1 ((psh τ n q).2.2.2 - 1 - ((0 : Nat) : Int)).toNat = n := by
      show uI τ.2.2.1 τ.2.2.2.toNat n (τ.2.2.2 + 1 - 1 - ((0 : Nat) : Int)).toNat = n
      exact if_pos (by omega)
    rw [e1]
    have e2 : (unT (psh τ n q) 0).1 n.toNat = q := by
      show uI τ.1 n.toNat q n.toNat = q
      exact if_pos rfl
    rw [e2, ifP_t hq]
    show (uI (uI τ.1 n.toNat q) n.toNat (-1), uI (uI τ.2.1 q.toNat 1) q.toNat 0) = (τ.1, τ.2.1)
    rw [uI_back d1, uI_back d2]
  | succ k ih =>
    intro hk
    rw [unT_s, ih (by omega), unT_s]
    have e1 : (psh τ n q).2.2.1 ((psh τ n q).2.2.2 - 1 - ((k + 1 : Nat) : Int)).toNat = τ.2.2.1 (τ.2.2.2 - 1 - (k : Int)).toNat := by
      show uI τ.2.2.1 τ.2.2.2.toNat n (τ.2.2.2 + 1 - 1 - ((k + 1 : Nat) : Int)).toNat = _
      rw [show (τ.2.2.2 + 1 - 1 - ((k + 1 : Nat) : Int)).toNat = (τ.2.2.2 - 1 - (k : Int)).toNat from by omega]
      exact if_neg (by omega)
    rw [e1]
theorem unT_cong (τ : T4) (G : Nat → Int) (hG : ∀ j : Nat, (j : Int) < τ.2.2.2 → G j = τ.2.2.1 j) (k : Nat) : (k : Int) ≤ τ.2.2.2 → unT (τ.1, τ.2.1, G, τ.2.2.2) k = unT τ k := by
  induction k with
  | zero => intro _; rfl
  | succ k ih =>
    intro hk
    rw [unT_s, unT_s, ih (by omega)]
    have e1 : G (τ.2.2.2 - 1 - (k : Int)).toNat = τ.2.2.1 (τ.2.2.2 - 1 - (k : Int)).toNat := hG _ (by omega)
    show (uI (unT τ k).1 (G (τ.2.2.2 - 1 - (k : Int)).toNat).toNat (-1), ifP (0 ≤ (unT τ k).1 (G (τ.2.2.2 - 1 - (k : Int)).toNat).toNat ∧ (unT τ k).1 (G (τ.2.2.2 - 1 - (k : Int)).toNat).toNat < 26) (uI (unT τ k).2 ((unT τ k).1 (G (τ.2.2.2 - 1 - (k : Int)).toNat).toNat).toNat 0) (unT τ k).2) = _
    rw [e1]
def Ch (σ τ : T4) : Prop := σ.2.2.2 ≤ τ.2.2.2 ∧ (∀ j : Nat, (j : Int) < σ.2.2.2 → τ.2.2.1 j = σ.2.2.1 j) ∧ unT τ (τ.2.2.2 - σ.2.2.2).toNat = (σ.1, σ.2.1)
theorem ch_gv {σ τ : T4} (h : Ch σ τ) (hs : 0 ≤ σ.2.2.2) (hI : I4 τ) (n q : Int) : Ch σ (gvS τ n q) := by
  by_cases c : gvN τ.1 τ.2.1 τ.2.2.2 n q
  · have e : gvS τ n q = psh τ n q := ifP_t c
    rw [e]
    obtain ⟨h1, h2, h3⟩ := h
    refine ⟨by show σ.2.2.2 ≤ τ.2.2.2 + 1; omega, fun j hj => ?_, ?_⟩
    · show uI τ.2.2.1 τ.2.2.2.toNat n j = σ.2.2.1 j
      rw [show uI τ.2.2.1 τ.2.2.2.toNat n j = τ.2.2.1 j from if_neg (by omega)]
      exact h2 j hj
    · show unT (psh τ n q) (τ.2.2.2 + 1 - σ.2.2.2).toNat = _
      rw [show (τ.2.2.2 + 1 - σ.2.2.2).toNat = (τ.2.2.2 - σ.2.2.2).toNat + 1 from by omega, unT_psh hI c _ (by omega)]
      exact h3
  · have e : gvS τ n q = τ := ifP_f c
    rw [e]
    exact h
theorem ch_ag {σ : T4} (h : I4 σ) (nm pl : Int → Int) (i : Nat) : Ch σ (agF nm pl σ i).1 := by
  induction i with
  | zero => exact ⟨Int.le_refl _, fun _ _ => rfl, by show unT σ (σ.2.2.2 - σ.2.2.2).toNat = _; rw [show (σ.2.2.2 - σ.2.2.2).toNat = 0 from by omega]; rfl⟩
  | succ i ih =>
    rw [agF_1]
    split
    · exact ih
    · exact ch_gv ih h.2.2.2.1 (agF_r h nm pl i).1 _ _
/-- steps made, stopped, and what was found -/
abbrev X3 (α : Type) : Type := Int × Int × α
noncomputable def tWd {α : Type} (tr : Int → Option (Nat → Int)) (sa : Int) (k : (Nat → Int) → X3 α → X3 α) (wd : Int) (X : X3 α) : X3 α := if sa ≤ X.1 then (X.1, 1, X.2.2) else match tr wd with
  | none => (X.1 + 1, X.2)
  | some g => k g (X.1 + 1, X.2)
theorem tWd_stop {α : Type} {tr : Int → Option (Nat → Int)} {sa : Int} {k : (Nat → Int) → X3 α → X3 α} {wd : Int} {X : X3 α} (h : sa ≤ X.1) : tWd tr sa k wd X = (X.1, 1, X.2.2) := if_pos h
theorem tWd_none {α : Type} {tr : Int → Option (Nat → Int)} {sa : Int} {k : (Nat → Int) → X3 α → X3 α} {wd : Int} {X : X3 α} (h : ¬ sa ≤ X.1) (h2 : tr wd = none) : tWd tr sa k wd X = (X.1 + 1, X.2) := by
  unfold tWd
  rw [if_neg h, h2]
theorem tWd_some {α : Type} {tr : Int → Option (Nat → Int)} {sa : Int} {k : (Nat → Int) → X3 α → X3 α} {wd : Int} {X : X3 α} {g : Nat → Int} (h : ¬ sa ≤ X.1) (h2 : tr wd = some g) : tWd tr sa k wd X = k g (X.1 + 1, X.2) := by
  unfold tWd
  rw [if_neg h, h2]
def fwX {α : Type} (g : Int → X3 α → X3 α) : Nat → X3 α → X3 α
  | 0, X => X
  | n + 1, X => g n (fwX g n X)
theorem fwX_s {α : Type} (g : Int → X3 α → X3 α) {i : Int} (h : 0 ≤ i) (X : X3 α) : fwX g (i + 1).toNat X = g i (fwX g i.toNat X) := by
  obtain ⟨n, rfl⟩ := Int.eq_ofNat_of_zero_le h
  rfl
noncomputable def skD {α : Type} (off : α → (Nat → Int) → α) (tr : Int → (Nat → Int) → Int → Option (Nat → Int)) (ml : Int → Int → Prop) (sa : Int) (nw : Nat) : Nat → Int → (Nat → Int) → X3 α → X3 α
  | 0, _, f, X => (X.1, X.2.1, off X.2.2 f)
  | d + 1, cw, f, X => fwX (fun wd Y => ifP (Y.2.1 = 0 ∧ ml cw wd) (tWd (tr cw f) sa (skD off tr ml sa nw d (cw + 1)) wd Y) Y) nw X
theorem fwX_inv {α : Type} {g : Int → X3 α → X3 α} {P : X3 α → Prop} (hg : ∀ (wd : Int) Y, P Y → P (g wd Y)) (n : Nat) {X : X3 α} (h : P X) : P (fwX g n X) := by
  induction n with
  | zero => exact h
  | succ n ih => exact hg _ _ ih
theorem fwX_stuck {α : Type} {g : Int → X3 α → X3 α} {X : X3 α} {i : Nat} (h : ∀ wd : Int, g wd (fwX g i X) = fwX g i X) (k : Nat) : fwX g (i + k) X = fwX g i X := by
  induction k with
  | zero => rfl
  | succ k ih =>
    show g _ (fwX g (i + k) X) = _
    rw [ih]
    exact h _
theorem skD_inv {α : Type} {off : α → (Nat → Int) → α} {tr : Int → (Nat → Int) → Int → Option (Nat → Int)} {ml : Int → Int → Prop} {sa : Int} {nw : Nat} {P : X3 α → Prop} {F : (Nat → Int) → Prop}
    (h0 : ∀ X f, P X → F f → P (X.1, X.2.1, off X.2.2 f)) (h1 : ∀ X, P X → P (X.1, 1, X.2.2)) (h2 : ∀ X, P X → ¬ sa ≤ X.1 → P (X.1 + 1, X.2)) (hF : ∀ cw f wd g, F f → tr cw f wd = some g → F g) (d : Nat) :
    ∀ cw f X, P X → F f → P (skD off tr ml sa nw d cw f X) := by
  induction d with
  | zero => intro cw f X hX hf; exact h0 X f hX hf
  | succ d ih =>
    intro cw f X hX hf
    refine fwX_inv (P := P) (fun wd Y hY => ?_) nw hX
    by_cases c : Y.2.1 = 0 ∧ ml cw wd
    · rw [ifP_t c]
      by_cases c1 : sa ≤ Y.1
      · rw [tWd_stop c1]; exact h1 Y hY
      · cases e : tr cw f wd with
        | none => rw [tWd_none c1 e]; exact h2 Y hY c1
        | some g => rw [tWd_some c1 e]; exact ih _ _ _ (h2 Y hY c1) (hF cw f wd g hf e)
    · rw [ifP_f c]; exact hY
/-- what the class keeps: how many were found, places, slots, how many are kept -/
abbrev A4 : Type := Int × (Nat → Int) × (Nat → Int) × Int
noncomputable def offC (a : A4) (f : Nat → Int) : A4 := (a.1 + 1, opR a.2.1 a.2.2.1 f a.2.2.2, osR a.2.1 a.2.2.1 f a.2.2.2, onR a.2.1 a.2.2.1 f a.2.2.2)
noncomputable def trC (WP WL : Nat → Int) (wn : Int) (KS KB KE : Nat → Int) (kn kw : Int) (cw : Int) (f : Nat → Int) (wd : Int) : Option (Nat → Int) := taO (fun j => nmAt KS KB KE kn kw cw j) (fun j => plAt WP WL wn wd j) f (lnOf WL wn wd).toNat
def mlC (WL : Nat → Int) (wn : Int) (KE : Nat → Int) (kw : Int) (cw wd : Int) : Prop := lnOf WL wn wd = lnOf KE kw cw
noncomputable def skC (WP WL : Nat → Int) (wn : Int) (KS KB KE : Nat → Int) (kn kw sa : Int) (d : Nat) (cw : Int) (f : Nat → Int) (X : X3 A4) : X3 A4 := skD offC (trC WP WL wn KS KB KE kn kw) (mlC WL wn KE kw) sa wn.toNat d cw f X
noncomputable def twC (WP WL : Nat → Int) (wn : Int) (KS KB KE : Nat → Int) (kn kw sa : Int) (d : Nat) (cw : Int) (f : Nat → Int) (wd : Int) (X : X3 A4) : X3 A4 := tWd (trC WP WL wn KS KB KE kn kw cw f) sa (skC WP WL wn KS KB KE kn kw sa d (cw + 1)) wd X
noncomputable def lpC (WP WL : Nat → Int) (wn : Int) (KS KB KE : Nat → Int) (kn kw sa : Int) (d : Nat) (cw : Int) (f : Nat → Int) (wd : Int) (Y : X3 A4) : X3 A4 := ifP (Y.2.1 = 0 ∧ mlC WL wn KE kw cw wd) (twC WP WL wn KS KB KE kn kw sa d cw f wd Y) Y
theorem skC_s (WP WL : Nat → Int) (wn : Int) (KS KB KE : Nat → Int) (kn kw sa : Int) (d : Nat) (cw : Int) (f : Nat → Int) (X : X3 A4) : skC WP WL wn KS KB KE kn kw sa (d + 1) cw f X = fwX (lpC WP WL wn KS KB KE kn kw sa d cw f) wn.toNat X := rfl
theorem skC_0 (WP WL : Nat → Int) (wn : Int) (KS KB KE : Nat → Int) (kn kw sa : Int) (cw : Int) (f : Nat → Int) (X : X3 A4) : skC WP WL wn KS KB KE kn kw sa 0 cw f X = (X.1, X.2.1, offC X.2.2 f) := rfl
def IA (sa : Int) (X : X3 A4) : Prop := (0 ≤ X.1 ∧ X.1 ≤ sa) ∧ (X.2.1 = 0 ∨ X.2.1 = 1) ∧ IRR X.2.2.2.1 X.2.2.2.2.1 X.2.2.2.2.2
theorem tlO_IY {f g : Nat → Int} {n q : Int} (h : IY f) (hq : -1 ≤ q ∧ q < 26) (e : tlO f n q = some g) : IY g := by
  unfold tlO at e
  by_cases c1 : f n.toNat = q
  · rw [ifP_t c1] at e; cases e; exact h
  · rw [ifP_f c1] at e
    by_cases c2 : f n.toNat = -1 ∧ ∀ k : Int, 0 ≤ k → k < 26 → ¬ f k.toNat = q
    · rw [ifP_t c2] at e
      cases e
      intro j
      have := h j
      unfold uI
      split <;> omega
    · rw [ifP_f c2] at e; cases e
theorem taO_IY {nm pl : Int → Int} {f : Nat → Int} (h : IY f) (hp : ∀ j, -1 ≤ pl j ∧ pl j < 26) (i : Nat) : ∀ g, taO nm pl f i = some g → IY g := by
  induction i with
  | zero => intro g e; cases e; exact h
  | succ i ih =>
    intro g e
    rw [taO_1] at e
    cases e2 : taO nm pl f i with
    | none => rw [e2] at e; cases e
    | some g2 =>
      rw [e2] at e
      exact tlO_IY (ih g2 e2) (hp i) e
theorem skC_inv {WP WL WC : Nat → Int} {wn wk : Int} (hW : IW WP WL WC wn wk) (KS KB KE : Nat → Int) (kn kw sa : Int) (d : Nat) (cw : Int) {f : Nat → Int} {X : X3 A4} (hX : IA sa X) (hf : IY f) : IA sa (skC WP WL wn KS KB KE kn kw sa d cw f X) := by
  refine skD_inv (P := IA sa) (F := IY) ?_ ?_ ?_ ?_ d cw f X hX hf
  · intro X f ⟨h1, h2, h3⟩ hf
    exact ⟨h1, h2, off_inv h3 hf⟩
  · intro X ⟨h1, h2, h3⟩
    exact ⟨h1, Or.inr rfl, h3⟩
  · intro X ⟨h1, h2, h3⟩ c
    exact ⟨by show 0 ≤ X.1 + 1 ∧ X.1 + 1 ≤ sa; omega, h2, h3⟩
  · intro cw f wd g hf e
    exact taO_IY hf (fun j => plAt_r hW wd j) _ g e
theorem twC_inv {WP WL WC : Nat → Int} {wn wk : Int} (hW : IW WP WL WC wn wk) (KS KB KE : Nat → Int) (kn kw sa : Int) (d : Nat) (cw : Int) {f : Nat → Int} (wd : Int) {X : X3 A4} (hX : IA sa X) (hf : IY f) : IA sa (twC WP WL wn KS KB KE kn kw sa d cw f wd X) := by
  unfold twC
  by_cases c1 : sa ≤ X.1
  · rw [tWd_stop c1]; exact ⟨hX.1, Or.inr rfl, hX.2.2⟩
  · have h2 : IA sa (X.1 + 1, X.2) := ⟨by have := hX.1; show 0 ≤ X.1 + 1 ∧ X.1 + 1 ≤ sa; omega, hX.2.1, hX.2.2⟩
    cases e : trC WP WL wn KS KB KE kn kw cw f wd with
    | none => rw [tWd_none c1 e]; exact h2
    | some g => rw [tWd_some c1 e]; exact skC_inv hW KS KB KE kn kw sa d (cw + 1) h2 (taO_IY hf (fun j => plAt_r hW wd j) _ g e)
end
section
/-- the numbers given, beyond those of σ: nobody asks -/
abbrev GT (σ : T4) : Type := { G : Nat → Int // (∀ j, 0 ≤ G j ∧ G j < 26) ∧ ∀ j : Nat, (j : Int) < σ.2.2.2 → G j = σ.2.2.1 j }
def SkOK (l : Launch) (D : va_G) (kI kZ : ClassId) (x : Nat → Nat) (WP WL WC : Nat → Int) (wn wk : Int) (KS KB KE KZ KV : Nat → Int) (kn kw sa : Int) (d : Nat) : Prop :=
  ∀ (cw : Int) (σ : T4) (X : X3 A4), SI σ → IA sa X → (0 ≤ cw ∧ cw + d = kw) → Dx l D (ty2 kI kZ) y_S_seekFrom w_S_seekFrom { frames := 8 + 2 * d, cells := 0, slots := 0, locals := 150 + 60 * d } [.ref (x 16), .int (iI cw)] (wS kI kZ x σ.2.1 σ.2.2.1 σ.2.2.2 sa X.1 X.2.2.1 X.2.1 ++ wY kI kZ x σ.1 ++ wW kI kZ x WP WL WC wn wk ++ wK kI kZ x KS KB KE KZ KV kn kw ++ wR kI kZ x X.2.2.2.1 X.2.2.2.2.1 X.2.2.2.2.2) none (fun G : GT σ => wS kI kZ x σ.2.1 G.1 σ.2.2.2 sa ((skC WP WL wn KS KB KE kn kw sa d cw σ.1 X).1) ((skC WP WL wn KS KB KE kn kw sa d cw σ.1 X).2.2.1) ((skC WP WL wn KS KB KE kn kw sa d cw σ.1 X).2.1) ++ wY kI kZ x σ.1 ++ wW kI kZ x WP WL WC wn wk ++ wK kI kZ x KS KB KE KZ KV kn kw ++ wR kI kZ x ((skC WP WL wn KS KB KE kn kw sa d cw σ.1 X).2.2.2.1) ((skC WP WL wn KS KB KE kn kw sa d cw σ.1 X).2.2.2.2.1) ((skC WP WL wn KS KB KE kn kw sa d cw σ.1 X).2.2.2.2.2))
def TwOK (l : Launch) (D : va_G) (kI kZ : ClassId) (x : Nat → Nat) (WP WL WC : Nat → Int) (wn wk : Int) (KS KB KE KZ KV : Nat → Int) (kn kw sa : Int) (d : Nat) : Prop :=
  ∀ (cw wd : Int) (σ : T4) (X : X3 A4), SI σ → IA sa X → (0 ≤ cw ∧ cw + d + 1 = kw) → (0 ≤ wd ∧ wd < wn) → lnOf WL wn wd = lnOf KE kw cw → Dx l D (ty2 kI kZ) y_S_tryWord w_S_tryWord { frames := 9 + 2 * d, cells := 0, slots := 0, locals := 180 + 60 * d } [.ref (x 16), .int (iI cw), .int (iI wd)] (wS kI kZ x σ.2.1 σ.2.2.1 σ.2.2.2 sa X.1 X.2.2.1 X.2.1 ++ wY kI kZ x σ.1 ++ wW kI kZ x WP WL WC wn wk ++ wK kI kZ x KS KB KE KZ KV kn kw ++ wR kI kZ x X.2.2.2.1 X.2.2.2.2.1 X.2.2.2.2.2) none (fun G : GT σ => wS kI kZ x σ.2.1 G.1 σ.2.2.2 sa ((twC WP WL wn KS KB KE kn kw sa d cw σ.1 wd X).1) ((twC WP WL wn KS KB KE kn kw sa d cw σ.1 wd X).2.2.1) ((twC WP WL wn KS KB KE kn kw sa d cw σ.1 wd X).2.1) ++ wY kI kZ x σ.1 ++ wW kI kZ x WP WL WC wn wk ++ wK kI kZ x KS KB KE KZ KV kn kw ++ wR kI kZ x ((twC WP WL wn KS KB KE kn kw sa d cw σ.1 wd X).2.2.2.1) ((twC WP WL wn KS KB KE kn kw sa d cw σ.1 wd X).2.2.2.2.1) ((twC WP WL wn KS KB KE kn kw sa d cw σ.1 wd X).2.2.2.2.2))

set_option maxRecDepth 100000 in
set_option maxHeartbeats 4000000 in
theorem c_S_tryWord {l : Launch} {D : va_G} (kI kZ : ClassId) (x : Nat → Nat) (WP WL WC : Nat → Int) (wn wk : Int) (hW : IW WP WL WC wn wk) (KS KB KE KZ KV : Nat → Int) (kn kw : Int) (hK : IK KS KB KE KZ KV kn kw) (hPl : ∀ a j, 0 ≤ j → j < lnOf WL wn a → 0 ≤ plAt WP WL wn a j) (hNm : ∀ a j, 0 ≤ a → a < kw → 0 ≤ j → j < lnOf KE kw a → 0 ≤ nmAt KS KB KE kn kw a j) (sa : Int) (hsa : 0 ≤ sa ∧ sa ≤ 100000) (d : Nat) (hsk : SkOK l D kI kZ x WP WL WC wn wk KS KB KE KZ KV kn kw sa d) (cw wd : Int) (σ : T4) (X : X3 A4) (hSI : SI σ) (hIA : IA sa X) (hc : 0 ≤ cw ∧ cw + d + 1 = kw) (hw0 : 0 ≤ wd ∧ wd < wn) (hln : lnOf WL wn wd = lnOf KE kw cw) : Dx l D (ty2 kI kZ) y_S_tryWord w_S_tryWord { frames := 9 + 2 * d, cells := 0, slots := 0, locals := 180 + 60 * d } [.ref (x 16), .int (iI (cw)), .int (iI (wd))] (wS kI kZ x σ.2.1 σ.2.2.1 σ.2.2.2 sa X.1 X.2.2.1 X.2.1 ++ wY kI kZ x σ.1 ++ wW kI kZ x WP WL WC wn wk ++ wK kI kZ x KS KB KE KZ KV kn kw ++ wR kI kZ x X.2.2.2.1 X.2.2.2.2.1 X.2.2.2.2.2) none (fun G : GT σ => wS kI kZ x σ.2.1 G.1 σ.2.2.2 sa ((twC WP WL wn KS KB KE kn kw sa d cw σ.1 wd X).1) ((twC WP WL wn KS KB KE kn kw sa d cw σ.1 wd X).2.2.1) ((twC WP WL wn KS KB KE kn kw sa d cw σ.1 wd X).2.1) ++ wY kI kZ x σ.1 ++ wW kI kZ x WP WL WC wn wk ++ wK kI kZ x KS KB KE KZ KV kn kw ++ wR kI kZ x ((twC WP WL wn KS KB KE kn kw sa d cw σ.1 wd X).2.2.2.1) ((twC WP WL wn KS KB KE kn kw sa d cw σ.1 wd X).2.2.2.2.1) ((twC WP WL wn KS KB KE kn kw sa d cw σ.1 wd X).2.2.2.2.2)) := by
  refine Met.toJ (own := R_S) (QX D none (fun G : GT σ => wS kI kZ x σ.2.1 G.1 σ.2.2.2 sa ((twC WP WL wn KS KB KE kn kw sa d cw σ.1 wd X).1) ((twC WP WL wn KS KB KE kn kw sa d cw σ.1 wd X).2.2.1) ((twC WP WL wn KS KB KE kn kw sa d cw σ.1 wd X).2.1) ++ wY kI kZ x σ.1 ++ wW kI kZ x WP WL WC wn wk ++ wK kI kZ x KS KB KE KZ KV kn kw ++ wR kI kZ x ((twC WP WL wn KS KB KE kn kw sa d cw σ.1 wd X).2.2.2.1) ((twC WP WL wn KS KB KE kn kw sa d cw σ.1 wd X).2.2.2.2.1) ((twC WP WL wn KS KB KE kn kw sa d cw σ.1 wd X).2.2.2.2.2))) mk_S_tryWord rfl (Nat.le_of_ble_eq_true rfl) ?_
  intro p e s m args below meth c A C hr hlk hnm
  show JJ p l e { frames := 9 + 2 * d, cells := 0, slots := 0, locals := 180 + 60 * d } s m args below meth c D A 4 (MQ below (QX D none (fun G : GT σ => wS kI kZ x σ.2.1 G.1 σ.2.2.2 sa ((twC WP WL wn KS KB KE kn kw sa d cw σ.1 wd X).1) ((twC WP WL wn KS KB KE kn kw sa d cw σ.1 wd X).2.2.1) ((twC WP WL wn KS KB KE kn kw sa d cw σ.1 wd X).2.1) ++ wY kI kZ x σ.1 ++ wW kI kZ x WP WL WC wn wk ++ wK kI kZ x KS KB KE KZ KV kn kw ++ wR kI kZ x ((twC WP WL wn KS KB KE kn kw sa d cw σ.1 wd X).2.2.2.1) ((twC WP WL wn KS KB KE kn kw sa d cw σ.1 wd X).2.2.2.2.1) ((twC WP WL wn KS KB KE kn kw sa d cw σ.1 wd X).2.2.2.2.2)) A) args s 0 0 A) 0 0 0 [(0, .ref (x 16)), (1, .int (iI (cw))), (2, .int (iI (wd)))] [] (wS kI kZ x σ.2.1 σ.2.2.1 σ.2.2.2 sa X.1 X.2.2.1 X.2.1 ++ wY kI kZ x σ.1 ++ wW kI kZ x WP WL WC wn wk ++ wK kI kZ x KS KB KE KZ KV kn kw ++ wR kI kZ x X.2.2.2.1 X.2.2.2.2.1 X.2.2.2.2.2)
  obtain ⟨hwn, hwk, hWL, hWP, hWC⟩ := id hW
  obtain ⟨hkn, hkw, hKS, hKB, hKE, hKZ, hKV⟩ := id hK
  have hσ := hSI.1
  obtain ⟨hX1, hX2, hX3⟩ := id hIA
  have hsgr := hσ.2.2.2
  have hagt := ag_ta hSI (nm := (fun j => nmAt KS KB KE kn kw cw j)) (pl := (fun j => plAt WP WL wn wd j)) (k := (lnOf WL wn wd).toNat) (fun j h1 h2 => ⟨⟨hNm cw j (by omega) (by omega) h1 (by omega), (nmAt_r (KB := KB) (KE := KE) hKS kn kw cw j).2⟩, ⟨hPl wd j h1 (by omega), (plAt_r hW wd j).2⟩⟩) _ (Nat.le_refl _)
  have hch := ch_ag hσ (fun j => nmAt KS KB KE kn kw cw j) (fun j => plAt WP WL wn wd j) (lnOf WL wn wd).toNat
  have hIA2 : IA sa (X.1 + 1, X.2) ∨ sa ≤ X.1 := by rcases (show sa ≤ X.1 ∨ X.1 + 1 ≤ sa by omega) with q | q; exact Or.inr q; exact Or.inl ⟨⟨show 0 ≤ X.1 + 1 by omega, q⟩, hX2, hX3⟩
  refine j_aload_n (q := 1) C 0 rfl d_S_tryWord_0 rfl ?_
  refine j_get (q := 4) C i_S rfl 0 rfl 8 (by decide) rfl rfl fl_S_29 d_S_tryWord_1 rfl ?_
  refine j_aload_n (q := 5) C 0 rfl d_S_tryWord_4 rfl ?_
  refine j_get (q := 8) C i_S rfl 0 rfl 7 (by decide) rfl rfl fl_S_26 d_S_tryWord_5 rfl ?_
  refine j_icmp_lt C 17 11 d_S_tryWord_8 rfl rfl (by omega) (by omega) (fun c1 => ?_) (fun c1 => ?_)
  · replace hIA2 := hIA2.resolve_right (by omega)
    refine j_aload_n (q := 18) C 0 rfl d_S_tryWord_17 rfl ?_
    refine j_dup (q := 19) C rfl d_S_tryWord_18 rfl ?_
    refine j_get (q := 22) C i_S rfl 0 rfl 8 (by decide) rfl rfl fl_S_29 d_S_tryWord_19 rfl ?_
    refine j_iconst (q := 23) C d_S_tryWord_22 rfl ?_
    refine j_iadd (q := 24) C d_S_tryWord_23 rfl ?_
    refine j_put (q := 27) (ty := .int) C i_S rfl t_S t_S_ok n_S 0 rfl 8 (by decide) rfl fl_S_29 rfl (by decide +kernel) rfl rfl (Nat.le_of_ble_eq_true rfl) (wS kI kZ x σ.2.1 σ.2.2.1 σ.2.2.2 sa (X.1 + 1) X.2.2.1 X.2.1 ++ wY kI kZ x σ.1 ++ wW kI kZ x WP WL WC wn wk ++ wK kI kZ x KS KB KE KZ KV kn kw ++ wR kI kZ x X.2.2.2.1 X.2.2.2.2.1 X.2.2.2.2.2) rfl d_S_tryWord_24 rfl ?_
    refine j_aload_n (q := 28) C 0 rfl d_S_tryWord_27 rfl ?_
    refine j_get (q := 31) C i_S rfl 0 rfl 6 (by decide) rfl rfl fl_S_22 d_S_tryWord_28 rfl ?_
    refine j_istore_n (q := 32) C [(0, .ref (x 16)), (1, .int (iI (cw))), (2, .int (iI (wd))), (3, .int (iI (σ.2.2.2)))] rfl (by decide) d_S_tryWord_31 rfl ?_
    refine j_aload_n (q := 33) C 0 rfl d_S_tryWord_32 rfl ?_
    refine j_iload_n (q := 34) C 1 rfl d_S_tryWord_33 rfl ?_
    refine j_iload_n (q := 35) C 2 rfl d_S_tryWord_34 rfl ?_
    have e35 := agF_r hσ (fun j => nmAt KS KB KE kn kw cw j) (fun j => plAt WP WL wn wd j) (lnOf WL wn wd).toNat
    refine j_callV (q := 38) (wr := wR kI kZ x X.2.2.2.1 X.2.2.2.2.1 X.2.2.2.2.2) C [.int (iI (cw)), .int (iI (wd))] [] (c_S_agrees kI kZ x σ hσ sa (X.1 + 1) X.2.2.1 X.2.1 WP WL WC wn wk hW KS KB KE KZ KV kn kw hK cw wd (by omega) (by omega)) ml_S_106 mk_S_agrees in_S_agrees se_S_agrees rfl rfl rfl [0, 1, 2, 3, 4, 5, 6, 7, 8, 9, 10, 11, 12, 13] [14, 15, 16] [3, 4, 5, 6, 7, 8, 9, 10, 11, 12, 13, 14, 15, 16, 0, 1, 2] rfl (by decide) rfl (by decide) (by decide) (wS kI kZ x ((agF (fun j => nmAt KS KB KE kn kw cw j) (fun j => plAt WP WL wn wd j) σ (lnOf WL wn wd).toNat).1.2.1) ((agF (fun j => nmAt KS KB KE kn kw cw j) (fun j => plAt WP WL wn wd j) σ (lnOf WL wn wd).toNat).1.2.2.1) ((agF (fun j => nmAt KS KB KE kn kw cw j) (fun j => plAt WP WL wn wd j) σ (lnOf WL wn wd).toNat).1.2.2.2) sa (X.1 + 1) X.2.2.1 X.2.1 ++ wY kI kZ x ((agF (fun j => nmAt KS KB KE kn kw cw j) (fun j => plAt WP WL wn wd j) σ (lnOf WL wn wd).toNat).1.1) ++ wW kI kZ x WP WL WC wn wk ++ wK kI kZ x KS KB KE KZ KV kn kw ++ wR kI kZ x X.2.2.2.1 X.2.2.2.2.1 X.2.2.2.2.2) rfl (by decide) rfl rfl rfl (Nat.le_of_ble_eq_true rfl) ⟨by dsimp only; omega, by dsimp only; omega⟩ ⟨Nat.le_of_ble_eq_true rfl, Nat.le_of_ble_eq_true rfl⟩ d_S_tryWord_35 rfl ?_
    refine j_if_eq C 48 41 d_S_tryWord_38 rfl rfl (by omega) (fun c2 => ?_) (fun c2 => ?_)
    · have htr : trC WP WL wn KS KB KE kn kw cw σ.1 wd = none := by have q := hagt.2; rw [ifP_t c2] at q; exact q
      have hSI2 := hagt.1
      refine j_aload_n (q := 49) C 0 rfl d_S_tryWord_48 rfl ?_
      refine j_iload_n (q := 50) C 3 rfl d_S_tryWord_49 rfl ?_
      refine j_callV (q := 53) (wr := wW kI kZ x WP WL WC wn wk ++ wK kI kZ x KS KB KE KZ KV kn kw ++ wR kI kZ x X.2.2.2.1 X.2.2.2.2.1 X.2.2.2.2.2) C [.int (iI (σ.2.2.2))] [] (c_S_takeBack kI kZ x ((agF (fun j => nmAt KS KB KE kn kw cw j) (fun j => plAt WP WL wn wd j) σ (lnOf WL wn wd).toNat).1.1, (agF (fun j => nmAt KS KB KE kn kw cw j) (fun j => plAt WP WL wn wd j) σ (lnOf WL wn wd).toNat).1.2.1, (agF (fun j => nmAt KS KB KE kn kw cw j) (fun j => plAt WP WL wn wd j) σ (lnOf WL wn wd).toNat).1.2.2.1, (agF (fun j => nmAt KS KB KE kn kw cw j) (fun j => plAt WP WL wn wd j) σ (lnOf WL wn wd).toNat).1.2.2.2) (e35.1) sa (X.1 + 1) X.2.2.1 X.2.1 σ.2.2.2 (⟨by omega, hch.1⟩)) ml_S_110 mk_S_takeBack in_S_takeBack se_S_takeBack rfl rfl rfl [0, 1, 2, 3] [4, 5, 6, 7, 8, 9, 10, 11, 12, 13, 14, 15, 16] [13, 14, 15, 16, 0, 1, 2, 3, 4, 5, 6, 7, 8, 9, 10, 11, 12] rfl (by decide) rfl (by decide) (by decide) (wS kI kZ x ((unT ((agF (fun j => nmAt KS KB KE kn kw cw j) (fun j => plAt WP WL wn wd j) σ (lnOf WL wn wd).toNat).1.1, (agF (fun j => nmAt KS KB KE kn kw cw j) (fun j => plAt WP WL wn wd j) σ (lnOf WL wn wd).toNat).1.2.1, (agF (fun j => nmAt KS KB KE kn kw cw j) (fun j => plAt WP WL wn wd j) σ (lnOf WL wn wd).toNat).1.2.2.1, (agF (fun j => nmAt KS KB KE kn kw cw j) (fun j => plAt WP WL wn wd j) σ (lnOf WL wn wd).toNat).1.2.2.2) ((agF (fun j => nmAt KS KB KE kn kw cw j) (fun j => plAt WP WL wn wd j) σ (lnOf WL wn wd).toNat).1.2.2.2 - σ.2.2.2).toNat).2) ((agF (fun j => nmAt KS KB KE kn kw cw j) (fun j => plAt WP WL wn wd j) σ (lnOf WL wn wd).toNat).1.2.2.1) σ.2.2.2 sa (X.1 + 1) X.2.2.1 X.2.1 ++ wY kI kZ x ((unT ((agF (fun j => nmAt KS KB KE kn kw cw j) (fun j => plAt WP WL wn wd j) σ (lnOf WL wn wd).toNat).1.1, (agF (fun j => nmAt KS KB KE kn kw cw j) (fun j => plAt WP WL wn wd j) σ (lnOf WL wn wd).toNat).1.2.1, (agF (fun j => nmAt KS KB KE kn kw cw j) (fun j => plAt WP WL wn wd j) σ (lnOf WL wn wd).toNat).1.2.2.1, (agF (fun j => nmAt KS KB KE kn kw cw j) (fun j => plAt WP WL wn wd j) σ (lnOf WL wn wd).toNat).1.2.2.2) ((agF (fun j => nmAt KS KB KE kn kw cw j) (fun j => plAt WP WL wn wd j) σ (lnOf WL wn wd).toNat).1.2.2.2 - σ.2.2.2).toNat).1) ++ wW kI kZ x WP WL WC wn wk ++ wK kI kZ x KS KB KE KZ KV kn kw ++ wR kI kZ x X.2.2.2.1 X.2.2.2.2.1 X.2.2.2.2.2) rfl (by decide) rfl rfl rfl (Nat.le_of_ble_eq_true rfl) ⟨by dsimp only; omega, by dsimp only; omega⟩ ⟨Nat.le_of_ble_eq_true rfl, Nat.le_of_ble_eq_true rfl⟩ d_S_tryWord_50 rfl ?_
      first | (exfalso; omega) | exact j_vretX C hr hlk ⟨(agF (fun j => nmAt KS KB KE kn kw cw j) (fun j => plAt WP WL wn wd j) σ (lnOf WL wn wd).toNat).1.2.2.1, e35.1.2.2.1, fun j hj => hch.2.1 j hj⟩ d_S_tryWord_53 (by show (wS kI kZ x ((unT ((agF (fun j => nmAt KS KB KE kn kw cw j) (fun j => plAt WP WL wn wd j) σ (lnOf WL wn wd).toNat).1.1, (agF (fun j => nmAt KS KB KE kn kw cw j) (fun j => plAt WP WL wn wd j) σ (lnOf WL wn wd).toNat).1.2.1, (agF (fun j => nmAt KS KB KE kn kw cw j) (fun j => plAt WP WL wn wd j) σ (lnOf WL wn wd).toNat).1.2.2.1, (agF (fun j => nmAt KS KB KE kn kw cw j) (fun j => plAt WP WL wn wd j) σ (lnOf WL wn wd).toNat).1.2.2.2) ((agF (fun j => nmAt KS KB KE kn kw cw j) (fun j => plAt WP WL wn wd j) σ (lnOf WL wn wd).toNat).1.2.2.2 - σ.2.2.2).toNat).2) ((agF (fun j => nmAt KS KB KE kn kw cw j) (fun j => plAt WP WL wn wd j) σ (lnOf WL wn wd).toNat).1.2.2.1) σ.2.2.2 sa (X.1 + 1) X.2.2.1 X.2.1 ++ wY kI kZ x ((unT ((agF (fun j => nmAt KS KB KE kn kw cw j) (fun j => plAt WP WL wn wd j) σ (lnOf WL wn wd).toNat).1.1, (agF (fun j => nmAt KS KB KE kn kw cw j) (fun j => plAt WP WL wn wd j) σ (lnOf WL wn wd).toNat).1.2.1, (agF (fun j => nmAt KS KB KE kn kw cw j) (fun j => plAt WP WL wn wd j) σ (lnOf WL wn wd).toNat).1.2.2.1, (agF (fun j => nmAt KS KB KE kn kw cw j) (fun j => plAt WP WL wn wd j) σ (lnOf WL wn wd).toNat).1.2.2.2) ((agF (fun j => nmAt KS KB KE kn kw cw j) (fun j => plAt WP WL wn wd j) σ (lnOf WL wn wd).toNat).1.2.2.2 - σ.2.2.2).toNat).1) ++ wW kI kZ x WP WL WC wn wk ++ wK kI kZ x KS KB KE KZ KV kn kw ++ wR kI kZ x X.2.2.2.1 X.2.2.2.2.1 X.2.2.2.2.2) = (wS kI kZ x σ.2.1 ((agF (fun j => nmAt KS KB KE kn kw cw j) (fun j => plAt WP WL wn wd j) σ (lnOf WL wn wd).toNat).1.2.2.1) σ.2.2.2 sa ((twC WP WL wn KS KB KE kn kw sa d cw σ.1 wd X).1) ((twC WP WL wn KS KB KE kn kw sa d cw σ.1 wd X).2.2.1) ((twC WP WL wn KS KB KE kn kw sa d cw σ.1 wd X).2.1) ++ wY kI kZ x σ.1 ++ wW kI kZ x WP WL WC wn wk ++ wK kI kZ x KS KB KE KZ KV kn kw ++ wR kI kZ x ((twC WP WL wn KS KB KE kn kw sa d cw σ.1 wd X).2.2.2.1) ((twC WP WL wn KS KB KE kn kw sa d cw σ.1 wd X).2.2.2.2.1) ((twC WP WL wn KS KB KE kn kw sa d cw σ.1 wd X).2.2.2.2.2)); rw [show twC WP WL wn KS KB KE kn kw sa d cw σ.1 wd X = (X.1 + 1, X.2) from tWd_none (by omega) htr]; have u2 := hch.2.2; rw [show ((agF (fun j => nmAt KS KB KE kn kw cw j) (fun j => plAt WP WL wn wd j) σ (lnOf WL wn wd).toNat).1.1, (agF (fun j => nmAt KS KB KE kn kw cw j) (fun j => plAt WP WL wn wd j) σ (lnOf WL wn wd).toNat).1.2.1, (agF (fun j => nmAt KS KB KE kn kw cw j) (fun j => plAt WP WL wn wd j) σ (lnOf WL wn wd).toNat).1.2.2.1, (agF (fun j => nmAt KS KB KE kn kw cw j) (fun j => plAt WP WL wn wd j) σ (lnOf WL wn wd).toNat).1.2.2.2) = (agF (fun j => nmAt KS KB KE kn kw cw j) (fun j => plAt WP WL wn wd j) σ (lnOf WL wn wd).toNat).1 from rfl, u2])
    · have htr : trC WP WL wn KS KB KE kn kw cw σ.1 wd = some (agF (fun j => nmAt KS KB KE kn kw cw j) (fun j => plAt WP WL wn wd j) σ (lnOf WL wn wd).toNat).1.1 := by have q := hagt.2; rw [ifP_f c2] at q; exact q
      have hSI2 := hagt.1
      refine j_aload_n (q := 42) C 0 rfl d_S_tryWord_41 rfl ?_
      refine j_iload_n (q := 43) C 1 rfl d_S_tryWord_42 rfl ?_
      refine j_iconst (q := 44) C d_S_tryWord_43 rfl ?_
      refine j_iadd (q := 45) C d_S_tryWord_44 rfl ?_
      refine j_callVX (q := 48) (wr := []) C [.int (iI (cw + 1))] [] (hsk (cw + 1) (agF (fun j => nmAt KS KB KE kn kw cw j) (fun j => plAt WP WL wn wd j) σ (lnOf WL wn wd).toNat).1 (X.1 + 1, X.2) hSI2 hIA2 (by omega)) ml_S_60 mk_S_seekFrom in_S_seekFrom se_S_seekFrom rfl rfl rfl [0, 1, 2, 3, 4, 5, 6, 7, 8, 9, 10, 11, 12, 13, 14, 15, 16] [] [0, 1, 2, 3, 4, 5, 6, 7, 8, 9, 10, 11, 12, 13, 14, 15, 16] rfl (by decide) rfl (by decide) (by decide) (fun G1 : GT (agF (fun j => nmAt KS KB KE kn kw cw j) (fun j => plAt WP WL wn wd j) σ (lnOf WL wn wd).toNat).1 => wS kI kZ x ((agF (fun j => nmAt KS KB KE kn kw cw j) (fun j => plAt WP WL wn wd j) σ (lnOf WL wn wd).toNat).1.2.1) G1.1 ((agF (fun j => nmAt KS KB KE kn kw cw j) (fun j => plAt WP WL wn wd j) σ (lnOf WL wn wd).toNat).1.2.2.2) sa ((skC WP WL wn KS KB KE kn kw sa d (cw + 1) (agF (fun j => nmAt KS KB KE kn kw cw j) (fun j => plAt WP WL wn wd j) σ (lnOf WL wn wd).toNat).1.1 (X.1 + 1, X.2)).1) ((skC WP WL wn KS KB KE kn kw sa d (cw + 1) (agF (fun j => nmAt KS KB KE kn kw cw j) (fun j => plAt WP WL wn wd j) σ (lnOf WL wn wd).toNat).1.1 (X.1 + 1, X.2)).2.2.1) ((skC WP WL wn KS KB KE kn kw sa d (cw + 1) (agF (fun j => nmAt KS KB KE kn kw cw j) (fun j => plAt WP WL wn wd j) σ (lnOf WL wn wd).toNat).1.1 (X.1 + 1, X.2)).2.1) ++ wY kI kZ x ((agF (fun j => nmAt KS KB KE kn kw cw j) (fun j => plAt WP WL wn wd j) σ (lnOf WL wn wd).toNat).1.1) ++ wW kI kZ x WP WL WC wn wk ++ wK kI kZ x KS KB KE KZ KV kn kw ++ wR kI kZ x ((skC WP WL wn KS KB KE kn kw sa d (cw + 1) (agF (fun j => nmAt KS KB KE kn kw cw j) (fun j => plAt WP WL wn wd j) σ (lnOf WL wn wd).toNat).1.1 (X.1 + 1, X.2)).2.2.2.1) ((skC WP WL wn KS KB KE kn kw sa d (cw + 1) (agF (fun j => nmAt KS KB KE kn kw cw j) (fun j => plAt WP WL wn wd j) σ (lnOf WL wn wd).toNat).1.1 (X.1 + 1, X.2)).2.2.2.2.1) ((skC WP WL wn KS KB KE kn kw sa d (cw + 1) (agF (fun j => nmAt KS KB KE kn kw cw j) (fun j => plAt WP WL wn wd j) σ (lnOf WL wn wd).toNat).1.1 (X.1 + 1, X.2)).2.2.2.2.2)) (fun _ => rfl) (by decide) rfl rfl rfl (Nat.le_of_ble_eq_true rfl) ⟨by dsimp only; omega, by dsimp only; omega⟩ ⟨Nat.le_of_ble_eq_true rfl, Nat.le_of_ble_eq_true rfl⟩ d_S_tryWord_45 rfl (fun G1 => ?_)
      refine j_aload_n (q := 49) C 0 rfl d_S_tryWord_48 rfl ?_
      refine j_iload_n (q := 50) C 3 rfl d_S_tryWord_49 rfl ?_
      refine j_callV (q := 53) (wr := wW kI kZ x WP WL WC wn wk ++ wK kI kZ x KS KB KE KZ KV kn kw ++ wR kI kZ x ((skC WP WL wn KS KB KE kn kw sa d (cw + 1) (agF (fun j => nmAt KS KB KE kn kw cw j) (fun j => plAt WP WL wn wd j) σ (lnOf WL wn wd).toNat).1.1 (X.1 + 1, X.2)).2.2.2.1) ((skC WP WL wn KS KB KE kn kw sa d (cw + 1) (agF (fun j => nmAt KS KB KE kn kw cw j) (fun j => plAt WP WL wn wd j) σ (lnOf WL wn wd).toNat).1.1 (X.1 + 1, X.2)).2.2.2.2.1) ((skC WP WL wn KS KB KE kn kw sa d (cw + 1) (agF (fun j => nmAt KS KB KE kn kw cw j) (fun j => plAt WP WL wn wd j) σ (lnOf WL wn wd).toNat).1.1 (X.1 + 1, X.2)).2.2.2.2.2)) C [.int (iI (σ.2.2.2))] [] (c_S_takeBack kI kZ x ((agF (fun j => nmAt KS KB KE kn kw cw j) (fun j => plAt WP WL wn wd j) σ (lnOf WL wn wd).toNat).1.1, (agF (fun j => nmAt KS KB KE kn kw cw j) (fun j => plAt WP WL wn wd j) σ (lnOf WL wn wd).toNat).1.2.1, G1.1, (agF (fun j => nmAt KS KB KE kn kw cw j) (fun j => plAt WP WL wn wd j) σ (lnOf WL wn wd).toNat).1.2.2.2) (⟨e35.1.1, e35.1.2.1, G1.2.1, e35.1.2.2.2⟩) sa ((skC WP WL wn KS KB KE kn kw sa d (cw + 1) (agF (fun j => nmAt KS KB KE kn kw cw j) (fun j => plAt WP WL wn wd j) σ (lnOf WL wn wd).toNat).1.1 (X.1 + 1, X.2)).1) ((skC WP WL wn KS KB KE kn kw sa d (cw + 1) (agF (fun j => nmAt KS KB KE kn kw cw j) (fun j => plAt WP WL wn wd j) σ (lnOf WL wn wd).toNat).1.1 (X.1 + 1, X.2)).2.2.1) ((skC WP WL wn KS KB KE kn kw sa d (cw + 1) (agF (fun j => nmAt KS KB KE kn kw cw j) (fun j => plAt WP WL wn wd j) σ (lnOf WL wn wd).toNat).1.1 (X.1 + 1, X.2)).2.1) σ.2.2.2 (⟨by omega, hch.1⟩)) ml_S_110 mk_S_takeBack in_S_takeBack se_S_takeBack rfl rfl rfl [0, 1, 2, 3] [4, 5, 6, 7, 8, 9, 10, 11, 12, 13, 14, 15, 16] [13, 14, 15, 16, 0, 1, 2, 3, 4, 5, 6, 7, 8, 9, 10, 11, 12] rfl (by decide) rfl (by decide) (by decide) (wS kI kZ x ((unT ((agF (fun j => nmAt KS KB KE kn kw cw j) (fun j => plAt WP WL wn wd j) σ (lnOf WL wn wd).toNat).1.1, (agF (fun j => nmAt KS KB KE kn kw cw j) (fun j => plAt WP WL wn wd j) σ (lnOf WL wn wd).toNat).1.2.1, G1.1, (agF (fun j => nmAt KS KB KE kn kw cw j) (fun j => plAt WP WL wn wd j) σ (lnOf WL wn wd).toNat).1.2.2.2) ((agF (fun j => nmAt KS KB KE kn kw cw j) (fun j => plAt WP WL wn wd j) σ (lnOf WL wn wd).toNat).1.2.2.2 - σ.2.2.2).toNat).2) G1.1 σ.2.2.2 sa ((skC WP WL wn KS KB KE kn kw sa d (cw + 1) (agF (fun j => nmAt KS KB KE kn kw cw j) (fun j => plAt WP WL wn wd j) σ (lnOf WL wn wd).toNat).1.1 (X.1 + 1, X.2)).1) ((skC WP WL wn KS KB KE kn kw sa d (cw + 1) (agF (fun j => nmAt KS KB KE kn kw cw j) (fun j => plAt WP WL wn wd j) σ (lnOf WL wn wd).toNat).1.1 (X.1 + 1, X.2)).2.2.1) ((skC WP WL wn KS KB KE kn kw sa d (cw + 1) (agF (fun j => nmAt KS KB KE kn kw cw j) (fun j => plAt WP WL wn wd j) σ (lnOf WL wn wd).toNat).1.1 (X.1 + 1, X.2)).2.1) ++ wY kI kZ x ((unT ((agF (fun j => nmAt KS KB KE kn kw cw j) (fun j => plAt WP WL wn wd j) σ (lnOf WL wn wd).toNat).1.1, (agF (fun j => nmAt KS KB KE kn kw cw j) (fun j => plAt WP WL wn wd j) σ (lnOf WL wn wd).toNat).1.2.1, G1.1, (agF (fun j => nmAt KS KB KE kn kw cw j) (fun j => plAt WP WL wn wd j) σ (lnOf WL wn wd).toNat).1.2.2.2) ((agF (fun j => nmAt KS KB KE kn kw cw j) (fun j => plAt WP WL wn wd j) σ (lnOf WL wn wd).toNat).1.2.2.2 - σ.2.2.2).toNat).1) ++ wW kI kZ x WP WL WC wn wk ++ wK kI kZ x KS KB KE KZ KV kn kw ++ wR kI kZ x ((skC WP WL wn KS KB KE kn kw sa d (cw + 1) (agF (fun j => nmAt KS KB KE kn kw cw j) (fun j => plAt WP WL wn wd j) σ (lnOf WL wn wd).toNat).1.1 (X.1 + 1, X.2)).2.2.2.1) ((skC WP WL wn KS KB KE kn kw sa d (cw + 1) (agF (fun j => nmAt KS KB KE kn kw cw j) (fun j => plAt WP WL wn wd j) σ (lnOf WL wn wd).toNat).1.1 (X.1 + 1, X.2)).2.2.2.2.1) ((skC WP WL wn KS KB KE kn kw sa d (cw + 1) (agF (fun j => nmAt KS KB KE kn kw cw j) (fun j => plAt WP WL wn wd j) σ (lnOf WL wn wd).toNat).1.1 (X.1 + 1, X.2)).2.2.2.2.2)) rfl (by decide) rfl rfl rfl (Nat.le_of_ble_eq_true rfl) ⟨by dsimp only; omega, by dsimp only; omega⟩ ⟨Nat.le_of_ble_eq_true rfl, Nat.le_of_ble_eq_true rfl⟩ d_S_tryWord_50 rfl ?_
      first | (exfalso; omega) | exact j_vretX C hr hlk ⟨G1.1, G1.2.1, fun j hj => (G1.2.2 j (by have := hch.1; omega)).trans (hch.2.1 j hj)⟩ d_S_tryWord_53 (by show (wS kI kZ x ((unT ((agF (fun j => nmAt KS KB KE kn kw cw j) (fun j => plAt WP WL wn wd j) σ (lnOf WL wn wd).toNat).1.1, (agF (fun j => nmAt KS KB KE kn kw cw j) (fun j => plAt WP WL wn wd j) σ (lnOf WL wn wd).toNat).1.2.1, G1.1, (agF (fun j => nmAt KS KB KE kn kw cw j) (fun j => plAt WP WL wn wd j) σ (lnOf WL wn wd).toNat).1.2.2.2) ((agF (fun j => nmAt KS KB KE kn kw cw j) (fun j => plAt WP WL wn wd j) σ (lnOf WL wn wd).toNat).1.2.2.2 - σ.2.2.2).toNat).2) G1.1 σ.2.2.2 sa ((skC WP WL wn KS KB KE kn kw sa d (cw + 1) (agF (fun j => nmAt KS KB KE kn kw cw j) (fun j => plAt WP WL wn wd j) σ (lnOf WL wn wd).toNat).1.1 (X.1 + 1, X.2)).1) ((skC WP WL wn KS KB KE kn kw sa d (cw + 1) (agF (fun j => nmAt KS KB KE kn kw cw j) (fun j => plAt WP WL wn wd j) σ (lnOf WL wn wd).toNat).1.1 (X.1 + 1, X.2)).2.2.1) ((skC WP WL wn KS KB KE kn kw sa d (cw + 1) (agF (fun j => nmAt KS KB KE kn kw cw j) (fun j => plAt WP WL wn wd j) σ (lnOf WL wn wd).toNat).1.1 (X.1 + 1, X.2)).2.1) ++ wY kI kZ x ((unT ((agF (fun j => nmAt KS KB KE kn kw cw j) (fun j => plAt WP WL wn wd j) σ (lnOf WL wn wd).toNat).1.1, (agF (fun j => nmAt KS KB KE kn kw cw j) (fun j => plAt WP WL wn wd j) σ (lnOf WL wn wd).toNat).1.2.1, G1.1, (agF (fun j => nmAt KS KB KE kn kw cw j) (fun j => plAt WP WL wn wd j) σ (lnOf WL wn wd).toNat).1.2.2.2) ((agF (fun j => nmAt KS KB KE kn kw cw j) (fun j => plAt WP WL wn wd j) σ (lnOf WL wn wd).toNat).1.2.2.2 - σ.2.2.2).toNat).1) ++ wW kI kZ x WP WL WC wn wk ++ wK kI kZ x KS KB KE KZ KV kn kw ++ wR kI kZ x ((skC WP WL wn KS KB KE kn kw sa d (cw + 1) (agF (fun j => nmAt KS KB KE kn kw cw j) (fun j => plAt WP WL wn wd j) σ (lnOf WL wn wd).toNat).1.1 (X.1 + 1, X.2)).2.2.2.1) ((skC WP WL wn KS KB KE kn kw sa d (cw + 1) (agF (fun j => nmAt KS KB KE kn kw cw j) (fun j => plAt WP WL wn wd j) σ (lnOf WL wn wd).toNat).1.1 (X.1 + 1, X.2)).2.2.2.2.1) ((skC WP WL wn KS KB KE kn kw sa d (cw + 1) (agF (fun j => nmAt KS KB KE kn kw cw j) (fun j => plAt WP WL wn wd j) σ (lnOf WL wn wd).toNat).1.1 (X.1 + 1, X.2)).2.2.2.2.2)) = (wS kI kZ x σ.2.1 G1.1 σ.2.2.2 sa ((twC WP WL wn KS KB KE kn kw sa d cw σ.1 wd X).1) ((twC WP WL wn KS KB KE kn kw sa d cw σ.1 wd X).2.2.1) ((twC WP WL wn KS KB KE kn kw sa d cw σ.1 wd X).2.1) ++ wY kI kZ x σ.1 ++ wW kI kZ x WP WL WC wn wk ++ wK kI kZ x KS KB KE KZ KV kn kw ++ wR kI kZ x ((twC WP WL wn KS KB KE kn kw sa d cw σ.1 wd X).2.2.2.1) ((twC WP WL wn KS KB KE kn kw sa d cw σ.1 wd X).2.2.2.2.1) ((twC WP WL wn KS KB KE kn kw sa d cw σ.1 wd X).2.2.2.2.2)); have u1 := unT_cong (agF (fun j => nmAt KS KB KE kn kw cw j) (fun j => plAt WP WL wn wd j) σ (lnOf WL wn wd).toNat).1 G1.1 G1.2.2 ((agF (fun j => nmAt KS KB KE kn kw cw j) (fun j => plAt WP WL wn wd j) σ (lnOf WL wn wd).toNat).1.2.2.2 - σ.2.2.2).toNat (by have := hch.1; omega); rw [show twC WP WL wn KS KB KE kn kw sa d cw σ.1 wd X = (skC WP WL wn KS KB KE kn kw sa d (cw + 1) (agF (fun j => nmAt KS KB KE kn kw cw j) (fun j => plAt WP WL wn wd j) σ (lnOf WL wn wd).toNat).1.1 (X.1 + 1, X.2)) from tWd_some (by omega) htr, u1, hch.2.2])
  · refine j_aload_n (q := 12) C 0 rfl d_S_tryWord_11 rfl ?_
    refine j_iconst (q := 13) C d_S_tryWord_12 rfl ?_
    refine j_put (q := 16) (ty := .boolean) C i_S rfl t_S t_S_ok n_S 0 rfl 10 (by decide) rfl fl_S_35 rfl (by decide +kernel) (rfl) rfl (Nat.le_of_ble_eq_true rfl) (wS kI kZ x σ.2.1 σ.2.2.1 σ.2.2.2 sa X.1 X.2.2.1 1 ++ wY kI kZ x σ.1 ++ wW kI kZ x WP WL WC wn wk ++ wK kI kZ x KS KB KE KZ KV kn kw ++ wR kI kZ x X.2.2.2.1 X.2.2.2.2.1 X.2.2.2.2.2) rfl d_S_tryWord_13 rfl ?_
    first | (exfalso; omega) | exact j_vretX C hr hlk ⟨σ.2.2.1, hσ.2.2.1, fun _ _ => rfl⟩ d_S_tryWord_16 (by rw [show twC WP WL wn KS KB KE kn kw sa d cw σ.1 wd X = (X.1, 1, X.2.2) from tWd_stop (by omega)])
set_option maxRecDepth 100000 in
set_option maxHeartbeats 4000000 in
theorem c_S_seekFrom_0 {l : Launch} {D : va_G} (kI kZ : ClassId) (x : Nat → Nat) (WP WL WC : Nat → Int) (wn wk : Int) (hW : IW WP WL WC wn wk) (KS KB KE KZ KV : Nat → Int) (kn kw : Int) (hK : IK KS KB KE KZ KV kn kw) (hPl : ∀ a j, 0 ≤ j → j < lnOf WL wn a → 0 ≤ plAt WP WL wn a j) (hNm : ∀ a j, 0 ≤ a → a < kw → 0 ≤ j → j < lnOf KE kw a → 0 ≤ nmAt KS KB KE kn kw a j) (sa : Int) (hsa : 0 ≤ sa ∧ sa ≤ 100000) (cw : Int) (σ : T4) (X : X3 A4) (hSI : SI σ) (hIA : IA sa X) (hc : 0 ≤ cw ∧ cw = kw) : Dx l D (ty2 kI kZ) y_S_seekFrom w_S_seekFrom { frames := 8 + 2 * 0, cells := 0, slots := 0, locals := 150 + 60 * 0 } [.ref (x 16), .int (iI (cw))] (wS kI kZ x σ.2.1 σ.2.2.1 σ.2.2.2 sa X.1 X.2.2.1 X.2.1 ++ wY kI kZ x σ.1 ++ wW kI kZ x WP WL WC wn wk ++ wK kI kZ x KS KB KE KZ KV kn kw ++ wR kI kZ x X.2.2.2.1 X.2.2.2.2.1 X.2.2.2.2.2) none (fun G : GT σ => wS kI kZ x σ.2.1 G.1 σ.2.2.2 sa ((skC WP WL wn KS KB KE kn kw sa 0 cw σ.1 X).1) ((skC WP WL wn KS KB KE kn kw sa 0 cw σ.1 X).2.2.1) ((skC WP WL wn KS KB KE kn kw sa 0 cw σ.1 X).2.1) ++ wY kI kZ x σ.1 ++ wW kI kZ x WP WL WC wn wk ++ wK kI kZ x KS KB KE KZ KV kn kw ++ wR kI kZ x ((skC WP WL wn KS KB KE kn kw sa 0 cw σ.1 X).2.2.2.1) ((skC WP WL wn KS KB KE kn kw sa 0 cw σ.1 X).2.2.2.2.1) ((skC WP WL wn KS KB KE kn kw sa 0 cw σ.1 X).2.2.2.2.2)) := by
  refine Met.toJ (own := R_S) (QX D none (fun G : GT σ => wS kI kZ x σ.2.1 G.1 σ.2.2.2 sa ((skC WP WL wn KS KB KE kn kw sa 0 cw σ.1 X).1) ((skC WP WL wn KS KB KE kn kw sa 0 cw σ.1 X).2.2.1) ((skC WP WL wn KS KB KE kn kw sa 0 cw σ.1 X).2.1) ++ wY kI kZ x σ.1 ++ wW kI kZ x WP WL WC wn wk ++ wK kI kZ x KS KB KE KZ KV kn kw ++ wR kI kZ x ((skC WP WL wn KS KB KE kn kw sa 0 cw σ.1 X).2.2.2.1) ((skC WP WL wn KS KB KE kn kw sa 0 cw σ.1 X).2.2.2.2.1) ((skC WP WL wn KS KB KE kn kw sa 0 cw σ.1 X).2.2.2.2.2))) mk_S_seekFrom rfl (Nat.le_of_ble_eq_true rfl) ?_
  intro p e s m args below meth c A C hr hlk hnm
  show JJ p l e { frames := 8 + 2 * 0, cells := 0, slots := 0, locals := 150 + 60 * 0 } s m args below meth c D A 4 (MQ below (QX D none (fun G : GT σ => wS kI kZ x σ.2.1 G.1 σ.2.2.2 sa ((skC WP WL wn KS KB KE kn kw sa 0 cw σ.1 X).1) ((skC WP WL wn KS KB KE kn kw sa 0 cw σ.1 X).2.2.1) ((skC WP WL wn KS KB KE kn kw sa 0 cw σ.1 X).2.1) ++ wY kI kZ x σ.1 ++ wW kI kZ x WP WL WC wn wk ++ wK kI kZ x KS KB KE KZ KV kn kw ++ wR kI kZ x ((skC WP WL wn KS KB KE kn kw sa 0 cw σ.1 X).2.2.2.1) ((skC WP WL wn KS KB KE kn kw sa 0 cw σ.1 X).2.2.2.2.1) ((skC WP WL wn KS KB KE kn kw sa 0 cw σ.1 X).2.2.2.2.2)) A) args s 0 0 A) 0 0 0 [(0, .ref (x 16)), (1, .int (iI (cw)))] [] (wS kI kZ x σ.2.1 σ.2.2.1 σ.2.2.2 sa X.1 X.2.2.1 X.2.1 ++ wY kI kZ x σ.1 ++ wW kI kZ x WP WL WC wn wk ++ wK kI kZ x KS KB KE KZ KV kn kw ++ wR kI kZ x X.2.2.2.1 X.2.2.2.2.1 X.2.2.2.2.2)
  obtain ⟨hwn, hwk, hWL, hWP, hWC⟩ := id hW
  obtain ⟨hkn, hkw, hKS, hKB, hKE, hKZ, hKV⟩ := id hK
  have hσ := hSI.1
  have hY := hσ.1
  obtain ⟨hX1, hX2, hX3⟩ := id hIA
  refine j_iload_n (q := 1) C 1 rfl d_S_seekFrom_0 rfl ?_
  refine j_aload_n (q := 2) C 0 rfl d_S_seekFrom_1 rfl ?_
  refine j_get (q := 5) C i_S rfl 0 rfl 1 (by decide) rfl rfl fl_S_43 d_S_seekFrom_2 rfl ?_
  refine j_callV (q := 8) (wr := wS kI kZ x σ.2.1 σ.2.2.1 σ.2.2.2 sa X.1 X.2.2.1 X.2.1 ++ wY kI kZ x σ.1 ++ wW kI kZ x WP WL WC wn wk ++ wR kI kZ x X.2.2.2.1 X.2.2.2.2.1 X.2.2.2.2.2) C [] [.int (iI (cw))] (c_K_codewordCount kI kZ x KS KB KE KZ KV kn kw hK) ml_S_83 mk_K_codewordCount in_K_codewordCount se_K_codewordCount rfl rfl rfl [8, 9, 10, 11, 12, 13] [0, 1, 2, 3, 4, 5, 6, 7, 14, 15, 16] [0, 1, 2, 3, 4, 5, 6, 7, 11, 12, 13, 14, 15, 16, 8, 9, 10] rfl (by decide) rfl (by decide) (by decide) (wS kI kZ x σ.2.1 σ.2.2.1 σ.2.2.2 sa X.1 X.2.2.1 X.2.1 ++ wY kI kZ x σ.1 ++ wW kI kZ x WP WL WC wn wk ++ wK kI kZ x KS KB KE KZ KV kn kw ++ wR kI kZ x X.2.2.2.1 X.2.2.2.2.1 X.2.2.2.2.2) rfl (by decide) rfl rfl rfl (Nat.le_of_ble_eq_true rfl) ⟨Nat.le_of_ble_eq_true rfl, Nat.le_of_ble_eq_true rfl⟩ ⟨Nat.le_of_ble_eq_true rfl, Nat.le_of_ble_eq_true rfl⟩ d_S_seekFrom_5 rfl ?_
  refine j_icmp_lt C 33 11 d_S_seekFrom_8 rfl rfl (by omega) (by omega) (fun c1 => ?_) (fun c1 => ?_)
  · exfalso; omega
  · refine j_aload_n (q := 12) C 0 rfl d_S_seekFrom_11 rfl ?_
    refine j_dup (q := 13) C rfl d_S_seekFrom_12 rfl ?_
    refine j_get (q := 16) C i_S rfl 0 rfl 9 (by decide) rfl rfl fl_S_32 d_S_seekFrom_13 rfl ?_
    refine j_iconst (q := 17) C d_S_seekFrom_16 rfl ?_
    refine j_iadd (q := 18) C d_S_seekFrom_17 rfl ?_
    refine j_put (q := 21) (ty := .int) C i_S rfl t_S t_S_ok n_S 0 rfl 9 (by decide) rfl fl_S_32 rfl (by decide +kernel) rfl rfl (Nat.le_of_ble_eq_true rfl) (wS kI kZ x σ.2.1 σ.2.2.1 σ.2.2.2 sa X.1 (X.2.2.1 + 1) X.2.1 ++ wY kI kZ x σ.1 ++ wW kI kZ x WP WL WC wn wk ++ wK kI kZ x KS KB KE KZ KV kn kw ++ wR kI kZ x X.2.2.2.1 X.2.2.2.2.1 X.2.2.2.2.2) rfl d_S_seekFrom_18 rfl ?_
    refine j_aload_n (q := 22) C 0 rfl d_S_seekFrom_21 rfl ?_
    refine j_get (q := 25) C i_S rfl 0 rfl 2 (by decide) rfl rfl fl_S_47 d_S_seekFrom_22 rfl ?_
    refine j_aload_n (q := 26) C 0 rfl d_S_seekFrom_25 rfl ?_
    refine j_get (q := 29) C i_S rfl 0 rfl 3 (by decide) rfl rfl fl_S_9 d_S_seekFrom_26 rfl ?_
    refine j_callV (q := 32) (wr := wS kI kZ x σ.2.1 σ.2.2.1 σ.2.2.2 sa X.1 (X.2.2.1 + 1) X.2.1 ++ wW kI kZ x WP WL WC wn wk ++ wK kI kZ x KS KB KE KZ KV kn kw) C [.ref (x 17)] [] (c_R_offer kI kZ x X.2.2.2.1 X.2.2.2.2.1 X.2.2.2.2.2 hX3.1 σ.1 hY (hX3.mono σ.1)) ml_S_87 mk_R_offer in_R_offer se_R_offer rfl rfl rfl [14, 15, 16, 3] [0, 1, 2, 4, 5, 6, 7, 8, 9, 10, 11, 12, 13] [0, 1, 2, 16, 3, 4, 5, 6, 7, 8, 9, 10, 11, 12, 13, 14, 15] rfl (by decide) rfl (by decide) (by decide) (wS kI kZ x σ.2.1 σ.2.2.1 σ.2.2.2 sa X.1 (X.2.2.1 + 1) X.2.1 ++ wY kI kZ x σ.1 ++ wW kI kZ x WP WL WC wn wk ++ wK kI kZ x KS KB KE KZ KV kn kw ++ wR kI kZ x (opR X.2.2.2.1 X.2.2.2.2.1 σ.1 X.2.2.2.2.2) (osR X.2.2.2.1 X.2.2.2.2.1 σ.1 X.2.2.2.2.2) (onR X.2.2.2.1 X.2.2.2.2.1 σ.1 X.2.2.2.2.2)) rfl (by decide) rfl rfl rfl (Nat.le_of_ble_eq_true rfl) ⟨Nat.le_of_ble_eq_true rfl, Nat.le_of_ble_eq_true rfl⟩ ⟨Nat.le_of_ble_eq_true rfl, Nat.le_of_ble_eq_true rfl⟩ d_S_seekFrom_29 rfl ?_
    exact j_vretX C hr hlk ⟨σ.2.2.1, hσ.2.2.1, fun _ _ => rfl⟩ d_S_seekFrom_32 rfl
set_option maxRecDepth 100000 in
set_option maxHeartbeats 4000000 in
theorem c_S_seekFrom_s {l : Launch} {D : va_G} (kI kZ : ClassId) (x : Nat → Nat) (WP WL WC : Nat → Int) (wn wk : Int) (hW : IW WP WL WC wn wk) (KS KB KE KZ KV : Nat → Int) (kn kw : Int) (hK : IK KS KB KE KZ KV kn kw) (hPl : ∀ a j, 0 ≤ j → j < lnOf WL wn a → 0 ≤ plAt WP WL wn a j) (hNm : ∀ a j, 0 ≤ a → a < kw → 0 ≤ j → j < lnOf KE kw a → 0 ≤ nmAt KS KB KE kn kw a j) (sa : Int) (hsa : 0 ≤ sa ∧ sa ≤ 100000) (d : Nat) (htw : TwOK l D kI kZ x WP WL WC wn wk KS KB KE KZ KV kn kw sa d) (cw : Int) (σ : T4) (X : X3 A4) (hSI : SI σ) (hIA : IA sa X) (hc : 0 ≤ cw ∧ cw + d + 1 = kw) : Dx l D (ty2 kI kZ) y_S_seekFrom w_S_seekFrom { frames := 8 + 2 * (d + 1), cells := 0, slots := 0, locals := 150 + 60 * (d + 1) } [.ref (x 16), .int (iI (cw))] (wS kI kZ x σ.2.1 σ.2.2.1 σ.2.2.2 sa X.1 X.2.2.1 X.2.1 ++ wY kI kZ x σ.1 ++ wW kI kZ x WP WL WC wn wk ++ wK kI kZ x KS KB KE KZ KV kn kw ++ wR kI kZ x X.2.2.2.1 X.2.2.2.2.1 X.2.2.2.2.2) none (fun G : GT σ => wS kI kZ x σ.2.1 G.1 σ.2.2.2 sa ((skC WP WL wn KS KB KE kn kw sa (d + 1) cw σ.1 X).1) ((skC WP WL wn KS KB KE kn kw sa (d + 1) cw σ.1 X).2.2.1) ((skC WP WL wn KS KB KE kn kw sa (d + 1) cw σ.1 X).2.1) ++ wY kI kZ x σ.1 ++ wW kI kZ x WP WL WC wn wk ++ wK kI kZ x KS KB KE KZ KV kn kw ++ wR kI kZ x ((skC WP WL wn KS KB KE kn kw sa (d + 1) cw σ.1 X).2.2.2.1) ((skC WP WL wn KS KB KE kn kw sa (d + 1) cw σ.1 X).2.2.2.2.1) ((skC WP WL wn KS KB KE kn kw sa (d + 1) cw σ.1 X).2.2.2.2.2)) := by
  refine Met.toJ (own := R_S) (QX D none (fun G : GT σ => wS kI kZ x σ.2.1 G.1 σ.2.2.2 sa ((skC WP WL wn KS KB KE kn kw sa (d + 1) cw σ.1 X).1) ((skC WP WL wn KS KB KE kn kw sa (d + 1) cw σ.1 X).2.2.1) ((skC WP WL wn KS KB KE kn kw sa (d + 1) cw σ.1 X).2.1) ++ wY kI kZ x σ.1 ++ wW kI kZ x WP WL WC wn wk ++ wK kI kZ x KS KB KE KZ KV kn kw ++ wR kI kZ x ((skC WP WL wn KS KB KE kn kw sa (d + 1) cw σ.1 X).2.2.2.1) ((skC WP WL wn KS KB KE kn kw sa (d + 1) cw σ.1 X).2.2.2.2.1) ((skC WP WL wn KS KB KE kn kw sa (d + 1) cw σ.1 X).2.2.2.2.2))) mk_S_seekFrom rfl (Nat.le_of_ble_eq_true rfl) ?_
  intro p e s m args below meth c A C hr hlk hnm
  show JJ p l e { frames := 8 + 2 * (d + 1), cells := 0, slots := 0, locals := 150 + 60 * (d + 1) } s m args below meth c D A 4 (MQ below (QX D none (fun G : GT σ => wS kI kZ x σ.2.1 G.1 σ.2.2.2 sa ((skC WP WL wn KS KB KE kn kw sa (d + 1) cw σ.1 X).1) ((skC WP WL wn KS KB KE kn kw sa (d + 1) cw σ.1 X).2.2.1) ((skC WP WL wn KS KB KE kn kw sa (d + 1) cw σ.1 X).2.1) ++ wY kI kZ x σ.1 ++ wW kI kZ x WP WL WC wn wk ++ wK kI kZ x KS KB KE KZ KV kn kw ++ wR kI kZ x ((skC WP WL wn KS KB KE kn kw sa (d + 1) cw σ.1 X).2.2.2.1) ((skC WP WL wn KS KB KE kn kw sa (d + 1) cw σ.1 X).2.2.2.2.1) ((skC WP WL wn KS KB KE kn kw sa (d + 1) cw σ.1 X).2.2.2.2.2)) A) args s 0 0 A) 0 0 0 [(0, .ref (x 16)), (1, .int (iI (cw)))] [] (wS kI kZ x σ.2.1 σ.2.2.1 σ.2.2.2 sa X.1 X.2.2.1 X.2.1 ++ wY kI kZ x σ.1 ++ wW kI kZ x WP WL WC wn wk ++ wK kI kZ x KS KB KE KZ KV kn kw ++ wR kI kZ x X.2.2.2.1 X.2.2.2.2.1 X.2.2.2.2.2)
  obtain ⟨hwn, hwk, hWL, hWP, hWC⟩ := id hW
  obtain ⟨hkn, hkw, hKS, hKB, hKE, hKZ, hKV⟩ := id hK
  have hσ := hSI.1
  have hY := hσ.1
  have hsgr := hσ.2.2.2
  refine j_iload_n (q := 1) C 1 rfl d_S_seekFrom_0 rfl ?_
  refine j_aload_n (q := 2) C 0 rfl d_S_seekFrom_1 rfl ?_
  refine j_get (q := 5) C i_S rfl 0 rfl 1 (by decide) rfl rfl fl_S_43 d_S_seekFrom_2 rfl ?_
  refine j_callV (q := 8) (wr := wS kI kZ x σ.2.1 σ.2.2.1 σ.2.2.2 sa X.1 X.2.2.1 X.2.1 ++ wY kI kZ x σ.1 ++ wW kI kZ x WP WL WC wn wk ++ wR kI kZ x X.2.2.2.1 X.2.2.2.2.1 X.2.2.2.2.2) C [] [.int (iI (cw))] (c_K_codewordCount kI kZ x KS KB KE KZ KV kn kw hK) ml_S_83 mk_K_codewordCount in_K_codewordCount se_K_codewordCount rfl rfl rfl [8, 9, 10, 11, 12, 13] [0, 1, 2, 3, 4, 5, 6, 7, 14, 15, 16] [0, 1, 2, 3, 4, 5, 6, 7, 11, 12, 13, 14, 15, 16, 8, 9, 10] rfl (by decide) rfl (by decide) (by decide) (wS kI kZ x σ.2.1 σ.2.2.1 σ.2.2.2 sa X.1 X.2.2.1 X.2.1 ++ wY kI kZ x σ.1 ++ wW kI kZ x WP WL WC wn wk ++ wK kI kZ x KS KB KE KZ KV kn kw ++ wR kI kZ x X.2.2.2.1 X.2.2.2.2.1 X.2.2.2.2.2) rfl (by decide) rfl rfl rfl (Nat.le_of_ble_eq_true rfl) ⟨by dsimp only; omega, by dsimp only; omega⟩ ⟨Nat.le_of_ble_eq_true rfl, Nat.le_of_ble_eq_true rfl⟩ d_S_seekFrom_5 rfl ?_
  refine j_icmp_lt C 33 11 d_S_seekFrom_8 rfl rfl (by omega) (by omega) (fun c1 => ?_) (fun c1 => ?_)
  · refine j_aload_n (q := 34) C 0 rfl d_S_seekFrom_33 rfl ?_
    refine j_get (q := 37) C i_S rfl 0 rfl 1 (by decide) rfl rfl fl_S_43 d_S_seekFrom_34 rfl ?_
    refine j_iload_n (q := 38) C 1 rfl d_S_seekFrom_37 rfl ?_
    have e38 := lnK_r hKE kw cw
    refine j_callV (q := 41) (wr := wS kI kZ x σ.2.1 σ.2.2.1 σ.2.2.2 sa X.1 X.2.2.1 X.2.1 ++ wY kI kZ x σ.1 ++ wW kI kZ x WP WL WC wn wk ++ wR kI kZ x X.2.2.2.1 X.2.2.2.2.1 X.2.2.2.2.2) C [.int (iI (cw))] [] (c_K_codewordLength kI kZ x KS KB KE KZ KV kn kw hK cw (by omega)) ml_S_91 mk_K_codewordLength in_K_codewordLength se_K_codewordLength rfl rfl rfl [8, 9, 10, 11, 12, 13] [0, 1, 2, 3, 4, 5, 6, 7, 14, 15, 16] [0, 1, 2, 3, 4, 5, 6, 7, 11, 12, 13, 14, 15, 16, 8, 9, 10] rfl (by decide) rfl (by decide) (by decide) (wS kI kZ x σ.2.1 σ.2.2.1 σ.2.2.2 sa X.1 X.2.2.1 X.2.1 ++ wY kI kZ x σ.1 ++ wW kI kZ x WP WL WC wn wk ++ wK kI kZ x KS KB KE KZ KV kn kw ++ wR kI kZ x X.2.2.2.1 X.2.2.2.2.1 X.2.2.2.2.2) rfl (by decide) rfl rfl rfl (Nat.le_of_ble_eq_true rfl) ⟨by dsimp only; omega, by dsimp only; omega⟩ ⟨Nat.le_of_ble_eq_true rfl, Nat.le_of_ble_eq_true rfl⟩ d_S_seekFrom_38 rfl ?_
    refine j_istore_n (q := 42) C [(0, .ref (x 16)), (1, .int (iI (cw))), (2, .int (iI (lnOf KE kw cw)))] rfl (by decide) d_S_seekFrom_41 rfl ?_
    refine j_iconst (q := 43) C d_S_seekFrom_42 rfl ?_
    refine j_istore_n (q := 44) C [(0, .ref (x 16)), (1, .int (iI (cw))), (2, .int (iI (lnOf KE kw cw))), (3, .int (iI (0)))] rfl (by decide) d_S_seekFrom_43 rfl ?_
    have lp44 : ∀ (N : Nat) (i : Int) (Y : X3 A4) (G : Nat → Int), (0 ≤ i ∧ i ≤ wn) → (Y = fwX (lpC WP WL wn KS KB KE kn kw sa d cw σ.1) i.toNat X) → (IA sa Y) → ((∀ j, 0 ≤ G j ∧ G j < 26) ∧ ∀ j : Nat, (j : Int) < σ.2.2.2 → G j = σ.2.2.1 j) → (wn - i).toNat < N → JJ p l e { frames := 8 + 2 * (d + 1), cells := 0, slots := 0, locals := 150 + 60 * (d + 1) } s m args below meth c D A 4 (MQ below (QX D none (fun G : GT σ => wS kI kZ x σ.2.1 G.1 σ.2.2.2 sa ((skC WP WL wn KS KB KE kn kw sa (d + 1) cw σ.1 X).1) ((skC WP WL wn KS KB KE kn kw sa (d + 1) cw σ.1 X).2.2.1) ((skC WP WL wn KS KB KE kn kw sa (d + 1) cw σ.1 X).2.1) ++ wY kI kZ x σ.1 ++ wW kI kZ x WP WL WC wn wk ++ wK kI kZ x KS KB KE KZ KV kn kw ++ wR kI kZ x ((skC WP WL wn KS KB KE kn kw sa (d + 1) cw σ.1 X).2.2.2.1) ((skC WP WL wn KS KB KE kn kw sa (d + 1) cw σ.1 X).2.2.2.2.1) ((skC WP WL wn KS KB KE kn kw sa (d + 1) cw σ.1 X).2.2.2.2.2)) A) args s 0 0 A) 0 0 44 [(0, .ref (x 16)), (1, .int (iI (cw))), (2, .int (iI (lnOf KE kw cw))), (3, .int (iI (i)))] [] (wS kI kZ x σ.2.1 G σ.2.2.2 sa Y.1 Y.2.2.1 Y.2.1 ++ wY kI kZ x σ.1 ++ wW kI kZ x WP WL WC wn wk ++ wK kI kZ x KS KB KE KZ KV kn kw ++ wR kI kZ x Y.2.2.2.1 Y.2.2.2.2.1 Y.2.2.2.2.2) := by
      intro N
      induction N with
      | zero =>
        intro i Y G i0 i1 i2 i3 hN
        omega
      | succ N ih =>
        intro i Y G i0 i1 i2 i3 hN
        have hY1 := i2.1
        have hY2 := i2.2.1
        have hSIG : SI (σ.1, σ.2.1, G, σ.2.2.2) := ⟨⟨hσ.1, hσ.2.1, i3.1, hσ.2.2.2⟩, hSI.2⟩
        refine j_iload_n (q := 45) C 3 rfl d_S_seekFrom_44 rfl ?_
        refine j_aload_n (q := 46) C 0 rfl d_S_seekFrom_45 rfl ?_
        refine j_get (q := 49) C i_S rfl 0 rfl 0 (by decide) rfl rfl fl_S_39 d_S_seekFrom_46 rfl ?_
        refine j_callV (q := 52) (wr := wS kI kZ x σ.2.1 G σ.2.2.2 sa Y.1 Y.2.2.1 Y.2.1 ++ wY kI kZ x σ.1 ++ wK kI kZ x KS KB KE KZ KV kn kw ++ wR kI kZ x Y.2.2.2.1 Y.2.2.2.2.1 Y.2.2.2.2.2) C [] [.int (iI (i))] (c_W_size kI kZ x WP WL WC wn wk hW) ml_S_94 mk_W_size in_W_size se_W_size rfl rfl rfl [4, 5, 6, 7] [0, 1, 2, 3, 8, 9, 10, 11, 12, 13, 14, 15, 16] [0, 1, 2, 3, 13, 14, 15, 16, 4, 5, 6, 7, 8, 9, 10, 11, 12] rfl (by decide) rfl (by decide) (by decide) (wS kI kZ x σ.2.1 G σ.2.2.2 sa Y.1 Y.2.2.1 Y.2.1 ++ wY kI kZ x σ.1 ++ wW kI kZ x WP WL WC wn wk ++ wK kI kZ x KS KB KE KZ KV kn kw ++ wR kI kZ x Y.2.2.2.1 Y.2.2.2.2.1 Y.2.2.2.2.2) rfl (by decide) rfl rfl rfl (Nat.le_of_ble_eq_true rfl) ⟨by dsimp only; omega, by dsimp only; omega⟩ ⟨Nat.le_of_ble_eq_true rfl, Nat.le_of_ble_eq_true rfl⟩ d_S_seekFrom_49 rfl ?_
        refine j_icmp_ge C 86 55 d_S_seekFrom_52 rfl rfl (by omega) (by omega) (fun c2 => ?_) (fun c2 => ?_)
        · have kfin : fwX (lpC WP WL wn KS KB KE kn kw sa d cw σ.1) wn.toNat X = Y := by rw [i1, show wn.toNat = i.toNat from by omega]
          first | (exfalso; omega) | exact j_vretX C hr hlk ⟨G, i3.1, i3.2⟩ d_S_seekFrom_86 (by rw [skC_s, kfin])
        · refine j_aload_n (q := 56) C 0 rfl d_S_seekFrom_55 rfl ?_
          refine j_get (q := 59) C i_S rfl 0 rfl 10 (by decide) rfl rfl fl_S_35 d_S_seekFrom_56 rfl ?_
          refine j_if_ne C 86 62 d_S_seekFrom_59 rfl rfl (by omega) (fun c3 => ?_) (fun c3 => ?_)
          · have kfin : fwX (lpC WP WL wn KS KB KE kn kw sa d cw σ.1) wn.toNat X = Y := by have q := fwX_stuck (g := (lpC WP WL wn KS KB KE kn kw sa d cw σ.1)) (X := X) (i := i.toNat) (fun wd => by rw [← i1]; exact ifP_f (fun z => by have := z.1; omega)) (wn.toNat - i.toNat); rw [show i.toNat + (wn.toNat - i.toNat) = wn.toNat from by omega] at q; rw [q, ← i1]
            first | (exfalso; omega) | exact j_vretX C hr hlk ⟨G, i3.1, i3.2⟩ d_S_seekFrom_86 (by rw [skC_s, kfin])
          · refine j_aload_n (q := 63) C 0 rfl d_S_seekFrom_62 rfl ?_
            refine j_get (q := 66) C i_S rfl 0 rfl 0 (by decide) rfl rfl fl_S_39 d_S_seekFrom_63 rfl ?_
            refine j_iload_n (q := 67) C 3 rfl d_S_seekFrom_66 rfl ?_
            have e67 := lnOf_r hW i
            refine j_callV (q := 70) (wr := wS kI kZ x σ.2.1 G σ.2.2.2 sa Y.1 Y.2.2.1 Y.2.1 ++ wY kI kZ x σ.1 ++ wK kI kZ x KS KB KE KZ KV kn kw ++ wR kI kZ x Y.2.2.2.1 Y.2.2.2.2.1 Y.2.2.2.2.2) C [.int (iI (i))] [] (c_W_lengthOf kI kZ x WP WL WC wn wk hW i (by omega)) ml_S_99 mk_W_lengthOf in_W_lengthOf se_W_lengthOf rfl rfl rfl [4, 5, 6, 7] [0, 1, 2, 3, 8, 9, 10, 11, 12, 13, 14, 15, 16] [0, 1, 2, 3, 13, 14, 15, 16, 4, 5, 6, 7, 8, 9, 10, 11, 12] rfl (by decide) rfl (by decide) (by decide) (wS kI kZ x σ.2.1 G σ.2.2.2 sa Y.1 Y.2.2.1 Y.2.1 ++ wY kI kZ x σ.1 ++ wW kI kZ x WP WL WC wn wk ++ wK kI kZ x KS KB KE KZ KV kn kw ++ wR kI kZ x Y.2.2.2.1 Y.2.2.2.2.1 Y.2.2.2.2.2) rfl (by decide) rfl rfl rfl (Nat.le_of_ble_eq_true rfl) ⟨by dsimp only; omega, by dsimp only; omega⟩ ⟨Nat.le_of_ble_eq_true rfl, Nat.le_of_ble_eq_true rfl⟩ d_S_seekFrom_67 rfl ?_
            refine j_iload_n (q := 71) C 2 rfl d_S_seekFrom_70 rfl ?_
            refine j_icmp_ne C 80 74 d_S_seekFrom_71 rfl rfl (by omega) (by omega) (fun c4 => ?_) (fun c4 => ?_)
            · refine j_iinc (q := 83) C 3 [(0, .ref (x 16)), (1, .int (iI (cw))), (2, .int (iI (lnOf KE kw cw))), (3, .int (iI (i + 1)))] rfl rfl (by decide) d_S_seekFrom_80 rfl ?_
              refine j_goto C 44 d_S_seekFrom_83 rfl ?_
              exact ih (i + 1) Y G (by omega) (by rw [fwX_s _ i0.1, ← i1]; exact (ifP_f (fun z => by have := z.2; unfold mlC at this; omega)).symm) i2 i3 (by omega)
            · refine j_aload_n (q := 75) C 0 rfl d_S_seekFrom_74 rfl ?_
              refine j_iload_n (q := 76) C 1 rfl d_S_seekFrom_75 rfl ?_
              refine j_iload_n (q := 77) C 3 rfl d_S_seekFrom_76 rfl ?_
              refine j_callVX (q := 80) (wr := []) C [.int (iI (cw)), .int (iI (i))] [] (htw cw i (σ.1, σ.2.1, G, σ.2.2.2) Y hSIG i2 (by omega) (by omega) (by omega)) ml_S_102 mk_S_tryWord in_S_tryWord se_S_tryWord rfl rfl rfl [0, 1, 2, 3, 4, 5, 6, 7, 8, 9, 10, 11, 12, 13, 14, 15, 16] [] [0, 1, 2, 3, 4, 5, 6, 7, 8, 9, 10, 11, 12, 13, 14, 15, 16] rfl (by decide) rfl (by decide) (by decide) (fun G2 : GT (σ.1, σ.2.1, G, σ.2.2.2) => wS kI kZ x σ.2.1 G2.1 σ.2.2.2 sa ((twC WP WL wn KS KB KE kn kw sa d cw σ.1 i Y).1) ((twC WP WL wn KS KB KE kn kw sa d cw σ.1 i Y).2.2.1) ((twC WP WL wn KS KB KE kn kw sa d cw σ.1 i Y).2.1) ++ wY kI kZ x σ.1 ++ wW kI kZ x WP WL WC wn wk ++ wK kI kZ x KS KB KE KZ KV kn kw ++ wR kI kZ x ((twC WP WL wn KS KB KE kn kw sa d cw σ.1 i Y).2.2.2.1) ((twC WP WL wn KS KB KE kn kw sa d cw σ.1 i Y).2.2.2.2.1) ((twC WP WL wn KS KB KE kn kw sa d cw σ.1 i Y).2.2.2.2.2)) (fun _ => rfl) (by decide) rfl rfl rfl (Nat.le_of_ble_eq_true rfl) ⟨by dsimp only; omega, by dsimp only; omega⟩ ⟨Nat.le_of_ble_eq_true rfl, Nat.le_of_ble_eq_true rfl⟩ d_S_seekFrom_77 rfl (fun G2 => ?_)
              refine j_iinc (q := 83) C 3 [(0, .ref (x 16)), (1, .int (iI (cw))), (2, .int (iI (lnOf KE kw cw))), (3, .int (iI (i + 1)))] rfl rfl (by decide) d_S_seekFrom_80 rfl ?_
              refine j_goto C 44 d_S_seekFrom_83 rfl ?_
              exact ih (i + 1) (twC WP WL wn KS KB KE kn kw sa d cw σ.1 i Y) G2.1 (by omega) (by rw [fwX_s _ i0.1, ← i1]; exact (ifP_t ⟨by omega, by unfold mlC; omega⟩).symm) (twC_inv hW KS KB KE kn kw sa d cw i i2 hY) ⟨G2.2.1, fun j hj => (G2.2.2 j hj).trans (i3.2 j hj)⟩ (by omega)
    exact lp44 (wn.toNat + 1) 0 X σ.2.2.1 (by omega) rfl hIA ⟨hσ.2.2.1, fun _ _ => rfl⟩ (by omega)
  · exfalso; omega
theorem c_S_both {l : Launch} {D : va_G} (kI kZ : ClassId) (x : Nat → Nat) (WP WL WC : Nat → Int) (wn wk : Int) (hW : IW WP WL WC wn wk) (KS KB KE KZ KV : Nat → Int) (kn kw : Int) (hK : IK KS KB KE KZ KV kn kw) (hPl : ∀ a j, 0 ≤ j → j < lnOf WL wn a → 0 ≤ plAt WP WL wn a j) (hNm : ∀ a j, 0 ≤ a → a < kw → 0 ≤ j → j < lnOf KE kw a → 0 ≤ nmAt KS KB KE kn kw a j) (sa : Int) (hsa : 0 ≤ sa ∧ sa ≤ 100000) (d : Nat) : SkOK l D kI kZ x WP WL WC wn wk KS KB KE KZ KV kn kw sa d := by
  induction d with
  | zero => exact fun cw σ X h1 h2 h3 => c_S_seekFrom_0 kI kZ x WP WL WC wn wk hW KS KB KE KZ KV kn kw hK hPl hNm sa hsa cw σ X h1 h2 (by omega)
  | succ d ih => exact fun cw σ X h1 h2 h3 => c_S_seekFrom_s kI kZ x WP WL WC wn wk hW KS KB KE KZ KV kn kw hK hPl hNm sa hsa d (fun cw wd σ X g1 g2 g3 g4 g5 => c_S_tryWord kI kZ x WP WL WC wn wk hW KS KB KE KZ KV kn kw hK hPl hNm sa hsa d ih cw wd σ X g1 g2 g3 g4 g5) cw σ X h1 h2 (by omega)
end
section
/-- the letters kept, given to the numbers in the code: letters, letters taken, 0 when two have one letter -/
def bgF (KZ KV : Nat → Int) (f0 t0 : Nat → Int) : Nat → ((Nat → Int) × (Nat → Int)) × Int
  | 0 => ((f0, t0), 1)
  | i + 1 => if (bgF KZ KV f0 t0 i).2 = 0 then bgF KZ KV f0 t0 i else if ¬ ctK KZ i = 0 ∧ (0 ≤ kpAt KV i ∧ kpAt KV i < 26) then (if (bgF KZ KV f0 t0 i).1.2 (kpAt KV i).toNat = 0 then ((uI (bgF KZ KV f0 t0 i).1.1 (i : Int).toNat (kpAt KV i), uI (bgF KZ KV f0 t0 i).1.2 (kpAt KV i).toNat 1), 1) else ((bgF KZ KV f0 t0 i).1, 0)) else bgF KZ KV f0 t0 i
theorem bgF_1 (KZ KV f0 t0 : Nat → Int) (i : Nat) : bgF KZ KV f0 t0 (i + 1) = if (bgF KZ KV f0 t0 i).2 = 0 then bgF KZ KV f0 t0 i else if ¬ ctK KZ i = 0 ∧ (0 ≤ kpAt KV i ∧ kpAt KV i < 26) then (if (bgF KZ KV f0 t0 i).1.2 (kpAt KV i).toNat = 0 then ((uI (bgF KZ KV f0 t0 i).1.1 (i : Int).toNat (kpAt KV i), uI (bgF KZ KV f0 t0 i).1.2 (kpAt KV i).toNat 1), 1) else ((bgF KZ KV f0 t0 i).1, 0)) else bgF KZ KV f0 t0 i := rfl
theorem bgF_s (KZ KV f0 t0 : Nat → Int) {i : Int} (h : 0 ≤ i) : bgF KZ KV f0 t0 (i + 1).toNat = if (bgF KZ KV f0 t0 i.toNat).2 = 0 then bgF KZ KV f0 t0 i.toNat else if ¬ ctK KZ i = 0 ∧ (0 ≤ kpAt KV i ∧ kpAt KV i < 26) then (if (bgF KZ KV f0 t0 i.toNat).1.2 (kpAt KV i).toNat = 0 then ((uI (bgF KZ KV f0 t0 i.toNat).1.1 i.toNat (kpAt KV i), uI (bgF KZ KV f0 t0 i.toNat).1.2 (kpAt KV i).toNat 1), 1) else ((bgF KZ KV f0 t0 i.toNat).1, 0)) else bgF KZ KV f0 t0 i.toNat := by
  obtain ⟨n, rfl⟩ := Int.eq_ofNat_of_zero_le h
  rfl
theorem bgF_z {KZ KV f0 t0 : Nat → Int} {i : Nat} (h : (bgF KZ KV f0 t0 i).2 = 0) (k : Nat) : bgF KZ KV f0 t0 (i + k) = bgF KZ KV f0 t0 i := by
  induction k with
  | zero => rfl
  | succ k ih =>
    rw [show i + (k + 1) = (i + k) + 1 from rfl, bgF_1, if_pos (by rw [ih]; exact h)]
    exact ih
theorem bgF_r {KZ KV f0 t0 : Nat → Int} (h1 : ∀ j, -1 ≤ f0 j ∧ f0 j < 26) (h2 : ∀ j, 0 ≤ t0 j ∧ t0 j ≤ 1) (i : Nat) : ((∀ j, -1 ≤ (bgF KZ KV f0 t0 i).1.1 j ∧ (bgF KZ KV f0 t0 i).1.1 j < 26) ∧ ∀ j, 0 ≤ (bgF KZ KV f0 t0 i).1.2 j ∧ (bgF KZ KV f0 t0 i).1.2 j ≤ 1) ∧ (0 ≤ (bgF KZ KV f0 t0 i).2 ∧ (bgF KZ KV f0 t0 i).2 ≤ 1) := by
  induction i with
  | zero => exact ⟨⟨h1, h2⟩, by show 0 ≤ (1 : Int) ∧ (1 : Int) ≤ 1; omega⟩
  | succ i ih =>
    rw [bgF_1]
    split
    · exact ih
    · split
      · split
        · refine ⟨⟨fun j => ?_, fun j => ?_⟩, by show 0 ≤ (1 : Int) ∧ (1 : Int) ≤ 1; omega⟩
          · have := ih.1.1 j; show -1 ≤ uI _ _ _ j ∧ uI _ _ _ j < 26; unfold uI; split <;> omega
          · have := ih.1.2 j; show 0 ≤ uI _ _ _ j ∧ uI _ _ _ j ≤ 1; unfold uI; split <;> omega
        · exact ⟨ih.1, by show 0 ≤ (0 : Int) ∧ (0 : Int) ≤ 1; omega⟩
      · exact ih

set_option maxRecDepth 100000 in
set_option maxHeartbeats 4000000 in
theorem c_S_beginWithKept {l : Launch} {D : va_G} (kI kZ : ClassId) (x : Nat → Nat) (σ : T4) (hσ : I4 σ) (sa sm sf ss : Int) (KS KB KE KZ KV : Nat → Int) (kn kw : Int) (hK : IK KS KB KE KZ KV kn kw) : Dt l D (ty2 kI kZ) y_S_beginWithKept w_S_beginWithKept { frames := 2, cells := 0, slots := 0, locals := 41 } [.ref (x 16)] (wS kI kZ x σ.2.1 σ.2.2.1 σ.2.2.2 sa sm sf ss ++ wY kI kZ x σ.1 ++ wK kI kZ x KS KB KE KZ KV kn kw) (some (.int (iI ((bgF KZ KV (zrB σ.1 (-1)) (zrB σ.2.1 0) 26).2)))) (wS kI kZ x ((bgF KZ KV (zrB σ.1 (-1)) (zrB σ.2.1 0) 26).1.2) σ.2.2.1 0 sa sm sf ss ++ wY kI kZ x ((bgF KZ KV (zrB σ.1 (-1)) (zrB σ.2.1 0) 26).1.1) ++ wK kI kZ x KS KB KE KZ KV kn kw) := by
  refine Met.toJ (own := R_S) (QD D (some (.int (iI ((bgF KZ KV (zrB σ.1 (-1)) (zrB σ.2.1 0) 26).2)))) (wS kI kZ x ((bgF KZ KV (zrB σ.1 (-1)) (zrB σ.2.1 0) 26).1.2) σ.2.2.1 0 sa sm sf ss ++ wY kI kZ x ((bgF KZ KV (zrB σ.1 (-1)) (zrB σ.2.1 0) 26).1.1) ++ wK kI kZ x KS KB KE KZ KV kn kw)) mk_S_beginWithKept rfl (Nat.le_of_ble_eq_true rfl) ?_
  intro p e s m args below meth c A C hr hlk hnm
  show JJ p l e { frames := 2, cells := 0, slots := 0, locals := 41 } s m args below meth c D A 3 (MQ below (QD D (some (.int (iI ((bgF KZ KV (zrB σ.1 (-1)) (zrB σ.2.1 0) 26).2)))) (wS kI kZ x ((bgF KZ KV (zrB σ.1 (-1)) (zrB σ.2.1 0) 26).1.2) σ.2.2.1 0 sa sm sf ss ++ wY kI kZ x ((bgF KZ KV (zrB σ.1 (-1)) (zrB σ.2.1 0) 26).1.1) ++ wK kI kZ x KS KB KE KZ KV kn kw) A) args s 0 0 A) 0 0 0 [(0, .ref (x 16))] [] (wS kI kZ x σ.2.1 σ.2.2.1 σ.2.2.2 sa sm sf ss ++ wY kI kZ x σ.1 ++ wK kI kZ x KS KB KE KZ KV kn kw)
  obtain ⟨hY, hST, hSG, hsg⟩ := id hσ
  obtain ⟨hkn, hkw, hKS, hKB, hKE, hKZ, hKV⟩ := id hK
  refine j_aload_n (q := 1) C 0 rfl d_S_beginWithKept_0 rfl ?_
  refine j_iconst (q := 2) C d_S_beginWithKept_1 rfl ?_
  refine j_put (q := 5) (ty := .int) C i_S rfl t_S t_S_ok n_S 0 rfl 6 (by decide) rfl fl_S_22 rfl (by decide +kernel) rfl rfl (Nat.le_of_ble_eq_true rfl) (wS kI kZ x σ.2.1 σ.2.2.1 0 sa sm sf ss ++ wY kI kZ x σ.1 ++ wK kI kZ x KS KB KE KZ KV kn kw) rfl d_S_beginWithKept_2 rfl ?_
  refine j_aload_n (q := 6) C 0 rfl d_S_beginWithKept_5 rfl ?_
  refine j_get (q := 9) C i_S rfl 0 rfl 3 (by decide) rfl rfl fl_S_9 d_S_beginWithKept_6 rfl ?_
  refine j_iconst (q := 10) C d_S_beginWithKept_9 rfl ?_
  refine j_callS (q := 13) (wr := wS kI kZ x σ.2.1 σ.2.2.1 0 sa sm sf ss ++ wK kI kZ x KS KB KE KZ KV kn kw) C [.ref (x 17), .int (iI (-1))] [] (c_A_fill kI kZ x σ.1 (-1)) ml_S_64 mk_A_fill st_A_fill [3] [0, 1, 2, 4, 5, 6, 7, 8, 9] [0, 1, 2, 9, 3, 4, 5, 6, 7, 8] rfl (by decide) rfl (by decide) (by decide) (wS kI kZ x σ.2.1 σ.2.2.1 0 sa sm sf ss ++ wY kI kZ x (zrB σ.1 (-1)) ++ wK kI kZ x KS KB KE KZ KV kn kw) rfl (by decide) rfl rfl rfl (Nat.le_of_ble_eq_true rfl) ⟨Nat.le_of_ble_eq_true rfl, Nat.le_of_ble_eq_true rfl⟩ ⟨Nat.le_of_ble_eq_true rfl, Nat.le_of_ble_eq_true rfl⟩ d_S_beginWithKept_10 rfl ?_
  refine j_iconst (q := 14) C d_S_beginWithKept_13 rfl ?_
  refine j_istore_n (q := 15) C [(0, .ref (x 16)), (1, .int (iI (0)))] rfl (by decide) d_S_beginWithKept_14 rfl ?_
  have lp15 : ∀ (N : Nat) (i : Int) (T : Nat → Int), (0 ≤ i ∧ i ≤ 26) → (∀ j : Nat, T j = if (j : Int) < i then 0 else σ.2.1 j) → (26 - i).toNat < N → JJ p l e { frames := 2, cells := 0, slots := 0, locals := 41 } s m args below meth c D A 3 (MQ below (QD D (some (.int (iI ((bgF KZ KV (zrB σ.1 (-1)) (zrB σ.2.1 0) 26).2)))) (wS kI kZ x ((bgF KZ KV (zrB σ.1 (-1)) (zrB σ.2.1 0) 26).1.2) σ.2.2.1 0 sa sm sf ss ++ wY kI kZ x ((bgF KZ KV (zrB σ.1 (-1)) (zrB σ.2.1 0) 26).1.1) ++ wK kI kZ x KS KB KE KZ KV kn kw) A) args s 0 0 A) 0 0 15 [(0, .ref (x 16)), (1, .int (iI (i)))] [] (wS kI kZ x T σ.2.2.1 0 sa sm sf ss ++ wY kI kZ x (zrB σ.1 (-1)) ++ wK kI kZ x KS KB KE KZ KV kn kw) := by
    intro N
    induction N with
    | zero =>
      intro i T i0 i1 hN
      omega
    | succ N ih =>
      intro i T i0 i1 hN
      refine j_iload_n (q := 16) C 1 rfl d_S_beginWithKept_15 rfl ?_
      refine j_bipush (q := 18) C d_S_beginWithKept_16 rfl rfl ?_
      refine j_icmp_ge C 34 21 d_S_beginWithKept_18 rfl rfl (by omega) (by omega) (fun c1 => ?_) (fun c1 => ?_)
      · obtain rfl : T = zrB σ.2.1 0 := by funext j; rw [i1 j]; unfold zrB; split <;> split <;> first | rfl | omega
        refine j_iconst (q := 35) C d_S_beginWithKept_34 rfl ?_
        refine j_istore_n (q := 36) C [(0, .ref (x 16)), (1, .int (iI (0)))] rfl (by decide) d_S_beginWithKept_35 rfl ?_
        have lp36 : ∀ (N : Nat) (j0 : Int) (τ : (Nat → Int) × (Nat → Int)), (0 ≤ j0 ∧ j0 ≤ 26) → ((τ, (1 : Int)) = bgF KZ KV (zrB σ.1 (-1)) (zrB σ.2.1 0) j0.toNat) → ((∀ j, -1 ≤ τ.1 j ∧ τ.1 j < 26) ∧ ∀ j, 0 ≤ τ.2 j ∧ τ.2 j ≤ 1) → (26 - j0).toNat < N → JJ p l e { frames := 2, cells := 0, slots := 0, locals := 41 } s m args below meth c D A 3 (MQ below (QD D (some (.int (iI ((bgF KZ KV (zrB σ.1 (-1)) (zrB σ.2.1 0) 26).2)))) (wS kI kZ x ((bgF KZ KV (zrB σ.1 (-1)) (zrB σ.2.1 0) 26).1.2) σ.2.2.1 0 sa sm sf ss ++ wY kI kZ x ((bgF KZ KV (zrB σ.1 (-1)) (zrB σ.2.1 0) 26).1.1) ++ wK kI kZ x KS KB KE KZ KV kn kw) A) args s 0 0 A) 0 0 36 [(0, .ref (x 16)), (1, .int (iI (j0)))] [] (wS kI kZ x τ.2 σ.2.2.1 0 sa sm sf ss ++ wY kI kZ x τ.1 ++ wK kI kZ x KS KB KE KZ KV kn kw) := by
          intro N
          induction N with
          | zero =>
            intro j0 τ j0r j1 j2 hN
            omega
          | succ N ih =>
            intro j0 τ j0r j1 j2 hN
            refine j_iload_n (q := 37) C 1 rfl d_S_beginWithKept_36 rfl ?_
            refine j_bipush (q := 39) C d_S_beginWithKept_37 rfl rfl ?_
            refine j_icmp_ge C 100 42 d_S_beginWithKept_39 rfl rfl (by omega) (by omega) (fun c2 => ?_) (fun c2 => ?_)
            · refine j_iconst (q := 101) C d_S_beginWithKept_100 rfl ?_
              first | (exfalso; omega) | exact j_zret C hr hlk (by omega) d_S_beginWithKept_101 (congrArg (fun z => some (Value.int (iI z))) (show ((bgF KZ KV (zrB σ.1 (-1)) (zrB σ.2.1 0) 26).2) = (1) from by rw [show (26 : Nat) = j0.toNat from by omega, ← j1])) (by rw [show (26 : Nat) = j0.toNat from by omega, ← j1])
            · refine j_aload_n (q := 43) C 0 rfl d_S_beginWithKept_42 rfl ?_
              refine j_get (q := 46) C i_S rfl 0 rfl 1 (by decide) rfl rfl fl_S_43 d_S_beginWithKept_43 rfl ?_
              refine j_iload_n (q := 47) C 1 rfl d_S_beginWithKept_46 rfl ?_
              have e47 := kpAt_r hKV j0
              refine j_callV (q := 50) (wr := wS kI kZ x τ.2 σ.2.2.1 0 sa sm sf ss ++ wY kI kZ x τ.1) C [.int (iI (j0))] [] (c_K_keptPlace kI kZ x KS KB KE KZ KV kn kw hK j0 (by omega)) ml_S_70 mk_K_keptPlace in_K_keptPlace se_K_keptPlace rfl rfl rfl [4, 5, 6, 7, 8, 9] [0, 1, 2, 3] [0, 1, 2, 3, 4, 5, 6, 7, 8, 9] rfl (by decide) rfl (by decide) (by decide) (wS kI kZ x τ.2 σ.2.2.1 0 sa sm sf ss ++ wY kI kZ x τ.1 ++ wK kI kZ x KS KB KE KZ KV kn kw) rfl (by decide) rfl rfl rfl (Nat.le_of_ble_eq_true rfl) ⟨Nat.le_of_ble_eq_true rfl, Nat.le_of_ble_eq_true rfl⟩ ⟨Nat.le_of_ble_eq_true rfl, Nat.le_of_ble_eq_true rfl⟩ d_S_beginWithKept_47 rfl ?_
              refine j_istore_n (q := 51) C [(0, .ref (x 16)), (1, .int (iI (j0))), (2, .int (iI (kpAt KV j0)))] rfl (by decide) d_S_beginWithKept_50 rfl ?_
              refine j_aload_n (q := 52) C 0 rfl d_S_beginWithKept_51 rfl ?_
              refine j_get (q := 55) C i_S rfl 0 rfl 1 (by decide) rfl rfl fl_S_43 d_S_beginWithKept_52 rfl ?_
              refine j_iload_n (q := 56) C 1 rfl d_S_beginWithKept_55 rfl ?_
              have e56 := ctK_r KZ j0
              refine j_callV (q := 59) (wr := wS kI kZ x τ.2 σ.2.2.1 0 sa sm sf ss ++ wY kI kZ x τ.1) C [.int (iI (j0))] [] (c_K_contains kI kZ x KS KB KE KZ KV kn kw hK j0 (by omega)) ml_S_76 mk_K_contains in_K_contains se_K_contains rfl rfl rfl [4, 5, 6, 7, 8, 9] [0, 1, 2, 3] [0, 1, 2, 3, 4, 5, 6, 7, 8, 9] rfl (by decide) rfl (by decide) (by decide) (wS kI kZ x τ.2 σ.2.2.1 0 sa sm sf ss ++ wY kI kZ x τ.1 ++ wK kI kZ x KS KB KE KZ KV kn kw) rfl (by decide) rfl rfl rfl (Nat.le_of_ble_eq_true rfl) ⟨Nat.le_of_ble_eq_true rfl, Nat.le_of_ble_eq_true rfl⟩ ⟨Nat.le_of_ble_eq_true rfl, Nat.le_of_ble_eq_true rfl⟩ d_S_beginWithKept_56 rfl ?_
              refine j_if_eq C 94 62 d_S_beginWithKept_59 rfl rfl (by omega) (fun c3 => ?_) (fun c3 => ?_)
              · refine j_iinc (q := 97) C 1 [(0, .ref (x 16)), (1, .int (iI (j0 + 1))), (2, .int (iI (kpAt KV j0)))] rfl rfl (by decide) d_S_beginWithKept_94 rfl ?_
                refine j_goto C 36 d_S_beginWithKept_97 rfl ?_
                refine j_lv [0, 1] rfl ?_
                exact ih (j0 + 1) (τ.1, τ.2) (by omega) (by rw [bgF_s _ _ _ _ j0r.1, ← j1, if_neg (show ¬ (1 : Int) = 0 by decide)]; first | rw [if_neg (by omega)] | rw [if_pos (by omega), if_pos (by show τ.2 (kpAt KV j0).toNat = 0; omega)]) ⟨fun j => j2.1 j, fun j => j2.2 j⟩ (by omega)
              · refine j_iload_n (q := 63) C 2 rfl d_S_beginWithKept_62 rfl ?_
                have e63 := bP_r (kpAt KV j0)
                refine j_callN (q := 66) (wr := wS kI kZ x τ.2 σ.2.2.1 0 sa sm sf ss ++ wY kI kZ x τ.1 ++ wK kI kZ x KS KB KE KZ KV kn kw) C [.int (iI (kpAt KV j0))] [] (c_C_isPlace kI kZ x (kpAt KV j0) (by omega)) nl_S_80 mk_C_isPlace st_C_isPlace [] [0, 1, 2, 3, 4, 5, 6, 7, 8, 9] [0, 1, 2, 3, 4, 5, 6, 7, 8, 9] rfl (by decide) rfl (by decide) (by decide) (wS kI kZ x τ.2 σ.2.2.1 0 sa sm sf ss ++ wY kI kZ x τ.1 ++ wK kI kZ x KS KB KE KZ KV kn kw) rfl (by decide) rfl rfl rfl (Nat.le_of_ble_eq_true rfl) ⟨Nat.le_of_ble_eq_true rfl, Nat.le_of_ble_eq_true rfl⟩ ⟨Nat.le_of_ble_eq_true rfl, Nat.le_of_ble_eq_true rfl⟩ d_S_beginWithKept_63 rfl ?_
                refine j_if_eq C 94 69 d_S_beginWithKept_66 rfl rfl (by omega) (fun c4 => ?_) (fun c4 => ?_)
                · have c4 := bP_0 c4
                  refine j_iinc (q := 97) C 1 [(0, .ref (x 16)), (1, .int (iI (j0 + 1))), (2, .int (iI (kpAt KV j0)))] rfl rfl (by decide) d_S_beginWithKept_94 rfl ?_
                  refine j_goto C 36 d_S_beginWithKept_97 rfl ?_
                  refine j_lv [0, 1] rfl ?_
                  exact ih (j0 + 1) (τ.1, τ.2) (by omega) (by rw [bgF_s _ _ _ _ j0r.1, ← j1, if_neg (show ¬ (1 : Int) = 0 by decide)]; first | rw [if_neg (by omega)] | rw [if_pos (by omega), if_pos (by show τ.2 (kpAt KV j0).toNat = 0; omega)]) ⟨fun j => j2.1 j, fun j => j2.2 j⟩ (by omega)
                · have c4 := bP_1 c4
                  refine j_aload_n (q := 70) C 0 rfl d_S_beginWithKept_69 rfl ?_
                  refine j_get (q := 73) C i_S rfl 0 rfl 4 (by decide) rfl rfl fl_S_15 d_S_beginWithKept_70 rfl ?_
                  refine j_iload_n (q := 74) C 2 rfl d_S_beginWithKept_73 rfl ?_
                  refine j_zald (q := 75) C 1 1 rfl rfl (by decide) (by omega) d_S_beginWithKept_74 rfl ?_
                  have h74 := j2.2 (kpAt KV j0).toNat
                  refine j_if_eq C 80 78 d_S_beginWithKept_75 rfl rfl (by omega) (fun c5 => ?_) (fun c5 => ?_)
                  · refine j_aload_n (q := 81) C 0 rfl d_S_beginWithKept_80 rfl ?_
                    refine j_get (q := 84) C i_S rfl 0 rfl 3 (by decide) rfl rfl fl_S_9 d_S_beginWithKept_81 rfl ?_
                    refine j_iload_n (q := 85) C 1 rfl d_S_beginWithKept_84 rfl ?_
                    refine j_iload_n (q := 86) C 2 rfl d_S_beginWithKept_85 rfl ?_
                    refine j_iast (q := 87) C 3 0 rfl rfl (by decide) (by omega) (wS kI kZ x τ.2 σ.2.2.1 0 sa sm sf ss ++ wY kI kZ x (uI τ.1 j0.toNat (kpAt KV j0)) ++ wK kI kZ x KS KB KE KZ KV kn kw) rfl d_S_beginWithKept_86 rfl ?_
                    refine j_aload_n (q := 88) C 0 rfl d_S_beginWithKept_87 rfl ?_
                    refine j_get (q := 91) C i_S rfl 0 rfl 4 (by decide) rfl rfl fl_S_15 d_S_beginWithKept_88 rfl ?_
                    refine j_iload_n (q := 92) C 2 rfl d_S_beginWithKept_91 rfl ?_
                    refine j_iconst (q := 93) C d_S_beginWithKept_92 rfl ?_
                    refine j_zast (q := 94) C 1 1 rfl rfl (by decide) (by omega) (by omega) (wS kI kZ x (uI τ.2 (kpAt KV j0).toNat 1) σ.2.2.1 0 sa sm sf ss ++ wY kI kZ x (uI τ.1 j0.toNat (kpAt KV j0)) ++ wK kI kZ x KS KB KE KZ KV kn kw) rfl d_S_beginWithKept_93 rfl ?_
                    refine j_iinc (q := 97) C 1 [(0, .ref (x 16)), (1, .int (iI (j0 + 1))), (2, .int (iI (kpAt KV j0)))] rfl rfl (by decide) d_S_beginWithKept_94 rfl ?_
                    refine j_goto C 36 d_S_beginWithKept_97 rfl ?_
                    refine j_lv [0, 1] rfl ?_
                    exact ih (j0 + 1) (uI τ.1 j0.toNat (kpAt KV j0), uI τ.2 (kpAt KV j0).toNat 1) (by omega) (by rw [bgF_s _ _ _ _ j0r.1, ← j1, if_neg (show ¬ (1 : Int) = 0 by decide)]; first | rw [if_neg (by omega)] | rw [if_pos (by omega), if_pos (by show τ.2 (kpAt KV j0).toNat = 0; omega)]) ⟨fun j => (by have q := j2.1 j; show -1 ≤ uI _ _ _ j ∧ uI _ _ _ j < 26; unfold uI; split <;> omega), fun j => (by have q := j2.2 j; show 0 ≤ uI _ _ _ j ∧ uI _ _ _ j ≤ 1; unfold uI; split <;> omega)⟩ (by omega)
                  · have k79 : bgF KZ KV (zrB σ.1 (-1)) (zrB σ.2.1 0) (j0 + 1).toNat = (τ, 0) := by rw [bgF_s _ _ _ _ j0r.1, ← j1, if_neg (show ¬ (1 : Int) = 0 by decide)]; rw [if_pos (by omega), if_neg (by show ¬ τ.2 (kpAt KV j0).toNat = 0; omega)]
                    have k78 := bgF_z (i := (j0 + 1).toNat) (by rw [k79]) (26 - (j0 + 1).toNat)
                    rw [show (j0 + 1).toNat + (26 - (j0 + 1).toNat) = 26 from by omega] at k78
                    refine j_iconst (q := 79) C d_S_beginWithKept_78 rfl ?_
                    first | (exfalso; omega) | exact j_zret C hr hlk (by omega) d_S_beginWithKept_79 (congrArg (fun z => some (Value.int (iI z))) (show ((bgF KZ KV (zrB σ.1 (-1)) (zrB σ.2.1 0) 26).2) = (0) from by rw [k78, k79])) (by rw [k78, k79])
        exact lp36 27 0 (zrB σ.1 (-1), zrB σ.2.1 0) (by omega) rfl ⟨fun j => (by have q := hY j; unfold zrB; dsimp only; split <;> omega), fun j => (by have q := hST j; unfold zrB; dsimp only; split <;> omega)⟩ (by omega)
      · refine j_aload_n (q := 22) C 0 rfl d_S_beginWithKept_21 rfl ?_
        refine j_get (q := 25) C i_S rfl 0 rfl 4 (by decide) rfl rfl fl_S_15 d_S_beginWithKept_22 rfl ?_
        refine j_iload_n (q := 26) C 1 rfl d_S_beginWithKept_25 rfl ?_
        refine j_iconst (q := 27) C d_S_beginWithKept_26 rfl ?_
        refine j_zast (q := 28) C 1 1 rfl rfl (by decide) (by omega) (by omega) (wS kI kZ x (uI T i.toNat 0) σ.2.2.1 0 sa sm sf ss ++ wY kI kZ x (zrB σ.1 (-1)) ++ wK kI kZ x KS KB KE KZ KV kn kw) rfl d_S_beginWithKept_27 rfl ?_
        refine j_iinc (q := 31) C 1 [(0, .ref (x 16)), (1, .int (iI (i + 1)))] rfl rfl (by decide) d_S_beginWithKept_28 rfl ?_
        refine j_goto C 15 d_S_beginWithKept_31 rfl ?_
        exact ih (i + 1) _ (by omega) (fun j => by unfold uI; rw [i1 j]; split <;> split <;> first | rfl | omega) (by omega)
  exact lp15 27 0 σ.2.1 (by omega) (fun j => by rw [if_neg (by omega)]) (by omega)
theorem bg_SI {KZ KV f0 t0 : Nat → Int} (h1 : ∀ j, j < 26 → f0 j = -1) (h2 : ∀ j, j < 26 → t0 j = 0) (i : Nat) : i ≤ 26 → (∀ k : Nat, i ≤ k → k < 26 → (bgF KZ KV f0 t0 i).1.1 k = -1) ∧ ∀ q : Int, 0 ≤ q → q < 26 → ((bgF KZ KV f0 t0 i).1.2 q.toNat = 0 ↔ ∀ n : Int, 0 ≤ n → n < 26 → ¬ (bgF KZ KV f0 t0 i).1.1 n.toNat = q) := by
  induction i with
  | zero =>
    intro _
    refine ⟨fun k _ hk => h1 k hk, fun q hq1 hq2 => ⟨fun _ n hn1 hn2 hh => ?_, fun _ => h2 _ (by omega)⟩⟩
    have := h1 n.toNat (by omega)
    have hh2 : f0 n.toNat = q := hh
    omega
  | succ i ih =>
    intro hi
    obtain ⟨a1, a2⟩ := ih (by omega)
    rw [bgF_1]
    split
    · exact ⟨fun k hk1 hk2 => a1 k (by omega) hk2, a2⟩
    · split
      · rename_i c0 c1
        split
        · rename_i c2
          refine ⟨fun k hk1 hk2 => ?_, fun q hq1 hq2 => ?_⟩
          · show uI _ _ _ k = -1
            rw [show uI (bgF KZ KV f0 t0 i).1.1 (i : Int).toNat (kpAt KV i) k = (bgF KZ KV f0 t0 i).1.1 k from if_neg (by omega)]
            exact a1 k (by omega) hk2
          · show uI (bgF KZ KV f0 t0 i).1.2 (kpAt KV i).toNat 1 q.toNat = 0 ↔ ∀ n : Int, 0 ≤ n → n < 26 → ¬ uI (bgF KZ KV f0 t0 i).1.1 (i : Int).toNat (kpAt KV i) n.toNat = q
            by_cases c3 : q = kpAt KV i
            · constructor
              · intro z
                rw [c3, show uI (bgF KZ KV f0 t0 i).1.2 (kpAt KV i).toNat 1 (kpAt KV i).toNat = 1 from if_pos rfl] at z
                omega
              · intro z
                exact absurd (show uI (bgF KZ KV f0 t0 i).1.1 (i : Int).toNat (kpAt KV i) (i : Int).toNat = q by rw [c3]; exact if_pos rfl) (z i (by omega) (by omega))
            · rw [show uI (bgF KZ KV f0 t0 i).1.2 (kpAt KV i).toNat 1 q.toNat = (bgF KZ KV f0 t0 i).1.2 q.toNat from if_neg (by omega), a2 q hq1 hq2]
              have hi1 := a1 i (Nat.le_refl i) (by omega)
              constructor
              · intro z n hn1 hn2
                by_cases c4 : n = i
                · rw [c4, show uI (bgF KZ KV f0 t0 i).1.1 (i : Int).toNat (kpAt KV i) (i : Int).toNat = kpAt KV i from if_pos rfl]; omega
                · rw [show uI (bgF KZ KV f0 t0 i).1.1 (i : Int).toNat (kpAt KV i) n.toNat = (bgF KZ KV f0 t0 i).1.1 n.toNat from if_neg (by omega)]; exact z n hn1 hn2
              · intro z n hn1 hn2
                by_cases c4 : n = i
                · rw [show n.toNat = i from by omega, hi1]; omega
                · have := z n hn1 hn2
                  rwa [show uI (bgF KZ KV f0 t0 i).1.1 (i : Int).toNat (kpAt KV i) n.toNat = (bgF KZ KV f0 t0 i).1.1 n.toNat from if_neg (by omega)] at this
        · exact ⟨fun k hk1 hk2 => a1 k (by omega) hk2, a2⟩
      · exact ⟨fun k hk1 hk2 => a1 k (by omega) hk2, a2⟩
/-- the letters that numbers have at the beginning of a run -/
def bg1 (KZ KV SP ST : Nat → Int) : Nat → Int := (bgF KZ KV (zrB SP (-1)) (zrB ST 0) 26).1.1
def bg0 (KZ KV SP ST : Nat → Int) : Int := (bgF KZ KV (zrB SP (-1)) (zrB ST 0) 26).2
/-- the whole run -/
noncomputable def rnC (WP WL : Nat → Int) (wn : Int) (KS KB KE KZ KV : Nat → Int) (kn kw sa : Int) (SP ST RP RS : Nat → Int) : X3 A4 := if bg0 KZ KV SP ST = 0 then (0, 0, 0, RP, RS, 0) else skC WP WL wn KS KB KE kn kw sa kw.toNat 0 (bg1 KZ KV SP ST) (0, 0, 0, RP, RS, 0)

set_option maxRecDepth 100000 in
set_option maxHeartbeats 4000000 in
theorem c_S_seekAll {l : Launch} {D : va_G} (kI kZ : ClassId) (x : Nat → Nat) (WP WL WC : Nat → Int) (wn wk : Int) (hW : IW WP WL WC wn wk) (KS KB KE KZ KV : Nat → Int) (kn kw : Int) (hK : IK KS KB KE KZ KV kn kw) (hPl : ∀ a j, 0 ≤ j → j < lnOf WL wn a → 0 ≤ plAt WP WL wn a j) (hNm : ∀ a j, 0 ≤ a → a < kw → 0 ≤ j → j < lnOf KE kw a → 0 ≤ nmAt KS KB KE kn kw a j) (sa : Int) (hsa : 0 ≤ sa ∧ sa ≤ 100000) (σ : T4) (hσ : I4 σ) (sa0 sm sf ss : Int) (RP RS : Nat → Int) (rn : Int) (hR : IR RP RS rn) : Dx l D (ty2 kI kZ) y_S_seekAll w_S_seekAll { frames := 80, cells := 0, slots := 0, locals := 2200 } [.ref (x 16), .int (iI (sa))] (wS kI kZ x σ.2.1 σ.2.2.1 σ.2.2.2 sa0 sm sf ss ++ wY kI kZ x σ.1 ++ wW kI kZ x WP WL WC wn wk ++ wK kI kZ x KS KB KE KZ KV kn kw ++ wR kI kZ x RP RS rn) (some (.int (iI (if (rnC WP WL wn KS KB KE KZ KV kn kw sa σ.1 σ.2.1 RP RS).2.1 = 0 then (rnC WP WL wn KS KB KE KZ KV kn kw sa σ.1 σ.2.1 RP RS).2.2.1 else -1)))) (fun σ2 : { σ2 : T4 // I4 σ2 } => wS kI kZ x σ2.1.2.1 σ2.1.2.2.1 σ2.1.2.2.2 sa ((rnC WP WL wn KS KB KE KZ KV kn kw sa σ.1 σ.2.1 RP RS).1) ((rnC WP WL wn KS KB KE KZ KV kn kw sa σ.1 σ.2.1 RP RS).2.2.1) ((rnC WP WL wn KS KB KE KZ KV kn kw sa σ.1 σ.2.1 RP RS).2.1) ++ wY kI kZ x σ2.1.1 ++ wW kI kZ x WP WL WC wn wk ++ wK kI kZ x KS KB KE KZ KV kn kw ++ wR kI kZ x ((rnC WP WL wn KS KB KE KZ KV kn kw sa σ.1 σ.2.1 RP RS).2.2.2.1) ((rnC WP WL wn KS KB KE KZ KV kn kw sa σ.1 σ.2.1 RP RS).2.2.2.2.1) (if (rnC WP WL wn KS KB KE KZ KV kn kw sa σ.1 σ.2.1 RP RS).2.1 = 0 then (rnC WP WL wn KS KB KE KZ KV kn kw sa σ.1 σ.2.1 RP RS).2.2.2.2.2 else 0)) := by
  refine Met.toJ (own := R_S) (QX D (some (.int (iI (if (rnC WP WL wn KS KB KE KZ KV kn kw sa σ.1 σ.2.1 RP RS).2.1 = 0 then (rnC WP WL wn KS KB KE KZ KV kn kw sa σ.1 σ.2.1 RP RS).2.2.1 else -1)))) (fun σ2 : { σ2 : T4 // I4 σ2 } => wS kI kZ x σ2.1.2.1 σ2.1.2.2.1 σ2.1.2.2.2 sa ((rnC WP WL wn KS KB KE KZ KV kn kw sa σ.1 σ.2.1 RP RS).1) ((rnC WP WL wn KS KB KE KZ KV kn kw sa σ.1 σ.2.1 RP RS).2.2.1) ((rnC WP WL wn KS KB KE KZ KV kn kw sa σ.1 σ.2.1 RP RS).2.1) ++ wY kI kZ x σ2.1.1 ++ wW kI kZ x WP WL WC wn wk ++ wK kI kZ x KS KB KE KZ KV kn kw ++ wR kI kZ x ((rnC WP WL wn KS KB KE KZ KV kn kw sa σ.1 σ.2.1 RP RS).2.2.2.1) ((rnC WP WL wn KS KB KE KZ KV kn kw sa σ.1 σ.2.1 RP RS).2.2.2.2.1) (if (rnC WP WL wn KS KB KE KZ KV kn kw sa σ.1 σ.2.1 RP RS).2.1 = 0 then (rnC WP WL wn KS KB KE KZ KV kn kw sa σ.1 σ.2.1 RP RS).2.2.2.2.2 else 0))) mk_S_seekAll rfl (Nat.le_of_ble_eq_true rfl) ?_
  intro p e s m args below meth c A C hr hlk hnm
  show JJ p l e { frames := 80, cells := 0, slots := 0, locals := 2200 } s m args below meth c D A 2 (MQ below (QX D (some (.int (iI (if (rnC WP WL wn KS KB KE KZ KV kn kw sa σ.1 σ.2.1 RP RS).2.1 = 0 then (rnC WP WL wn KS KB KE KZ KV kn kw sa σ.1 σ.2.1 RP RS).2.2.1 else -1)))) (fun σ2 : { σ2 : T4 // I4 σ2 } => wS kI kZ x σ2.1.2.1 σ2.1.2.2.1 σ2.1.2.2.2 sa ((rnC WP WL wn KS KB KE KZ KV kn kw sa σ.1 σ.2.1 RP RS).1) ((rnC WP WL wn KS KB KE KZ KV kn kw sa σ.1 σ.2.1 RP RS).2.2.1) ((rnC WP WL wn KS KB KE KZ KV kn kw sa σ.1 σ.2.1 RP RS).2.1) ++ wY kI kZ x σ2.1.1 ++ wW kI kZ x WP WL WC wn wk ++ wK kI kZ x KS KB KE KZ KV kn kw ++ wR kI kZ x ((rnC WP WL wn KS KB KE KZ KV kn kw sa σ.1 σ.2.1 RP RS).2.2.2.1) ((rnC WP WL wn KS KB KE KZ KV kn kw sa σ.1 σ.2.1 RP RS).2.2.2.2.1) (if (rnC WP WL wn KS KB KE KZ KV kn kw sa σ.1 σ.2.1 RP RS).2.1 = 0 then (rnC WP WL wn KS KB KE KZ KV kn kw sa σ.1 σ.2.1 RP RS).2.2.2.2.2 else 0)) A) args s 0 0 A) 0 0 0 [(0, .ref (x 16)), (1, .int (iI (sa)))] [] (wS kI kZ x σ.2.1 σ.2.2.1 σ.2.2.2 sa0 sm sf ss ++ wY kI kZ x σ.1 ++ wW kI kZ x WP WL WC wn wk ++ wK kI kZ x KS KB KE KZ KV kn kw ++ wR kI kZ x RP RS rn)
  obtain ⟨hY, hST, hSG, hsg⟩ := id hσ
  obtain ⟨hwn, hwk, hWL, hWP, hWC⟩ := id hW
  obtain ⟨hkn, hkw, hKS, hKB, hKE, hKZ, hKV⟩ := id hK
  have hIA0 : IA sa (0, 0, 0, RP, RS, 0) := ⟨⟨Int.le_refl 0, hsa.1⟩, Or.inl rfl, IRR.nil hR⟩
  refine j_aload_n (q := 1) C 0 rfl d_S_seekAll_0 rfl ?_
  refine j_get (q := 4) C i_S rfl 0 rfl 2 (by decide) rfl rfl fl_S_47 d_S_seekAll_1 rfl ?_
  refine j_callV (q := 7) (wr := wS kI kZ x σ.2.1 σ.2.2.1 σ.2.2.2 sa0 sm sf ss ++ wY kI kZ x σ.1 ++ wW kI kZ x WP WL WC wn wk ++ wK kI kZ x KS KB KE KZ KV kn kw) C [] [] (c_R_forget kI kZ x RP RS rn hR) ml_S_51 mk_R_forget in_R_forget se_R_forget rfl rfl rfl [14, 15, 16] [0, 1, 2, 3, 4, 5, 6, 7, 8, 9, 10, 11, 12, 13] [0, 1, 2, 3, 4, 5, 6, 7, 8, 9, 10, 11, 12, 13, 14, 15, 16] rfl (by decide) rfl (by decide) (by decide) (wS kI kZ x σ.2.1 σ.2.2.1 σ.2.2.2 sa0 sm sf ss ++ wY kI kZ x σ.1 ++ wW kI kZ x WP WL WC wn wk ++ wK kI kZ x KS KB KE KZ KV kn kw ++ wR kI kZ x RP RS 0) rfl (by decide) rfl rfl rfl (Nat.le_of_ble_eq_true rfl) ⟨Nat.le_of_ble_eq_true rfl, Nat.le_of_ble_eq_true rfl⟩ ⟨Nat.le_of_ble_eq_true rfl, Nat.le_of_ble_eq_true rfl⟩ d_S_seekAll_4 rfl ?_
  refine j_aload_n (q := 8) C 0 rfl d_S_seekAll_7 rfl ?_
  refine j_iload_n (q := 9) C 1 rfl d_S_seekAll_8 rfl ?_
  refine j_put (q := 12) (ty := .int) C i_S rfl t_S t_S_ok n_S 0 rfl 7 (by decide) rfl fl_S_26 rfl (by decide +kernel) rfl rfl (Nat.le_of_ble_eq_true rfl) (wS kI kZ x σ.2.1 σ.2.2.1 σ.2.2.2 sa sm sf ss ++ wY kI kZ x σ.1 ++ wW kI kZ x WP WL WC wn wk ++ wK kI kZ x KS KB KE KZ KV kn kw ++ wR kI kZ x RP RS 0) rfl d_S_seekAll_9 rfl ?_
  refine j_aload_n (q := 13) C 0 rfl d_S_seekAll_12 rfl ?_
  refine j_iconst (q := 14) C d_S_seekAll_13 rfl ?_
  refine j_put (q := 17) (ty := .int) C i_S rfl t_S t_S_ok n_S 0 rfl 8 (by decide) rfl fl_S_29 rfl (by decide +kernel) rfl rfl (Nat.le_of_ble_eq_true rfl) (wS kI kZ x σ.2.1 σ.2.2.1 σ.2.2.2 sa 0 sf ss ++ wY kI kZ x σ.1 ++ wW kI kZ x WP WL WC wn wk ++ wK kI kZ x KS KB KE KZ KV kn kw ++ wR kI kZ x RP RS 0) rfl d_S_seekAll_14 rfl ?_
  refine j_aload_n (q := 18) C 0 rfl d_S_seekAll_17 rfl ?_
  refine j_iconst (q := 19) C d_S_seekAll_18 rfl ?_
  refine j_put (q := 22) (ty := .int) C i_S rfl t_S t_S_ok n_S 0 rfl 9 (by decide) rfl fl_S_32 rfl (by decide +kernel) rfl rfl (Nat.le_of_ble_eq_true rfl) (wS kI kZ x σ.2.1 σ.2.2.1 σ.2.2.2 sa 0 0 ss ++ wY kI kZ x σ.1 ++ wW kI kZ x WP WL WC wn wk ++ wK kI kZ x KS KB KE KZ KV kn kw ++ wR kI kZ x RP RS 0) rfl d_S_seekAll_19 rfl ?_
  refine j_aload_n (q := 23) C 0 rfl d_S_seekAll_22 rfl ?_
  refine j_iconst (q := 24) C d_S_seekAll_23 rfl ?_
  refine j_put (q := 27) (ty := .boolean) C i_S rfl t_S t_S_ok n_S 0 rfl 10 (by decide) rfl fl_S_35 rfl (by decide +kernel) (rfl) rfl (Nat.le_of_ble_eq_true rfl) (wS kI kZ x σ.2.1 σ.2.2.1 σ.2.2.2 sa 0 0 0 ++ wY kI kZ x σ.1 ++ wW kI kZ x WP WL WC wn wk ++ wK kI kZ x KS KB KE KZ KV kn kw ++ wR kI kZ x RP RS 0) rfl d_S_seekAll_24 rfl ?_
  refine j_aload_n (q := 28) C 0 rfl d_S_seekAll_27 rfl ?_
  have e28 := bgF_r (KZ := KZ) (KV := KV) (f0 := zrB σ.1 (-1)) (t0 := zrB σ.2.1 0) (fun j => (by have q := hY j; unfold zrB; split <;> omega)) (fun j => (by have q := hST j; unfold zrB; split <;> omega)) 26
  refine j_callV (q := 31) (wr := wW kI kZ x WP WL WC wn wk ++ wR kI kZ x RP RS 0) C [] [] (c_S_beginWithKept kI kZ x σ hσ sa 0 0 0 KS KB KE KZ KV kn kw hK) ml_S_56 mk_S_beginWithKept in_S_beginWithKept se_S_beginWithKept rfl rfl rfl [0, 1, 2, 3, 8, 9, 10, 11, 12, 13] [4, 5, 6, 7, 14, 15, 16] [7, 8, 9, 10, 0, 1, 2, 3, 11, 12, 13, 14, 15, 16, 4, 5, 6] rfl (by decide) rfl (by decide) (by decide) (wS kI kZ x ((bgF KZ KV (zrB σ.1 (-1)) (zrB σ.2.1 0) 26).1.2) σ.2.2.1 0 sa 0 0 0 ++ wY kI kZ x ((bgF KZ KV (zrB σ.1 (-1)) (zrB σ.2.1 0) 26).1.1) ++ wW kI kZ x WP WL WC wn wk ++ wK kI kZ x KS KB KE KZ KV kn kw ++ wR kI kZ x RP RS 0) rfl (by decide) rfl rfl rfl (Nat.le_of_ble_eq_true rfl) ⟨Nat.le_of_ble_eq_true rfl, Nat.le_of_ble_eq_true rfl⟩ ⟨Nat.le_of_ble_eq_true rfl, Nat.le_of_ble_eq_true rfl⟩ d_S_seekAll_28 rfl ?_
  refine j_if_eq C 39 34 d_S_seekAll_31 rfl rfl (by omega) (fun c1 => ?_) (fun c1 => ?_)
  · refine j_aload_n (q := 40) C 0 rfl d_S_seekAll_39 rfl ?_
    refine j_get (q := 43) C i_S rfl 0 rfl 10 (by decide) rfl rfl fl_S_35 d_S_seekAll_40 rfl ?_
    refine j_if_eq C 55 46 d_S_seekAll_43 rfl rfl (by omega) (fun c2 => ?_) (fun c2 => ?_)
    · refine j_aload_n (q := 56) C 0 rfl d_S_seekAll_55 rfl ?_
      refine j_get (q := 59) C i_S rfl 0 rfl 9 (by decide) rfl rfl fl_S_32 d_S_seekAll_56 rfl ?_
      first | (exfalso; omega) | exact j_iretX C hr hlk ⟨((bgF KZ KV (zrB σ.1 (-1)) (zrB σ.2.1 0) 26).1.1, (bgF KZ KV (zrB σ.1 (-1)) (zrB σ.2.1 0) 26).1.2, σ.2.2.1, 0), e28.1.1, e28.1.2, hSG, by show (0 : Int) ≤ 0 ∧ (0 : Int) ≤ 26; omega⟩ d_S_seekAll_59 (congrArg (fun z => some (Value.int (iI z))) (show (if (rnC WP WL wn KS KB KE KZ KV kn kw sa σ.1 σ.2.1 RP RS).2.1 = 0 then (rnC WP WL wn KS KB KE KZ KV kn kw sa σ.1 σ.2.1 RP RS).2.2.1 else -1) = (0) from (by rw [show rnC WP WL wn KS KB KE KZ KV kn kw sa σ.1 σ.2.1 RP RS = (0, 0, 0, RP, RS, 0) from (by unfold rnC bg0 bg1; exact if_pos (by omega))]; (try dsimp only); first | rw [if_pos (by omega)] | rw [if_neg (by omega)] | rfl))) (by show (wS kI kZ x ((bgF KZ KV (zrB σ.1 (-1)) (zrB σ.2.1 0) 26).1.2) σ.2.2.1 0 sa 0 0 0 ++ wY kI kZ x ((bgF KZ KV (zrB σ.1 (-1)) (zrB σ.2.1 0) 26).1.1) ++ wW kI kZ x WP WL WC wn wk ++ wK kI kZ x KS KB KE KZ KV kn kw ++ wR kI kZ x RP RS 0) = (wS kI kZ x (((bgF KZ KV (zrB σ.1 (-1)) (zrB σ.2.1 0) 26).1.1, (bgF KZ KV (zrB σ.1 (-1)) (zrB σ.2.1 0) 26).1.2, σ.2.2.1, 0).2.1) (((bgF KZ KV (zrB σ.1 (-1)) (zrB σ.2.1 0) 26).1.1, (bgF KZ KV (zrB σ.1 (-1)) (zrB σ.2.1 0) 26).1.2, σ.2.2.1, 0).2.2.1) (((bgF KZ KV (zrB σ.1 (-1)) (zrB σ.2.1 0) 26).1.1, (bgF KZ KV (zrB σ.1 (-1)) (zrB σ.2.1 0) 26).1.2, σ.2.2.1, 0).2.2.2) sa ((rnC WP WL wn KS KB KE KZ KV kn kw sa σ.1 σ.2.1 RP RS).1) ((rnC WP WL wn KS KB KE KZ KV kn kw sa σ.1 σ.2.1 RP RS).2.2.1) ((rnC WP WL wn KS KB KE KZ KV kn kw sa σ.1 σ.2.1 RP RS).2.1) ++ wY kI kZ x (((bgF KZ KV (zrB σ.1 (-1)) (zrB σ.2.1 0) 26).1.1, (bgF KZ KV (zrB σ.1 (-1)) (zrB σ.2.1 0) 26).1.2, σ.2.2.1, 0).1) ++ wW kI kZ x WP WL WC wn wk ++ wK kI kZ x KS KB KE KZ KV kn kw ++ wR kI kZ x ((rnC WP WL wn KS KB KE KZ KV kn kw sa σ.1 σ.2.1 RP RS).2.2.2.1) ((rnC WP WL wn KS KB KE KZ KV kn kw sa σ.1 σ.2.1 RP RS).2.2.2.2.1) (if (rnC WP WL wn KS KB KE KZ KV kn kw sa σ.1 σ.2.1 RP RS).2.1 = 0 then (rnC WP WL wn KS KB KE KZ KV kn kw sa σ.1 σ.2.1 RP RS).2.2.2.2.2 else 0)); rw [show rnC WP WL wn KS KB KE KZ KV kn kw sa σ.1 σ.2.1 RP RS = (0, 0, 0, RP, RS, 0) from (by unfold rnC bg0 bg1; exact if_pos (by omega))]; (try dsimp only); first | rw [if_pos (by omega)] | rw [if_neg (by omega)] | rfl)
    · exfalso; omega
  · refine j_aload_n (q := 35) C 0 rfl d_S_seekAll_34 rfl ?_
    refine j_iconst (q := 36) C d_S_seekAll_35 rfl ?_
    have hbs := (bg_SI (KZ := KZ) (KV := KV) (f0 := zrB σ.1 (-1)) (t0 := zrB σ.2.1 0) (fun j hj => if_pos hj) (fun j hj => if_pos hj) 26 (Nat.le_refl 26)).2
    have hSI0 : SI ((bgF KZ KV (zrB σ.1 (-1)) (zrB σ.2.1 0) 26).1.1, (bgF KZ KV (zrB σ.1 (-1)) (zrB σ.2.1 0) 26).1.2, σ.2.2.1, 0) := ⟨⟨e28.1.1, e28.1.2, hSG, by show (0 : Int) ≤ 0 ∧ (0 : Int) ≤ 26; omega⟩, hbs, (cnt_r _ 26).1⟩
    refine j_callVX (q := 39) (wr := []) C [.int (iI (0))] [] (c_S_both kI kZ x WP WL WC wn wk hW KS KB KE KZ KV kn kw hK hPl hNm sa hsa kw.toNat 0 ((bgF KZ KV (zrB σ.1 (-1)) (zrB σ.2.1 0) 26).1.1, (bgF KZ KV (zrB σ.1 (-1)) (zrB σ.2.1 0) 26).1.2, σ.2.2.1, 0) (0, 0, 0, RP, RS, 0) hSI0 hIA0 (by omega)) ml_S_60 mk_S_seekFrom in_S_seekFrom se_S_seekFrom rfl rfl rfl [0, 1, 2, 3, 4, 5, 6, 7, 8, 9, 10, 11, 12, 13, 14, 15, 16] [] [0, 1, 2, 3, 4, 5, 6, 7, 8, 9, 10, 11, 12, 13, 14, 15, 16] rfl (by decide) rfl (by decide) (by decide) (fun G1 : GT ((bgF KZ KV (zrB σ.1 (-1)) (zrB σ.2.1 0) 26).1.1, (bgF KZ KV (zrB σ.1 (-1)) (zrB σ.2.1 0) 26).1.2, σ.2.2.1, 0) => wS kI kZ x ((bgF KZ KV (zrB σ.1 (-1)) (zrB σ.2.1 0) 26).1.2) G1.1 0 sa ((skC WP WL wn KS KB KE kn kw sa kw.toNat 0 (bgF KZ KV (zrB σ.1 (-1)) (zrB σ.2.1 0) 26).1.1 (0, 0, 0, RP, RS, 0)).1) ((skC WP WL wn KS KB KE kn kw sa kw.toNat 0 (bgF KZ KV (zrB σ.1 (-1)) (zrB σ.2.1 0) 26).1.1 (0, 0, 0, RP, RS, 0)).2.2.1) ((skC WP WL wn KS KB KE kn kw sa kw.toNat 0 (bgF KZ KV (zrB σ.1 (-1)) (zrB σ.2.1 0) 26).1.1 (0, 0, 0, RP, RS, 0)).2.1) ++ wY kI kZ x ((bgF KZ KV (zrB σ.1 (-1)) (zrB σ.2.1 0) 26).1.1) ++ wW kI kZ x WP WL WC wn wk ++ wK kI kZ x KS KB KE KZ KV kn kw ++ wR kI kZ x ((skC WP WL wn KS KB KE kn kw sa kw.toNat 0 (bgF KZ KV (zrB σ.1 (-1)) (zrB σ.2.1 0) 26).1.1 (0, 0, 0, RP, RS, 0)).2.2.2.1) ((skC WP WL wn KS KB KE kn kw sa kw.toNat 0 (bgF KZ KV (zrB σ.1 (-1)) (zrB σ.2.1 0) 26).1.1 (0, 0, 0, RP, RS, 0)).2.2.2.2.1) ((skC WP WL wn KS KB KE kn kw sa kw.toNat 0 (bgF KZ KV (zrB σ.1 (-1)) (zrB σ.2.1 0) 26).1.1 (0, 0, 0, RP, RS, 0)).2.2.2.2.2)) (fun _ => rfl) (by decide) rfl rfl rfl (Nat.le_of_ble_eq_true rfl) ⟨by dsimp only; omega, by dsimp only; omega⟩ ⟨Nat.le_of_ble_eq_true rfl, Nat.le_of_ble_eq_true rfl⟩ d_S_seekAll_36 rfl (fun G1 => ?_)
    have hz := skC_inv hW KS KB KE kn kw sa kw.toNat 0 hIA0 (f := (bgF KZ KV (zrB σ.1 (-1)) (zrB σ.2.1 0) 26).1.1) e28.1.1
    have hz1 := hz.2.1
    have hz2 := hz.2.2
    refine j_aload_n (q := 40) C 0 rfl d_S_seekAll_39 rfl ?_
    refine j_get (q := 43) C i_S rfl 0 rfl 10 (by decide) rfl rfl fl_S_35 d_S_seekAll_40 rfl ?_
    refine j_if_eq C 55 46 d_S_seekAll_43 rfl rfl (by omega) (fun c3 => ?_) (fun c3 => ?_)
    · refine j_aload_n (q := 56) C 0 rfl d_S_seekAll_55 rfl ?_
      refine j_get (q := 59) C i_S rfl 0 rfl 9 (by decide) rfl rfl fl_S_32 d_S_seekAll_56 rfl ?_
      first | (exfalso; omega) | exact j_iretX C hr hlk ⟨((bgF KZ KV (zrB σ.1 (-1)) (zrB σ.2.1 0) 26).1.1, (bgF KZ KV (zrB σ.1 (-1)) (zrB σ.2.1 0) 26).1.2, G1.1, 0), e28.1.1, e28.1.2, G1.2.1, by show (0 : Int) ≤ 0 ∧ (0 : Int) ≤ 26; omega⟩ d_S_seekAll_59 (congrArg (fun z => some (Value.int (iI z))) (show (if (rnC WP WL wn KS KB KE KZ KV kn kw sa σ.1 σ.2.1 RP RS).2.1 = 0 then (rnC WP WL wn KS KB KE KZ KV kn kw sa σ.1 σ.2.1 RP RS).2.2.1 else -1) = ((skC WP WL wn KS KB KE kn kw sa kw.toNat 0 (bgF KZ KV (zrB σ.1 (-1)) (zrB σ.2.1 0) 26).1.1 (0, 0, 0, RP, RS, 0)).2.2.1) from (by rw [show rnC WP WL wn KS KB KE KZ KV kn kw sa σ.1 σ.2.1 RP RS = (skC WP WL wn KS KB KE kn kw sa kw.toNat 0 (bgF KZ KV (zrB σ.1 (-1)) (zrB σ.2.1 0) 26).1.1 (0, 0, 0, RP, RS, 0)) from (by unfold rnC bg0 bg1; exact if_neg (by omega))]; (try dsimp only); first | rw [if_pos (by omega)] | rw [if_neg (by omega)] | rfl))) (by show (wS kI kZ x ((bgF KZ KV (zrB σ.1 (-1)) (zrB σ.2.1 0) 26).1.2) G1.1 0 sa ((skC WP WL wn KS KB KE kn kw sa kw.toNat 0 (bgF KZ KV (zrB σ.1 (-1)) (zrB σ.2.1 0) 26).1.1 (0, 0, 0, RP, RS, 0)).1) ((skC WP WL wn KS KB KE kn kw sa kw.toNat 0 (bgF KZ KV (zrB σ.1 (-1)) (zrB σ.2.1 0) 26).1.1 (0, 0, 0, RP, RS, 0)).2.2.1) ((skC WP WL wn KS KB KE kn kw sa kw.toNat 0 (bgF KZ KV (zrB σ.1 (-1)) (zrB σ.2.1 0) 26).1.1 (0, 0, 0, RP, RS, 0)).2.1) ++ wY kI kZ x ((bgF KZ KV (zrB σ.1 (-1)) (zrB σ.2.1 0) 26).1.1) ++ wW kI kZ x WP WL WC wn wk ++ wK kI kZ x KS KB KE KZ KV kn kw ++ wR kI kZ x ((skC WP WL wn KS KB KE kn kw sa kw.toNat 0 (bgF KZ KV (zrB σ.1 (-1)) (zrB σ.2.1 0) 26).1.1 (0, 0, 0, RP, RS, 0)).2.2.2.1) ((skC WP WL wn KS KB KE kn kw sa kw.toNat 0 (bgF KZ KV (zrB σ.1 (-1)) (zrB σ.2.1 0) 26).1.1 (0, 0, 0, RP, RS, 0)).2.2.2.2.1) ((skC WP WL wn KS KB KE kn kw sa kw.toNat 0 (bgF KZ KV (zrB σ.1 (-1)) (zrB σ.2.1 0) 26).1.1 (0, 0, 0, RP, RS, 0)).2.2.2.2.2)) = (wS kI kZ x (((bgF KZ KV (zrB σ.1 (-1)) (zrB σ.2.1 0) 26).1.1, (bgF KZ KV (zrB σ.1 (-1)) (zrB σ.2.1 0) 26).1.2, G1.1, 0).2.1) (((bgF KZ KV (zrB σ.1 (-1)) (zrB σ.2.1 0) 26).1.1, (bgF KZ KV (zrB σ.1 (-1)) (zrB σ.2.1 0) 26).1.2, G1.1, 0).2.2.1) (((bgF KZ KV (zrB σ.1 (-1)) (zrB σ.2.1 0) 26).1.1, (bgF KZ KV (zrB σ.1 (-1)) (zrB σ.2.1 0) 26).1.2, G1.1, 0).2.2.2) sa ((rnC WP WL wn KS KB KE KZ KV kn kw sa σ.1 σ.2.1 RP RS).1) ((rnC WP WL wn KS KB KE KZ KV kn kw sa σ.1 σ.2.1 RP RS).2.2.1) ((rnC WP WL wn KS KB KE KZ KV kn kw sa σ.1 σ.2.1 RP RS).2.1) ++ wY kI kZ x (((bgF KZ KV (zrB σ.1 (-1)) (zrB σ.2.1 0) 26).1.1, (bgF KZ KV (zrB σ.1 (-1)) (zrB σ.2.1 0) 26).1.2, G1.1, 0).1) ++ wW kI kZ x WP WL WC wn wk ++ wK kI kZ x KS KB KE KZ KV kn kw ++ wR kI kZ x ((rnC WP WL wn KS KB KE KZ KV kn kw sa σ.1 σ.2.1 RP RS).2.2.2.1) ((rnC WP WL wn KS KB KE KZ KV kn kw sa σ.1 σ.2.1 RP RS).2.2.2.2.1) (if (rnC WP WL wn KS KB KE KZ KV kn kw sa σ.1 σ.2.1 RP RS).2.1 = 0 then (rnC WP WL wn KS KB KE KZ KV kn kw sa σ.1 σ.2.1 RP RS).2.2.2.2.2 else 0)); rw [show rnC WP WL wn KS KB KE KZ KV kn kw sa σ.1 σ.2.1 RP RS = (skC WP WL wn KS KB KE kn kw sa kw.toNat 0 (bgF KZ KV (zrB σ.1 (-1)) (zrB σ.2.1 0) 26).1.1 (0, 0, 0, RP, RS, 0)) from (by unfold rnC bg0 bg1; exact if_neg (by omega))]; (try dsimp only); first | rw [if_pos (by omega)] | rw [if_neg (by omega)] | rfl)
    · refine j_aload_n (q := 47) C 0 rfl d_S_seekAll_46 rfl ?_
      refine j_get (q := 50) C i_S rfl 0 rfl 2 (by decide) rfl rfl fl_S_47 d_S_seekAll_47 rfl ?_
      refine j_callV (q := 53) (wr := wS kI kZ x ((bgF KZ KV (zrB σ.1 (-1)) (zrB σ.2.1 0) 26).1.2) G1.1 0 sa ((skC WP WL wn KS KB KE kn kw sa kw.toNat 0 (bgF KZ KV (zrB σ.1 (-1)) (zrB σ.2.1 0) 26).1.1 (0, 0, 0, RP, RS, 0)).1) ((skC WP WL wn KS KB KE kn kw sa kw.toNat 0 (bgF KZ KV (zrB σ.1 (-1)) (zrB σ.2.1 0) 26).1.1 (0, 0, 0, RP, RS, 0)).2.2.1) ((skC WP WL wn KS KB KE kn kw sa kw.toNat 0 (bgF KZ KV (zrB σ.1 (-1)) (zrB σ.2.1 0) 26).1.1 (0, 0, 0, RP, RS, 0)).2.1) ++ wY kI kZ x ((bgF KZ KV (zrB σ.1 (-1)) (zrB σ.2.1 0) 26).1.1) ++ wW kI kZ x WP WL WC wn wk ++ wK kI kZ x KS KB KE KZ KV kn kw) C [] [] (c_R_forget kI kZ x ((skC WP WL wn KS KB KE kn kw sa kw.toNat 0 (bgF KZ KV (zrB σ.1 (-1)) (zrB σ.2.1 0) 26).1.1 (0, 0, 0, RP, RS, 0)).2.2.2.1) ((skC WP WL wn KS KB KE kn kw sa kw.toNat 0 (bgF KZ KV (zrB σ.1 (-1)) (zrB σ.2.1 0) 26).1.1 (0, 0, 0, RP, RS, 0)).2.2.2.2.1) ((skC WP WL wn KS KB KE kn kw sa kw.toNat 0 (bgF KZ KV (zrB σ.1 (-1)) (zrB σ.2.1 0) 26).1.1 (0, 0, 0, RP, RS, 0)).2.2.2.2.2) hz2.1) ml_S_51 mk_R_forget in_R_forget se_R_forget rfl rfl rfl [14, 15, 16] [0, 1, 2, 3, 4, 5, 6, 7, 8, 9, 10, 11, 12, 13] [0, 1, 2, 3, 4, 5, 6, 7, 8, 9, 10, 11, 12, 13, 14, 15, 16] rfl (by decide) rfl (by decide) (by decide) (wS kI kZ x ((bgF KZ KV (zrB σ.1 (-1)) (zrB σ.2.1 0) 26).1.2) G1.1 0 sa ((skC WP WL wn KS KB KE kn kw sa kw.toNat 0 (bgF KZ KV (zrB σ.1 (-1)) (zrB σ.2.1 0) 26).1.1 (0, 0, 0, RP, RS, 0)).1) ((skC WP WL wn KS KB KE kn kw sa kw.toNat 0 (bgF KZ KV (zrB σ.1 (-1)) (zrB σ.2.1 0) 26).1.1 (0, 0, 0, RP, RS, 0)).2.2.1) ((skC WP WL wn KS KB KE kn kw sa kw.toNat 0 (bgF KZ KV (zrB σ.1 (-1)) (zrB σ.2.1 0) 26).1.1 (0, 0, 0, RP, RS, 0)).2.1) ++ wY kI kZ x ((bgF KZ KV (zrB σ.1 (-1)) (zrB σ.2.1 0) 26).1.1) ++ wW kI kZ x WP WL WC wn wk ++ wK kI kZ x KS KB KE KZ KV kn kw ++ wR kI kZ x ((skC WP WL wn KS KB KE kn kw sa kw.toNat 0 (bgF KZ KV (zrB σ.1 (-1)) (zrB σ.2.1 0) 26).1.1 (0, 0, 0, RP, RS, 0)).2.2.2.1) ((skC WP WL wn KS KB KE kn kw sa kw.toNat 0 (bgF KZ KV (zrB σ.1 (-1)) (zrB σ.2.1 0) 26).1.1 (0, 0, 0, RP, RS, 0)).2.2.2.2.1) 0) rfl (by decide) rfl rfl rfl (Nat.le_of_ble_eq_true rfl) ⟨Nat.le_of_ble_eq_true rfl, Nat.le_of_ble_eq_true rfl⟩ ⟨Nat.le_of_ble_eq_true rfl, Nat.le_of_ble_eq_true rfl⟩ d_S_seekAll_50 rfl ?_
      refine j_iconst (q := 54) C d_S_seekAll_53 rfl ?_
      first | (exfalso; omega) | exact j_iretX C hr hlk ⟨((bgF KZ KV (zrB σ.1 (-1)) (zrB σ.2.1 0) 26).1.1, (bgF KZ KV (zrB σ.1 (-1)) (zrB σ.2.1 0) 26).1.2, G1.1, 0), e28.1.1, e28.1.2, G1.2.1, by show (0 : Int) ≤ 0 ∧ (0 : Int) ≤ 26; omega⟩ d_S_seekAll_54 (congrArg (fun z => some (Value.int (iI z))) (show (if (rnC WP WL wn KS KB KE KZ KV kn kw sa σ.1 σ.2.1 RP RS).2.1 = 0 then (rnC WP WL wn KS KB KE KZ KV kn kw sa σ.1 σ.2.1 RP RS).2.2.1 else -1) = (-1) from (by rw [show rnC WP WL wn KS KB KE KZ KV kn kw sa σ.1 σ.2.1 RP RS = (skC WP WL wn KS KB KE kn kw sa kw.toNat 0 (bgF KZ KV (zrB σ.1 (-1)) (zrB σ.2.1 0) 26).1.1 (0, 0, 0, RP, RS, 0)) from (by unfold rnC bg0 bg1; exact if_neg (by omega))]; (try dsimp only); first | rw [if_pos (by omega)] | rw [if_neg (by omega)] | rfl))) (by show (wS kI kZ x ((bgF KZ KV (zrB σ.1 (-1)) (zrB σ.2.1 0) 26).1.2) G1.1 0 sa ((skC WP WL wn KS KB KE kn kw sa kw.toNat 0 (bgF KZ KV (zrB σ.1 (-1)) (zrB σ.2.1 0) 26).1.1 (0, 0, 0, RP, RS, 0)).1) ((skC WP WL wn KS KB KE kn kw sa kw.toNat 0 (bgF KZ KV (zrB σ.1 (-1)) (zrB σ.2.1 0) 26).1.1 (0, 0, 0, RP, RS, 0)).2.2.1) ((skC WP WL wn KS KB KE kn kw sa kw.toNat 0 (bgF KZ KV (zrB σ.1 (-1)) (zrB σ.2.1 0) 26).1.1 (0, 0, 0, RP, RS, 0)).2.1) ++ wY kI kZ x ((bgF KZ KV (zrB σ.1 (-1)) (zrB σ.2.1 0) 26).1.1) ++ wW kI kZ x WP WL WC wn wk ++ wK kI kZ x KS KB KE KZ KV kn kw ++ wR kI kZ x ((skC WP WL wn KS KB KE kn kw sa kw.toNat 0 (bgF KZ KV (zrB σ.1 (-1)) (zrB σ.2.1 0) 26).1.1 (0, 0, 0, RP, RS, 0)).2.2.2.1) ((skC WP WL wn KS KB KE kn kw sa kw.toNat 0 (bgF KZ KV (zrB σ.1 (-1)) (zrB σ.2.1 0) 26).1.1 (0, 0, 0, RP, RS, 0)).2.2.2.2.1) 0) = (wS kI kZ x (((bgF KZ KV (zrB σ.1 (-1)) (zrB σ.2.1 0) 26).1.1, (bgF KZ KV (zrB σ.1 (-1)) (zrB σ.2.1 0) 26).1.2, G1.1, 0).2.1) (((bgF KZ KV (zrB σ.1 (-1)) (zrB σ.2.1 0) 26).1.1, (bgF KZ KV (zrB σ.1 (-1)) (zrB σ.2.1 0) 26).1.2, G1.1, 0).2.2.1) (((bgF KZ KV (zrB σ.1 (-1)) (zrB σ.2.1 0) 26).1.1, (bgF KZ KV (zrB σ.1 (-1)) (zrB σ.2.1 0) 26).1.2, G1.1, 0).2.2.2) sa ((rnC WP WL wn KS KB KE KZ KV kn kw sa σ.1 σ.2.1 RP RS).1) ((rnC WP WL wn KS KB KE KZ KV kn kw sa σ.1 σ.2.1 RP RS).2.2.1) ((rnC WP WL wn KS KB KE KZ KV kn kw sa σ.1 σ.2.1 RP RS).2.1) ++ wY kI kZ x (((bgF KZ KV (zrB σ.1 (-1)) (zrB σ.2.1 0) 26).1.1, (bgF KZ KV (zrB σ.1 (-1)) (zrB σ.2.1 0) 26).1.2, G1.1, 0).1) ++ wW kI kZ x WP WL WC wn wk ++ wK kI kZ x KS KB KE KZ KV kn kw ++ wR kI kZ x ((rnC WP WL wn KS KB KE KZ KV kn kw sa σ.1 σ.2.1 RP RS).2.2.2.1) ((rnC WP WL wn KS KB KE KZ KV kn kw sa σ.1 σ.2.1 RP RS).2.2.2.2.1) (if (rnC WP WL wn KS KB KE KZ KV kn kw sa σ.1 σ.2.1 RP RS).2.1 = 0 then (rnC WP WL wn KS KB KE KZ KV kn kw sa σ.1 σ.2.1 RP RS).2.2.2.2.2 else 0)); rw [show rnC WP WL wn KS KB KE KZ KV kn kw sa σ.1 σ.2.1 RP RS = (skC WP WL wn KS KB KE kn kw sa kw.toNat 0 (bgF KZ KV (zrB σ.1 (-1)) (zrB σ.2.1 0) 26).1.1 (0, 0, 0, RP, RS, 0)) from (by unfold rnC bg0 bg1; exact if_neg (by omega))]; (try dsimp only); first | rw [if_pos (by omega)] | rw [if_neg (by omega)] | rfl)
end
section
set_option maxRecDepth 100000 in
set_option maxHeartbeats 4000000 in
theorem c_H_floorMod {l : Launch} {D : va_G} (kI kZ : ClassId) (x : Nat → Nat) (a : Int) (ha : (-2147483648 ≤ a ∧ a < 2147483648)) : Dt l D (ty2 kI kZ) y_H_floorMod w_H_floorMod { frames := 0, cells := 0, slots := 0, locals := 0 } [.int (iI (a)), .int (iI (26))] ([]) (some (.int (iI (a % 26)))) ([]) := by
  refine Met.toJ (own := R_H) (QD D (some (.int (iI (a % 26)))) ([])) mk_H_floorMod rfl (Nat.le_of_ble_eq_true rfl) ?_
  intro p e s m args below meth c A C hr hlk hnm
  show JJ p l e { frames := 0, cells := 0, slots := 0, locals := 0 } s m args below meth c D A 3 (MQ below (QD D (some (.int (iI (a % 26)))) ([]) A) args s 0 0 A) 0 0 0 [(0, .int (iI (a))), (1, .int (iI (26)))] [] ([])
  have t0 : (0 ≤ a ∧ tm a 26 = a % 26) ∨ (a < 0 ∧ tm a 26 = -((-a) % 26)) := by unfold tm; split <;> omega
  have x0 := xr_r a 26
  have x1 := xr_s (b := 26) ha (by omega)
  refine j_iload_n (q := 1) C 0 rfl d_H_floorMod_0 rfl ?_
  refine j_iload_n (q := 2) C 1 rfl d_H_floorMod_1 rfl ?_
  refine j_iremT (q := 3) C (by omega) (by omega) d_H_floorMod_2 rfl ?_
  refine j_istore_n (q := 4) C [(0, .int (iI (a))), (1, .int (iI (26))), (2, .int (iI (tm a 26)))] rfl (by decide) d_H_floorMod_3 rfl ?_
  refine j_iload_n (q := 5) C 0 rfl d_H_floorMod_4 rfl ?_
  refine j_iload_n (q := 6) C 1 rfl d_H_floorMod_5 rfl ?_
  refine j_ixor (q := 7) C d_H_floorMod_6 rfl ?_
  refine j_if_ge C 18 10 d_H_floorMod_7 rfl rfl (by omega) (fun c1 => ?_) (fun c1 => ?_)
  · have c1 : 0 ≤ a := by omega
    refine j_iload_n (q := 19) C 2 rfl d_H_floorMod_18 rfl ?_
    exact j_iret C hr hlk d_H_floorMod_19 (congrArg (fun z => some (Value.int (iI z))) (show (a % 26) = (tm a 26) from by omega)) rfl
  · have c1 : a < 0 := by omega
    refine j_iload_n (q := 11) C 2 rfl d_H_floorMod_10 rfl ?_
    refine j_if_eq C 18 14 d_H_floorMod_11 rfl rfl (by omega) (fun c2 => ?_) (fun c2 => ?_)
    · refine j_iload_n (q := 19) C 2 rfl d_H_floorMod_18 rfl ?_
      first | (exfalso; omega) | exact j_iret C hr hlk d_H_floorMod_19 (congrArg (fun z => some (Value.int (iI z))) (show (a % 26) = (tm a 26) from by omega)) rfl
    · refine j_iload_n (q := 15) C 2 rfl d_H_floorMod_14 rfl ?_
      refine j_iload_n (q := 16) C 1 rfl d_H_floorMod_15 rfl ?_
      refine j_iadd (q := 17) C d_H_floorMod_16 rfl ?_
      first | (exfalso; omega) | exact j_iret C hr hlk d_H_floorMod_17 (congrArg (fun z => some (Value.int (iI z))) (show (a % 26) = ((tm a 26) + 26) from by omega)) rfl
set_option maxRecDepth 100000 in
set_option maxHeartbeats 4000000 in
theorem c_C_shifted {l : Launch} {D : va_G} (kI kZ : ClassId) (x : Nat → Nat) (XP : Nat → Int) (xn : Int) (hX : IX XP xn) (a i : Int) (ha : (-2147483648 ≤ a ∧ a < 2147483648)) (hi : (-2147483648 ≤ i ∧ i < 2147483648)) : Dt l D (ty2 kI kZ) y_C_shifted w_C_shifted { frames := 3, cells := 0, slots := 0, locals := 61 } [.ref (x 0), .int (iI (a)), .int (iI (i))] (wC kI kZ x ++ wX kI kZ x XP xn) (some (.int (iI (shL (sgAt XP xn i) (a % 26))))) (wC kI kZ x ++ wX kI kZ x XP xn) := by
  refine Met.toJ (own := R_C) (QD D (some (.int (iI (shL (sgAt XP xn i) (a % 26))))) (wC kI kZ x ++ wX kI kZ x XP xn)) mk_C_shifted rfl (Nat.le_of_ble_eq_true rfl) ?_
  intro p e s m args below meth c A C hr hlk hnm
  show JJ p l e { frames := 3, cells := 0, slots := 0, locals := 61 } s m args below meth c D A 3 (MQ below (QD D (some (.int (iI (shL (sgAt XP xn i) (a % 26))))) (wC kI kZ x ++ wX kI kZ x XP xn) A) args s 0 0 A) 0 0 0 [(0, .ref (x 0)), (1, .int (iI (a))), (2, .int (iI (i)))] [] (wC kI kZ x ++ wX kI kZ x XP xn)
  refine j_aload_n (q := 1) C 0 rfl d_C_shifted_0 rfl ?_
  refine j_get (q := 4) C i_C rfl 0 rfl 5 (by decide) rfl rfl fl_C_49 d_C_shifted_1 rfl ?_
  refine j_iload_n (q := 5) C 2 rfl d_C_shifted_4 rfl ?_
  have e5 := sgAt_r hX.b xn i
  refine j_callV (q := 8) (wr := wC kI kZ x) C [.int (iI (i))] [] (c_X_placeAt kI kZ x XP xn hX i (by omega)) ml_C_128 mk_X_placeAt in_X_placeAt se_X_placeAt rfl rfl rfl [1, 2] [0] [0, 1, 2] rfl (by decide) rfl (by decide) (by decide) (wC kI kZ x ++ wX kI kZ x XP xn) rfl (by decide) rfl rfl rfl (Nat.le_of_ble_eq_true rfl) ⟨Nat.le_of_ble_eq_true rfl, Nat.le_of_ble_eq_true rfl⟩ ⟨Nat.le_of_ble_eq_true rfl, Nat.le_of_ble_eq_true rfl⟩ d_C_shifted_5 rfl ?_
  refine j_iload_n (q := 9) C 1 rfl d_C_shifted_8 rfl ?_
  refine j_bipush (q := 11) C d_C_shifted_9 rfl rfl ?_
  have e11 : 0 ≤ a % 26 ∧ a % 26 < 26 := by omega
  refine j_callS (q := 14) (wr := wC kI kZ x ++ wX kI kZ x XP xn) C [.int (iI (a)), .int (iI (26))] [.int (iI (sgAt XP xn i))] (c_H_floorMod kI kZ x a (by omega)) ml_C_131 mk_H_floorMod st_H_floorMod [] [0, 1, 2] [0, 1, 2] rfl (by decide) rfl (by decide) (by decide) (wC kI kZ x ++ wX kI kZ x XP xn) rfl (by decide) rfl rfl rfl (Nat.le_of_ble_eq_true rfl) ⟨Nat.le_of_ble_eq_true rfl, Nat.le_of_ble_eq_true rfl⟩ ⟨Nat.le_of_ble_eq_true rfl, Nat.le_of_ble_eq_true rfl⟩ d_C_shifted_11 rfl ?_
  refine j_callS (q := 17) (wr := wC kI kZ x ++ wX kI kZ x XP xn) C [.int (iI (sgAt XP xn i)), .int (iI (a % 26))] [] (c_C_shiftedLetter kI kZ x (sgAt XP xn i) (a % 26) (by omega) (by omega)) ml_C_136 mk_C_shiftedLetter st_C_shiftedLetter [] [0, 1, 2] [0, 1, 2] rfl (by decide) rfl (by decide) (by decide) (wC kI kZ x ++ wX kI kZ x XP xn) rfl (by decide) rfl rfl rfl (Nat.le_of_ble_eq_true rfl) ⟨Nat.le_of_ble_eq_true rfl, Nat.le_of_ble_eq_true rfl⟩ ⟨Nat.le_of_ble_eq_true rfl, Nat.le_of_ble_eq_true rfl⟩ d_C_shifted_14 rfl ?_
  exact j_iret C hr hlk d_C_shifted_17 rfl rfl
set_option maxRecDepth 100000 in
set_option maxHeartbeats 4000000 in
theorem c_C_steps {l : Launch} {D : va_G} (kI kZ : ClassId) (x : Nat → Nat) (σ : T4) (hσ : I4 σ) (sa sm sf ss : Int) : Dt l D (ty2 kI kZ) y_C_steps w_C_steps { frames := 1, cells := 0, slots := 0, locals := 20 } [.ref (x 0)] (wC kI kZ x ++ wS kI kZ x σ.2.1 σ.2.2.1 σ.2.2.2 sa sm sf ss ++ wY kI kZ x σ.1) (some (.int (iI (sm)))) (wC kI kZ x ++ wS kI kZ x σ.2.1 σ.2.2.1 σ.2.2.2 sa sm sf ss ++ wY kI kZ x σ.1) := by
  refine Met.toJ (own := R_C) (QD D (some (.int (iI (sm)))) (wC kI kZ x ++ wS kI kZ x σ.2.1 σ.2.2.1 σ.2.2.2 sa sm sf ss ++ wY kI kZ x σ.1)) mk_C_steps rfl (Nat.le_of_ble_eq_true rfl) ?_
  intro p e s m args below meth c A C hr hlk hnm
  show JJ p l e { frames := 1, cells := 0, slots := 0, locals := 20 } s m args below meth c D A 1 (MQ below (QD D (some (.int (iI (sm)))) (wC kI kZ x ++ wS kI kZ x σ.2.1 σ.2.2.1 σ.2.2.2 sa sm sf ss ++ wY kI kZ x σ.1) A) args s 0 0 A) 0 0 0 [(0, .ref (x 0))] [] (wC kI kZ x ++ wS kI kZ x σ.2.1 σ.2.2.1 σ.2.2.2 sa sm sf ss ++ wY kI kZ x σ.1)
  refine j_aload_n (q := 1) C 0 rfl d_C_steps_0 rfl ?_
  refine j_get (q := 4) C i_C rfl 0 rfl 4 (by decide) rfl rfl fl_C_42 d_C_steps_1 rfl ?_
  refine j_callV (q := 7) (wr := wC kI kZ x) C [] [] (c_S_stepsMade kI kZ x σ hσ sa sm sf ss) ml_C_95 mk_S_stepsMade in_S_stepsMade se_S_stepsMade rfl rfl rfl [1, 2, 3, 4] [0] [0, 1, 2, 3, 4] rfl (by decide) rfl (by decide) (by decide) (wC kI kZ x ++ wS kI kZ x σ.2.1 σ.2.2.1 σ.2.2.2 sa sm sf ss ++ wY kI kZ x σ.1) rfl (by decide) rfl rfl rfl (Nat.le_of_ble_eq_true rfl) ⟨Nat.le_of_ble_eq_true rfl, Nat.le_of_ble_eq_true rfl⟩ ⟨Nat.le_of_ble_eq_true rfl, Nat.le_of_ble_eq_true rfl⟩ d_C_steps_4 rfl ?_
  exact j_iret C hr hlk d_C_steps_7 rfl rfl
set_option maxRecDepth 100000 in
set_option maxHeartbeats 4000000 in
theorem c_C_run_no {l : Launch} {D : va_G} (kI kZ : ClassId) (x : Nat → Nat) (sa : Int) (hr0 : (-2147483648 ≤ sa ∧ sa < 2147483648)) (hsa : ¬ (0 ≤ sa ∧ sa ≤ 100000)) : Dt l D (ty2 kI kZ) y_C_run w_C_run { frames := 81, cells := 0, slots := 0, locals := 2240 } [.ref (x 0), .int (iI (sa))] (wC kI kZ x) (some (.int (iI (-2)))) (wC kI kZ x) := by
  refine Met.toJ (own := R_C) (QD D (some (.int (iI (-2)))) (wC kI kZ x)) mk_C_run rfl (Nat.le_of_ble_eq_true rfl) ?_
  intro p e s m args below meth c A C hr hlk hnm
  show JJ p l e { frames := 81, cells := 0, slots := 0, locals := 2240 } s m args below meth c D A 2 (MQ below (QD D (some (.int (iI (-2)))) (wC kI kZ x) A) args s 0 0 A) 0 0 0 [(0, .ref (x 0)), (1, .int (iI (sa)))] [] (wC kI kZ x)
  refine j_iload_n (q := 1) C 1 rfl d_C_run_0 rfl ?_
  refine j_if_lt C 10 4 d_C_run_1 rfl rfl (by omega) (fun c1 => ?_) (fun c1 => ?_)
  · refine j_bipush (q := 12) C d_C_run_10 rfl rfl ?_
    exact j_iret C hr hlk d_C_run_12 rfl rfl
  · refine j_iload_n (q := 5) C 1 rfl d_C_run_4 rfl ?_
    refine j_ldc (q := 7) C d_C_run_5 rfl co_C_91 ?_
    refine j_icmp_le C 13 10 d_C_run_7 rfl rfl (by omega) (by omega) (fun c2 => ?_) (fun c2 => ?_)
    · exfalso; omega
    · refine j_bipush (q := 12) C d_C_run_10 rfl rfl ?_
      first | (exfalso; omega) | exact j_iret C hr hlk d_C_run_12 rfl rfl
set_option maxRecDepth 100000 in
set_option maxHeartbeats 4000000 in
theorem c_C_run_ok {l : Launch} {D : va_G} (kI kZ : ClassId) (x : Nat → Nat) (WP WL WC : Nat → Int) (wn wk : Int) (hW : IW WP WL WC wn wk) (KS KB KE KZ KV : Nat → Int) (kn kw : Int) (hK : IK KS KB KE KZ KV kn kw) (hPl : ∀ a j, 0 ≤ j → j < lnOf WL wn a → 0 ≤ plAt WP WL wn a j) (hNm : ∀ a j, 0 ≤ a → a < kw → 0 ≤ j → j < lnOf KE kw a → 0 ≤ nmAt KS KB KE kn kw a j) (σ : T4) (hσ : I4 σ) (sa0 sm sf ss : Int) (RP RS : Nat → Int) (rn : Int) (hR : IR RP RS rn) (sa : Int) (hsa : 0 ≤ sa ∧ sa ≤ 100000) : Dx l D (ty2 kI kZ) y_C_run w_C_run { frames := 81, cells := 0, slots := 0, locals := 2240 } [.ref (x 0), .int (iI (sa))] (wC kI kZ x ++ wS kI kZ x σ.2.1 σ.2.2.1 σ.2.2.2 sa0 sm sf ss ++ wY kI kZ x σ.1 ++ wW kI kZ x WP WL WC wn wk ++ wK kI kZ x KS KB KE KZ KV kn kw ++ wR kI kZ x RP RS rn) (some (.int (iI (if (rnC WP WL wn KS KB KE KZ KV kn kw sa σ.1 σ.2.1 RP RS).2.1 = 0 then (rnC WP WL wn KS KB KE KZ KV kn kw sa σ.1 σ.2.1 RP RS).2.2.1 else -1)))) (fun σ2 : { σ2 : T4 // I4 σ2 } => wC kI kZ x ++ wS kI kZ x σ2.1.2.1 σ2.1.2.2.1 σ2.1.2.2.2 sa ((rnC WP WL wn KS KB KE KZ KV kn kw sa σ.1 σ.2.1 RP RS).1) ((rnC WP WL wn KS KB KE KZ KV kn kw sa σ.1 σ.2.1 RP RS).2.2.1) ((rnC WP WL wn KS KB KE KZ KV kn kw sa σ.1 σ.2.1 RP RS).2.1) ++ wY kI kZ x σ2.1.1 ++ wW kI kZ x WP WL WC wn wk ++ wK kI kZ x KS KB KE KZ KV kn kw ++ wR kI kZ x ((rnC WP WL wn KS KB KE KZ KV kn kw sa σ.1 σ.2.1 RP RS).2.2.2.1) ((rnC WP WL wn KS KB KE KZ KV kn kw sa σ.1 σ.2.1 RP RS).2.2.2.2.1) (if (rnC WP WL wn KS KB KE KZ KV kn kw sa σ.1 σ.2.1 RP RS).2.1 = 0 then (rnC WP WL wn KS KB KE KZ KV kn kw sa σ.1 σ.2.1 RP RS).2.2.2.2.2 else 0)) := by
  refine Met.toJ (own := R_C) (QX D (some (.int (iI (if (rnC WP WL wn KS KB KE KZ KV kn kw sa σ.1 σ.2.1 RP RS).2.1 = 0 then (rnC WP WL wn KS KB KE KZ KV kn kw sa σ.1 σ.2.1 RP RS).2.2.1 else -1)))) (fun σ2 : { σ2 : T4 // I4 σ2 } => wC kI kZ x ++ wS kI kZ x σ2.1.2.1 σ2.1.2.2.1 σ2.1.2.2.2 sa ((rnC WP WL wn KS KB KE KZ KV kn kw sa σ.1 σ.2.1 RP RS).1) ((rnC WP WL wn KS KB KE KZ KV kn kw sa σ.1 σ.2.1 RP RS).2.2.1) ((rnC WP WL wn KS KB KE KZ KV kn kw sa σ.1 σ.2.1 RP RS).2.1) ++ wY kI kZ x σ2.1.1 ++ wW kI kZ x WP WL WC wn wk ++ wK kI kZ x KS KB KE KZ KV kn kw ++ wR kI kZ x ((rnC WP WL wn KS KB KE KZ KV kn kw sa σ.1 σ.2.1 RP RS).2.2.2.1) ((rnC WP WL wn KS KB KE KZ KV kn kw sa σ.1 σ.2.1 RP RS).2.2.2.2.1) (if (rnC WP WL wn KS KB KE KZ KV kn kw sa σ.1 σ.2.1 RP RS).2.1 = 0 then (rnC WP WL wn KS KB KE KZ KV kn kw sa σ.1 σ.2.1 RP RS).2.2.2.2.2 else 0))) mk_C_run rfl (Nat.le_of_ble_eq_true rfl) ?_
  intro p e s m args below meth c A C hr hlk hnm
  show JJ p l e { frames := 81, cells := 0, slots := 0, locals := 2240 } s m args below meth c D A 2 (MQ below (QX D (some (.int (iI (if (rnC WP WL wn KS KB KE KZ KV kn kw sa σ.1 σ.2.1 RP RS).2.1 = 0 then (rnC WP WL wn KS KB KE KZ KV kn kw sa σ.1 σ.2.1 RP RS).2.2.1 else -1)))) (fun σ2 : { σ2 : T4 // I4 σ2 } => wC kI kZ x ++ wS kI kZ x σ2.1.2.1 σ2.1.2.2.1 σ2.1.2.2.2 sa ((rnC WP WL wn KS KB KE KZ KV kn kw sa σ.1 σ.2.1 RP RS).1) ((rnC WP WL wn KS KB KE KZ KV kn kw sa σ.1 σ.2.1 RP RS).2.2.1) ((rnC WP WL wn KS KB KE KZ KV kn kw sa σ.1 σ.2.1 RP RS).2.1) ++ wY kI kZ x σ2.1.1 ++ wW kI kZ x WP WL WC wn wk ++ wK kI kZ x KS KB KE KZ KV kn kw ++ wR kI kZ x ((rnC WP WL wn KS KB KE KZ KV kn kw sa σ.1 σ.2.1 RP RS).2.2.2.1) ((rnC WP WL wn KS KB KE KZ KV kn kw sa σ.1 σ.2.1 RP RS).2.2.2.2.1) (if (rnC WP WL wn KS KB KE KZ KV kn kw sa σ.1 σ.2.1 RP RS).2.1 = 0 then (rnC WP WL wn KS KB KE KZ KV kn kw sa σ.1 σ.2.1 RP RS).2.2.2.2.2 else 0)) A) args s 0 0 A) 0 0 0 [(0, .ref (x 0)), (1, .int (iI (sa)))] [] (wC kI kZ x ++ wS kI kZ x σ.2.1 σ.2.2.1 σ.2.2.2 sa0 sm sf ss ++ wY kI kZ x σ.1 ++ wW kI kZ x WP WL WC wn wk ++ wK kI kZ x KS KB KE KZ KV kn kw ++ wR kI kZ x RP RS rn)
  refine j_iload_n (q := 1) C 1 rfl d_C_run_0 rfl ?_
  refine j_if_lt C 10 4 d_C_run_1 rfl rfl (by omega) (fun c1 => ?_) (fun c1 => ?_)
  · exfalso; omega
  · refine j_iload_n (q := 5) C 1 rfl d_C_run_4 rfl ?_
    refine j_ldc (q := 7) C d_C_run_5 rfl co_C_91 ?_
    refine j_icmp_le C 13 10 d_C_run_7 rfl rfl (by omega) (by omega) (fun c2 => ?_) (fun c2 => ?_)
    · refine j_aload_n (q := 14) C 0 rfl d_C_run_13 rfl ?_
      refine j_get (q := 17) C i_C rfl 0 rfl 4 (by decide) rfl rfl fl_C_42 d_C_run_14 rfl ?_
      refine j_iload_n (q := 18) C 1 rfl d_C_run_17 rfl ?_
      refine j_callVX (q := 21) (wr := wC kI kZ x) C [.int (iI (sa))] [] (c_S_seekAll kI kZ x WP WL WC wn wk hW KS KB KE KZ KV kn kw hK hPl hNm sa hsa σ hσ sa0 sm sf ss RP RS rn hR) ml_C_92 mk_S_seekAll in_S_seekAll se_S_seekAll rfl rfl rfl [1, 2, 3, 4, 5, 6, 7, 8, 9, 10, 11, 12, 13, 14, 15, 16, 17] [0] [0, 1, 2, 3, 4, 5, 6, 7, 8, 9, 10, 11, 12, 13, 14, 15, 16, 17] rfl (by decide) rfl (by decide) (by decide) (fun σ2 : { σ2 : T4 // I4 σ2 } => wC kI kZ x ++ wS kI kZ x σ2.1.2.1 σ2.1.2.2.1 σ2.1.2.2.2 sa ((rnC WP WL wn KS KB KE KZ KV kn kw sa σ.1 σ.2.1 RP RS).1) ((rnC WP WL wn KS KB KE KZ KV kn kw sa σ.1 σ.2.1 RP RS).2.2.1) ((rnC WP WL wn KS KB KE KZ KV kn kw sa σ.1 σ.2.1 RP RS).2.1) ++ wY kI kZ x σ2.1.1 ++ wW kI kZ x WP WL WC wn wk ++ wK kI kZ x KS KB KE KZ KV kn kw ++ wR kI kZ x ((rnC WP WL wn KS KB KE KZ KV kn kw sa σ.1 σ.2.1 RP RS).2.2.2.1) ((rnC WP WL wn KS KB KE KZ KV kn kw sa σ.1 σ.2.1 RP RS).2.2.2.2.1) (if (rnC WP WL wn KS KB KE KZ KV kn kw sa σ.1 σ.2.1 RP RS).2.1 = 0 then (rnC WP WL wn KS KB KE KZ KV kn kw sa σ.1 σ.2.1 RP RS).2.2.2.2.2 else 0)) (fun _ => rfl) (by decide) rfl rfl rfl (Nat.le_of_ble_eq_true rfl) ⟨Nat.le_of_ble_eq_true rfl, Nat.le_of_ble_eq_true rfl⟩ ⟨Nat.le_of_ble_eq_true rfl, Nat.le_of_ble_eq_true rfl⟩ d_C_run_18 rfl (fun σ2 => ?_)
      first | (exfalso; omega) | exact j_iretX C hr hlk σ2 d_C_run_21 rfl rfl
    · exfalso; omega
end
