def wM (kI kZ : ClassId) (x : Nat → Nat) (th : Int) (co : Int) (Rw : Nat → Int) (nw : Int) (Le : Nat → Int) (Lt : Nat → Int) (sn : Int) (Cd : Nat → Int) (Kp : Nat → Int) (We : Nat → Int) (mn : Int) (Bg : Nat → Int) (Sz : Nat → Int) (Td : Nat → Int) (Mp : Nat → Int) (ts : Int) (nr : Int) (Fo : Nat → Int) (np : Int) (Pl : Nat → Int) (Fw : Nat → Int) : va_W := [(x 0, .inr (8, [.int (iI (th)), .int (iI (co)), .ref (x 1), .int (iI (nw)), .ref (x 2), .ref (x 3), .int (iI (sn)), .ref (x 4), .ref (x 5), .ref (x 6), .int (iI (mn)), .ref (x 7), .ref (x 8), .ref (x 9), .ref (x 10), .int (iI (ts)), .int (iI (nr)), .ref (x 11), .int (iI (np)), .ref (x 12), .ref (x 13)])), (x 1, aI kI 8 Rw), (x 2, aI kI 60 Le), (x 3, aI kI 480 Lt), (x 4, aI kI 60 Cd), (x 5, aI kI 26 Kp), (x 6, aI kI 676 We), (x 7, aI kI 60 Bg), (x 8, aI kI 60 Sz), (x 9, aI kI 61 Td), (x 10, aI kI 26 Mp), (x 11, aI kI 5200 Fo), (x 12, aI kI 60 Pl), (x 13, aI kI 61 Fw)]
def bL (a : Int) : Int := if 97 ≤ a ∧ a ≤ 122 then 1 else 0
theorem bL_r (a : Int) : 0 ≤ bL a ∧ bL a ≤ 1 := by unfold bL; split <;> omega
theorem bL_0 {a : Int} (h : bL a = 0) : ¬ (97 ≤ a ∧ a ≤ 122) := by unfold bL at h; split at h <;> omega
theorem bL_1 {a : Int} (h : ¬ bL a = 0) : 97 ≤ a ∧ a ≤ 122 := by unfold bL at h; split at h <;> omega

set_option maxRecDepth 100000 in
set_option maxHeartbeats 4000000 in
theorem c_M_isLetter {l : Launch} {D : va_G} (kI kZ : ClassId) (x : Nat → Nat) (a : Int) (ha : (-2147483648 ≤ a ∧ a < 2147483648)) : Dt l D (ty2 kI kZ) y_M_isLetter w_M_isLetter { frames := 0, cells := 0, slots := 0, locals := 0 } [.int (iI (a))] ([]) (some (.int (iI (bL a)))) ([]) := by
  refine Met.toJ (own := R_M) (QD D (some (.int (iI (bL a)))) ([])) mk_M_isLetter rfl (Nat.le_of_ble_eq_true rfl) ?_
  intro p e s m args below meth c A C hr hlk hnm
  show JJ p l e { frames := 0, cells := 0, slots := 0, locals := 0 } s m args below meth c D A 1 (MQ below (QD D (some (.int (iI (bL a)))) ([]) A) args s 0 0 A) 0 0 0 [(0, .int (iI (a)))] [] ([])
  refine j_iload_n (q := 1) C 0 rfl d_M_isLetter_0 rfl ?_
  refine j_bipush (q := 3) C d_M_isLetter_1 rfl rfl ?_
  refine j_icmp_lt C 16 6 d_M_isLetter_3 rfl rfl (by omega) (by omega) (fun c1 => ?_) (fun c1 => ?_)
  · refine j_iconst (q := 17) C d_M_isLetter_16 rfl ?_
    exact j_zret C hr hlk (by omega) d_M_isLetter_17 (congrArg (fun z => some (Value.int (iI z))) (show (bL a) = (0) from by unfold bL; split <;> omega)) rfl
  · refine j_iload_n (q := 7) C 0 rfl d_M_isLetter_6 rfl ?_
    refine j_bipush (q := 9) C d_M_isLetter_7 rfl rfl ?_
    refine j_icmp_gt C 16 12 d_M_isLetter_9 rfl rfl (by omega) (by omega) (fun c2 => ?_) (fun c2 => ?_)
    · refine j_iconst (q := 17) C d_M_isLetter_16 rfl ?_
      first | (exfalso; omega) | exact j_zret C hr hlk (by omega) d_M_isLetter_17 (congrArg (fun z => some (Value.int (iI z))) (show (bL a) = (0) from by unfold bL; split <;> omega)) rfl
    · refine j_iconst (q := 13) C d_M_isLetter_12 rfl ?_
      refine j_goto C 17 d_M_isLetter_13 rfl ?_
      first | (exfalso; omega) | exact j_zret C hr hlk (by omega) d_M_isLetter_17 (congrArg (fun z => some (Value.int (iI z))) (show (bL a) = (1) from by unfold bL; split <;> omega)) rfl
set_option maxRecDepth 100000 in
set_option maxHeartbeats 4000000 in
theorem c_M_at {l : Launch} {D : va_G} (kI kZ : ClassId) (x : Nat → Nat) (th co : Int) (Rw : Nat → Int) (nw : Int) (Le Lt : Nat → Int) (sn : Int) (Cd Kp We : Nat → Int) (mn : Int) (Bg Sz Td Mp : Nat → Int) (ts nr : Int) (Fo : Nat → Int) (np : Int) (Pl Fw : Nat → Int) (hLt : ∀ j, 0 ≤ Lt j ∧ Lt j ≤ 122) (a i : Int) (ha : 0 ≤ 8 * a + i ∧ 8 * a + i < 480) : Dt l D (ty2 kI kZ) y_M_at w_M_at { frames := 0, cells := 0, slots := 0, locals := 0 } [.ref (x 0), .int (iI (a)), .int (iI (i))] (wM kI kZ x th co Rw nw Le Lt sn Cd Kp We mn Bg Sz Td Mp ts nr Fo np Pl Fw) (some (.int (iI (Lt (8 * a + i).toNat)))) (wM kI kZ x th co Rw nw Le Lt sn Cd Kp We mn Bg Sz Td Mp ts nr Fo np Pl Fw) := by
  refine Met.toJ (own := R_M) (QD D (some (.int (iI (Lt (8 * a + i).toNat)))) (wM kI kZ x th co Rw nw Le Lt sn Cd Kp We mn Bg Sz Td Mp ts nr Fo np Pl Fw)) mk_M_at rfl (Nat.le_of_ble_eq_true rfl) ?_
  intro p e s m args below meth c A C hr hlk hnm
  show JJ p l e { frames := 0, cells := 0, slots := 0, locals := 0 } s m args below meth c D A 3 (MQ below (QD D (some (.int (iI (Lt (8 * a + i).toNat)))) (wM kI kZ x th co Rw nw Le Lt sn Cd Kp We mn Bg Sz Td Mp ts nr Fo np Pl Fw) A) args s 0 0 A) 0 0 0 [(0, .ref (x 0)), (1, .int (iI (a))), (2, .int (iI (i)))] [] (wM kI kZ x th co Rw nw Le Lt sn Cd Kp We mn Bg Sz Td Mp ts nr Fo np Pl Fw)
  refine j_aload_n (q := 1) C 0 rfl d_M_at_0 rfl ?_
  refine j_get (q := 4) C i_M rfl 0 rfl 5 (by decide) rfl rfl fl_M_16 d_M_at_1 rfl ?_
  refine j_bipush (q := 6) C d_M_at_4 rfl rfl ?_
  refine j_iload_n (q := 7) C 1 rfl d_M_at_6 rfl ?_
  refine j_imul (q := 8) C d_M_at_7 rfl ?_
  refine j_iload_n (q := 9) C 2 rfl d_M_at_8 rfl ?_
  refine j_iadd (q := 10) C d_M_at_9 rfl ?_
  refine j_iald (q := 11) C 3 0 rfl rfl (by decide) (by omega) d_M_at_10 rfl ?_
  have h10 := hLt ((8 * a) + i).toNat
  exact j_iret C hr hlk d_M_at_11 rfl rfl
set_option maxRecDepth 100000 in
set_option maxHeartbeats 4000000 in
theorem c_M_unit {l : Launch} {D : va_G} (kI kZ : ClassId) (x : Nat → Nat) (th co : Int) (Rw : Nat → Int) (nw : Int) (Le Lt : Nat → Int) (sn : Int) (Cd Kp We : Nat → Int) (mn : Int) (Bg Sz Td Mp : Nat → Int) (ts nr : Int) (Fo : Nat → Int) (np : Int) (Pl Fw : Nat → Int) (hco : 0 ≤ co ∧ co ≤ 8) (a : Int) (ha : (-2147483648 ≤ a ∧ a < 2147483648)) : Dt l D (ty2 kI kZ) y_M_unit w_M_unit { frames := 1, cells := 0, slots := 0, locals := 20 } [.ref (x 0), .int (iI (a))] (wM kI kZ x th co Rw nw Le Lt sn Cd Kp We mn Bg Sz Td Mp ts nr Fo np Pl Fw) (some (.int (iI (if (97 ≤ a ∧ a ≤ 122) ∧ ¬ co = 8 then 1 else 0)))) (wM kI kZ x 0 (if (97 ≤ a ∧ a ≤ 122) ∧ ¬ co = 8 then co + 1 else co) (if (97 ≤ a ∧ a ≤ 122) ∧ ¬ co = 8 then uI Rw co.toNat a else Rw) nw Le Lt sn Cd Kp We mn Bg Sz Td Mp ts nr Fo np Pl Fw) := by
  refine Met.toJ (own := R_M) (QD D (some (.int (iI (if (97 ≤ a ∧ a ≤ 122) ∧ ¬ co = 8 then 1 else 0)))) (wM kI kZ x 0 (if (97 ≤ a ∧ a ≤ 122) ∧ ¬ co = 8 then co + 1 else co) (if (97 ≤ a ∧ a ≤ 122) ∧ ¬ co = 8 then uI Rw co.toNat a else Rw) nw Le Lt sn Cd Kp We mn Bg Sz Td Mp ts nr Fo np Pl Fw)) mk_M_unit rfl (Nat.le_of_ble_eq_true rfl) ?_
  intro p e s m args below meth c A C hr hlk hnm
  show JJ p l e { frames := 1, cells := 0, slots := 0, locals := 20 } s m args below meth c D A 2 (MQ below (QD D (some (.int (iI (if (97 ≤ a ∧ a ≤ 122) ∧ ¬ co = 8 then 1 else 0)))) (wM kI kZ x 0 (if (97 ≤ a ∧ a ≤ 122) ∧ ¬ co = 8 then co + 1 else co) (if (97 ≤ a ∧ a ≤ 122) ∧ ¬ co = 8 then uI Rw co.toNat a else Rw) nw Le Lt sn Cd Kp We mn Bg Sz Td Mp ts nr Fo np Pl Fw) A) args s 0 0 A) 0 0 0 [(0, .ref (x 0)), (1, .int (iI (a)))] [] (wM kI kZ x th co Rw nw Le Lt sn Cd Kp We mn Bg Sz Td Mp ts nr Fo np Pl Fw)
  refine j_aload_n (q := 1) C 0 rfl d_M_unit_0 rfl ?_
  refine j_iconst (q := 2) C d_M_unit_1 rfl ?_
  refine j_put (q := 5) (ty := .int) C i_M rfl t_M t_M_ok n_M 0 rfl 0 (by decide) rfl fl_M_49 rfl (by decide +kernel) rfl rfl (Nat.le_of_ble_eq_true rfl) (wM kI kZ x 0 co Rw nw Le Lt sn Cd Kp We mn Bg Sz Td Mp ts nr Fo np Pl Fw) rfl d_M_unit_2 rfl ?_
  refine j_iload_n (q := 6) C 1 rfl d_M_unit_5 rfl ?_
  have e6 := bL_r a
  refine j_callS (q := 9) (wr := wM kI kZ x 0 co Rw nw Le Lt sn Cd Kp We mn Bg Sz Td Mp ts nr Fo np Pl Fw) C [.int (iI (a))] [] (c_M_isLetter kI kZ x a (by omega)) ml_M_53 mk_M_isLetter st_M_isLetter [] [0, 1, 2, 3, 4, 5, 6, 7, 8, 9, 10, 11, 12, 13] [0, 1, 2, 3, 4, 5, 6, 7, 8, 9, 10, 11, 12, 13] rfl (by decide) rfl (by decide) (by decide) (wM kI kZ x 0 co Rw nw Le Lt sn Cd Kp We mn Bg Sz Td Mp ts nr Fo np Pl Fw) rfl (by decide) rfl rfl rfl (Nat.le_of_ble_eq_true rfl) ⟨Nat.le_of_ble_eq_true rfl, Nat.le_of_ble_eq_true rfl⟩ ⟨Nat.le_of_ble_eq_true rfl, Nat.le_of_ble_eq_true rfl⟩ d_M_unit_6 rfl ?_
  refine j_if_eq C 21 12 d_M_unit_9 rfl rfl (by omega) (fun c1 => ?_) (fun c1 => ?_)
  · have c1 := bL_0 c1
    refine j_iconst (q := 22) C d_M_unit_21 rfl ?_
    exact j_zret C hr hlk (by omega) d_M_unit_22 (congrArg (fun z => some (Value.int (iI z))) (show (if (97 ≤ a ∧ a ≤ 122) ∧ ¬ co = 8 then 1 else 0) = (0) from by split <;> omega)) (by repeat (first | rfl | (rw [if_pos (by omega)]) | (rw [if_neg (by omega)])))
  · have c1 := bL_1 c1
    refine j_aload_n (q := 13) C 0 rfl d_M_unit_12 rfl ?_
    refine j_get (q := 16) C i_M rfl 0 rfl 1 (by decide) rfl rfl fl_M_57 d_M_unit_13 rfl ?_
    refine j_bipush (q := 18) C d_M_unit_16 rfl rfl ?_
    refine j_icmp_ne C 23 21 d_M_unit_18 rfl rfl (by omega) (by omega) (fun c2 => ?_) (fun c2 => ?_)
    · refine j_aload_n (q := 24) C 0 rfl d_M_unit_23 rfl ?_
      refine j_get (q := 27) C i_M rfl 0 rfl 2 (by decide) rfl rfl fl_M_7 d_M_unit_24 rfl ?_
      refine j_aload_n (q := 28) C 0 rfl d_M_unit_27 rfl ?_
      refine j_get (q := 31) C i_M rfl 0 rfl 1 (by decide) rfl rfl fl_M_57 d_M_unit_28 rfl ?_
      refine j_iload_n (q := 32) C 1 rfl d_M_unit_31 rfl ?_
      refine j_iast (q := 33) C 1 0 rfl rfl (by decide) (by omega) (wM kI kZ x 0 co (uI Rw co.toNat a) nw Le Lt sn Cd Kp We mn Bg Sz Td Mp ts nr Fo np Pl Fw) rfl d_M_unit_32 rfl ?_
      refine j_aload_n (q := 34) C 0 rfl d_M_unit_33 rfl ?_
      refine j_dup (q := 35) C rfl d_M_unit_34 rfl ?_
      refine j_get (q := 38) C i_M rfl 0 rfl 1 (by decide) rfl rfl fl_M_57 d_M_unit_35 rfl ?_
      refine j_iconst (q := 39) C d_M_unit_38 rfl ?_
      refine j_iadd (q := 40) C d_M_unit_39 rfl ?_
      refine j_put (q := 43) (ty := .int) C i_M rfl t_M t_M_ok n_M 0 rfl 1 (by decide) rfl fl_M_57 rfl (by decide +kernel) rfl rfl (Nat.le_of_ble_eq_true rfl) (wM kI kZ x 0 (co + 1) (uI Rw co.toNat a) nw Le Lt sn Cd Kp We mn Bg Sz Td Mp ts nr Fo np Pl Fw) rfl d_M_unit_40 rfl ?_
      refine j_iconst (q := 44) C d_M_unit_43 rfl ?_
      first | (exfalso; omega) | exact j_zret C hr hlk (by omega) d_M_unit_44 (congrArg (fun z => some (Value.int (iI z))) (show (if (97 ≤ a ∧ a ≤ 122) ∧ ¬ co = 8 then 1 else 0) = (1) from by split <;> omega)) (by repeat (first | rfl | (rw [if_pos (by omega)]) | (rw [if_neg (by omega)])))
    · refine j_iconst (q := 22) C d_M_unit_21 rfl ?_
      first | (exfalso; omega) | exact j_zret C hr hlk (by omega) d_M_unit_22 (congrArg (fun z => some (Value.int (iI z))) (show (if (97 ≤ a ∧ a ≤ 122) ∧ ¬ co = 8 then 1 else 0) = (0) from by split <;> omega)) (by repeat (first | rfl | (rw [if_pos (by omega)]) | (rw [if_neg (by omega)])))
set_option maxRecDepth 100000 in
set_option maxHeartbeats 4000000 in
theorem c_M_isRow {l : Launch} {D : va_G} (kI kZ : ClassId) (x : Nat → Nat) (th co : Int) (Rw : Nat → Int) (nw : Int) (Le Lt : Nat → Int) (sn : Int) (Cd Kp We : Nat → Int) (mn : Int) (Bg Sz Td Mp : Nat → Int) (ts nr : Int) (Fo : Nat → Int) (np : Int) (Pl Fw : Nat → Int) (hco : 0 ≤ co ∧ co ≤ 8) (hRw : ∀ j, 0 ≤ Rw j ∧ Rw j ≤ 122) (hnw : 0 ≤ nw ∧ nw ≤ 60) (hLe : ∀ j, 0 ≤ Le j ∧ Le j ≤ 8) (hLt : ∀ j, 0 ≤ Lt j ∧ Lt j ≤ 122) (a : Int) (ha : 0 ≤ a ∧ a < nw) : Dt l D (ty2 kI kZ) y_M_isRow w_M_isRow { frames := 1, cells := 0, slots := 0, locals := 22 } [.ref (x 0), .int (iI (a))] (wM kI kZ x th co Rw nw Le Lt sn Cd Kp We mn Bg Sz Td Mp ts nr Fo np Pl Fw) (some (.int (iI (bI (isC Lt Le Rw nw co a))))) (wM kI kZ x th co Rw nw Le Lt sn Cd Kp We mn Bg Sz Td Mp ts nr Fo np Pl Fw) := by
  refine Met.toJ (own := R_M) (QD D (some (.int (iI (bI (isC Lt Le Rw nw co a))))) (wM kI kZ x th co Rw nw Le Lt sn Cd Kp We mn Bg Sz Td Mp ts nr Fo np Pl Fw)) mk_M_isRow rfl (Nat.le_of_ble_eq_true rfl) ?_
  intro p e s m args below meth c A C hr hlk hnm
  show JJ p l e { frames := 1, cells := 0, slots := 0, locals := 22 } s m args below meth c D A 3 (MQ below (QD D (some (.int (iI (bI (isC Lt Le Rw nw co a))))) (wM kI kZ x th co Rw nw Le Lt sn Cd Kp We mn Bg Sz Td Mp ts nr Fo np Pl Fw) A) args s 0 0 A) 0 0 0 [(0, .ref (x 0)), (1, .int (iI (a)))] [] (wM kI kZ x th co Rw nw Le Lt sn Cd Kp We mn Bg Sz Td Mp ts nr Fo np Pl Fw)
  have l0 : lnOf Le nw a = Le a.toNat := if_pos ha
  have l1 := hLe a.toNat
  have l2 : ∀ i, 0 ≤ i → i < Le a.toNat → plAt Lt Le nw a i = Lt (8 * a + i).toNat := fun i h1 h2 => by unfold plAt; rw [if_pos (by omega), Int.mul_comm]
  refine j_aload_n (q := 1) C 0 rfl d_M_isRow_0 rfl ?_
  refine j_get (q := 4) C i_M rfl 0 rfl 4 (by decide) rfl rfl fl_M_13 d_M_isRow_1 rfl ?_
  refine j_iload_n (q := 5) C 1 rfl d_M_isRow_4 rfl ?_
  refine j_iald (q := 6) C 2 0 rfl rfl (by decide) (by omega) d_M_isRow_5 rfl ?_
  have h5 := hLe a.toNat
  refine j_aload_n (q := 7) C 0 rfl d_M_isRow_6 rfl ?_
  refine j_get (q := 10) C i_M rfl 0 rfl 1 (by decide) rfl rfl fl_M_57 d_M_isRow_7 rfl ?_
  refine j_icmp_eq C 15 13 d_M_isRow_10 rfl rfl (by omega) (by omega) (fun c1 => ?_) (fun c1 => ?_)
  · refine j_iconst (q := 16) C d_M_isRow_15 rfl ?_
    refine j_istore_n (q := 17) C [(0, .ref (x 0)), (1, .int (iI (a))), (2, .int (iI (0)))] rfl (by decide) d_M_isRow_16 rfl ?_
    have lp17 : ∀ (N : Nat) (i : Int), (0 ≤ i ∧ i ≤ co) → (∀ j : Int, 0 ≤ j → j < i → Lt (8 * a + j).toNat = Rw j.toNat) → (co - i).toNat < N → JJ p l e { frames := 1, cells := 0, slots := 0, locals := 22 } s m args below meth c D A 3 (MQ below (QD D (some (.int (iI (bI (isC Lt Le Rw nw co a))))) (wM kI kZ x th co Rw nw Le Lt sn Cd Kp We mn Bg Sz Td Mp ts nr Fo np Pl Fw) A) args s 0 0 A) 0 0 17 [(0, .ref (x 0)), (1, .int (iI (a))), (2, .int (iI (i)))] [] (wM kI kZ x th co Rw nw Le Lt sn Cd Kp We mn Bg Sz Td Mp ts nr Fo np Pl Fw) := by
      intro N
      induction N with
      | zero =>
        intro i i0 i1 hN
        omega
      | succ N ih17 =>
        intro i i0 i1 hN
        refine j_iload_n (q := 18) C 2 rfl d_M_isRow_17 rfl ?_
        refine j_aload_n (q := 19) C 0 rfl d_M_isRow_18 rfl ?_
        refine j_get (q := 22) C i_M rfl 0 rfl 1 (by decide) rfl rfl fl_M_57 d_M_isRow_19 rfl ?_
        refine j_icmp_ge C 48 25 d_M_isRow_22 rfl rfl (by omega) (by omega) (fun c2 => ?_) (fun c2 => ?_)
        · refine j_iconst (q := 49) C d_M_isRow_48 rfl ?_
          first | (exfalso; omega) | exact j_zret C hr hlk (by omega) d_M_isRow_49 (congrArg (fun z => some (Value.int (iI z))) (show (bI (isC Lt Le Rw nw co a)) = (1) from bI_1 ⟨by omega, fun j h1 h2 => by rw [l2 j h1 (by omega)]; exact i1 j h1 (by omega)⟩)) rfl
        · refine j_aload_n (q := 26) C 0 rfl d_M_isRow_25 rfl ?_
          refine j_iload_n (q := 27) C 1 rfl d_M_isRow_26 rfl ?_
          refine j_iload_n (q := 28) C 2 rfl d_M_isRow_27 rfl ?_
          have e28 := hLt (8 * a + i).toNat
          refine j_callV (q := 31) (wr := []) C [.int (iI (a)), .int (iI (i))] [] (c_M_at kI kZ x th co Rw nw Le Lt sn Cd Kp We mn Bg Sz Td Mp ts nr Fo np Pl Fw hLt a i (by omega)) ml_M_60 mk_M_at in_M_at se_M_at rfl rfl rfl [0, 1, 2, 3, 4, 5, 6, 7, 8, 9, 10, 11, 12, 13] [] [0, 1, 2, 3, 4, 5, 6, 7, 8, 9, 10, 11, 12, 13] rfl (by decide) rfl (by decide) (by decide) (wM kI kZ x th co Rw nw Le Lt sn Cd Kp We mn Bg Sz Td Mp ts nr Fo np Pl Fw) rfl (by decide) rfl rfl rfl (Nat.le_of_ble_eq_true rfl) ⟨Nat.le_of_ble_eq_true rfl, Nat.le_of_ble_eq_true rfl⟩ ⟨Nat.le_of_ble_eq_true rfl, Nat.le_of_ble_eq_true rfl⟩ d_M_isRow_28 rfl ?_
          refine j_aload_n (q := 32) C 0 rfl d_M_isRow_31 rfl ?_
          refine j_get (q := 35) C i_M rfl 0 rfl 2 (by decide) rfl rfl fl_M_7 d_M_isRow_32 rfl ?_
          refine j_iload_n (q := 36) C 2 rfl d_M_isRow_35 rfl ?_
          refine j_iald (q := 37) C 1 0 rfl rfl (by decide) (by omega) d_M_isRow_36 rfl ?_
          have h36 := hRw i.toNat
          refine j_icmp_eq C 42 40 d_M_isRow_37 rfl rfl (by omega) (by omega) (fun c3 => ?_) (fun c3 => ?_)
          · refine j_iinc (q := 45) C 2 [(0, .ref (x 0)), (1, .int (iI (a))), (2, .int (iI (i + 1)))] rfl rfl (by decide) d_M_isRow_42 rfl ?_
            refine j_goto C 17 d_M_isRow_45 rfl ?_
            exact ih17 (i + 1) (by omega) (fun j h1 h2 => by rcases (show j < i ∨ j = i by omega) with h | h; exact i1 j h1 h; rw [h]; omega) (by omega)
          · refine j_iconst (q := 41) C d_M_isRow_40 rfl ?_
            first | (exfalso; omega) | exact j_zret C hr hlk (by omega) d_M_isRow_41 (congrArg (fun z => some (Value.int (iI z))) (show (bI (isC Lt Le Rw nw co a)) = (0) from bI_0 (fun h => by have q := h.2 i (by omega) (by omega); rw [l2 i (by omega) (by omega)] at q; omega))) rfl
    exact lp17 (co.toNat + 1) 0 (by omega) (fun j h1 h2 => by omega) (by omega)
  · refine j_iconst (q := 14) C d_M_isRow_13 rfl ?_
    first | (exfalso; omega) | exact j_zret C hr hlk (by omega) d_M_isRow_14 (congrArg (fun z => some (Value.int (iI z))) (show (bI (isC Lt Le Rw nw co a)) = (0) from bI_0 (fun h => by have := h.1; omega))) rfl
set_option maxRecDepth 100000 in
set_option maxHeartbeats 4000000 in
theorem c_M_enter {l : Launch} {D : va_G} (kI kZ : ClassId) (x : Nat → Nat) (th co : Int) (Rw : Nat → Int) (nw : Int) (Le Lt : Nat → Int) (sn : Int) (Cd Kp We : Nat → Int) (mn : Int) (Bg Sz Td Mp : Nat → Int) (ts nr : Int) (Fo : Nat → Int) (np : Int) (Pl Fw : Nat → Int) (hco : 0 ≤ co ∧ co ≤ 8) (hRw : ∀ j, 0 ≤ Rw j ∧ Rw j ≤ 122) (hnw : 0 ≤ nw ∧ nw ≤ 60) (hLe : ∀ j, 0 ≤ Le j ∧ Le j ≤ 8) (hLt : ∀ j, 0 ≤ Lt j ∧ Lt j ≤ 122) : Dt l D (ty2 kI kZ) y_M_enter w_M_enter { frames := 2, cells := 0, slots := 0, locals := 44 } [.ref (x 0)] (wM kI kZ x th co Rw nw Le Lt sn Cd Kp We mn Bg Sz Td Mp ts nr Fo np Pl Fw) (some (.int (iI (if co = 0 then -1 else nrC Lt Le Rw nw co)))) (wM kI kZ x th co Rw (if co = 0 then nw else wnC Lt Le Rw nw co) (if co = 0 then Le else wlC Lt Le Rw nw co) (if co = 0 then Lt else wpC Lt Le Rw nw co) sn Cd Kp We mn Bg Sz Td Mp ts nr Fo np Pl Fw) := by
  refine Met.toJ (own := R_M) (QD D (some (.int (iI (if co = 0 then -1 else nrC Lt Le Rw nw co)))) (wM kI kZ x th co Rw (if co = 0 then nw else wnC Lt Le Rw nw co) (if co = 0 then Le else wlC Lt Le Rw nw co) (if co = 0 then Lt else wpC Lt Le Rw nw co) sn Cd Kp We mn Bg Sz Td Mp ts nr Fo np Pl Fw)) mk_M_enter rfl (Nat.le_of_ble_eq_true rfl) ?_
  intro p e s m args below meth c A C hr hlk hnm
  show JJ p l e { frames := 2, cells := 0, slots := 0, locals := 44 } s m args below meth c D A 2 (MQ below (QD D (some (.int (iI (if co = 0 then -1 else nrC Lt Le Rw nw co)))) (wM kI kZ x th co Rw (if co = 0 then nw else wnC Lt Le Rw nw co) (if co = 0 then Le else wlC Lt Le Rw nw co) (if co = 0 then Lt else wpC Lt Le Rw nw co) sn Cd Kp We mn Bg Sz Td Mp ts nr Fo np Pl Fw) A) args s 0 0 A) 0 0 0 [(0, .ref (x 0))] [] (wM kI kZ x th co Rw nw Le Lt sn Cd Kp We mn Bg Sz Td Mp ts nr Fo np Pl Fw)
  refine j_aload_n (q := 1) C 0 rfl d_M_enter_0 rfl ?_
  refine j_get (q := 4) C i_M rfl 0 rfl 1 (by decide) rfl rfl fl_M_57 d_M_enter_1 rfl ?_
  refine j_if_ne C 9 7 d_M_enter_4 rfl rfl (by omega) (fun c1 => ?_) (fun c1 => ?_)
  · refine j_iconst (q := 10) C d_M_enter_9 rfl ?_
    refine j_istore_n (q := 11) C [(0, .ref (x 0)), (1, .int (iI (0)))] rfl (by decide) d_M_enter_10 rfl ?_
    have lp11 : ∀ (N : Nat) (i : Int), (0 ≤ i ∧ i ≤ nw) → (∀ j : Int, 0 ≤ j → j < i → ¬ isC Lt Le Rw nw co j) → (nw - i).toNat < N → JJ p l e { frames := 2, cells := 0, slots := 0, locals := 44 } s m args below meth c D A 2 (MQ below (QD D (some (.int (iI (if co = 0 then -1 else nrC Lt Le Rw nw co)))) (wM kI kZ x th co Rw (if co = 0 then nw else wnC Lt Le Rw nw co) (if co = 0 then Le else wlC Lt Le Rw nw co) (if co = 0 then Lt else wpC Lt Le Rw nw co) sn Cd Kp We mn Bg Sz Td Mp ts nr Fo np Pl Fw) A) args s 0 0 A) 0 0 11 [(0, .ref (x 0)), (1, .int (iI (i)))] [] (wM kI kZ x th co Rw nw Le Lt sn Cd Kp We mn Bg Sz Td Mp ts nr Fo np Pl Fw) := by
      intro N
      induction N with
      | zero =>
        intro i i0 i1 hN
        omega
      | succ N ih11 =>
        intro i i0 i1 hN
        refine j_iload_n (q := 12) C 1 rfl d_M_enter_11 rfl ?_
        refine j_aload_n (q := 13) C 0 rfl d_M_enter_12 rfl ?_
        refine j_get (q := 16) C i_M rfl 0 rfl 3 (by decide) rfl rfl fl_M_64 d_M_enter_13 rfl ?_
        refine j_icmp_ge C 35 19 d_M_enter_16 rfl rfl (by omega) (by omega) (fun c2 => ?_) (fun c2 => ?_)
        · have f7 : fdC Lt Le Rw nw co = nw := lst_no (fun j h1 h2 => i1 j h1 (by omega))
          refine j_aload_n (q := 36) C 0 rfl d_M_enter_35 rfl ?_
          refine j_get (q := 39) C i_M rfl 0 rfl 3 (by decide) rfl rfl fl_M_64 d_M_enter_36 rfl ?_
          refine j_bipush (q := 41) C d_M_enter_39 rfl rfl ?_
          refine j_icmp_ne C 46 44 d_M_enter_41 rfl rfl (by omega) (by omega) (fun c3 => ?_) (fun c3 => ?_)
          · refine j_iconst (q := 47) C d_M_enter_46 rfl ?_
            refine j_istore_n (q := 48) C [(0, .ref (x 0)), (1, .int (iI (0)))] rfl (by decide) d_M_enter_47 rfl ?_
            have lp48 : ∀ (N : Nat) (r : Int) (L : Nat → Int), (0 ≤ r ∧ r ≤ co) → (∀ j : Nat, L j = if 8 * nw ≤ (j : Int) ∧ (j : Int) < 8 * nw + r then Rw ((j : Int) - 8 * nw).toNat else Lt j) → (co - r).toNat < N → JJ p l e { frames := 2, cells := 0, slots := 0, locals := 44 } s m args below meth c D A 2 (MQ below (QD D (some (.int (iI (if co = 0 then -1 else nrC Lt Le Rw nw co)))) (wM kI kZ x th co Rw (if co = 0 then nw else wnC Lt Le Rw nw co) (if co = 0 then Le else wlC Lt Le Rw nw co) (if co = 0 then Lt else wpC Lt Le Rw nw co) sn Cd Kp We mn Bg Sz Td Mp ts nr Fo np Pl Fw) A) args s 0 0 A) 0 0 48 [(0, .ref (x 0)), (1, .int (iI (r)))] [] (wM kI kZ x th co Rw nw Le L sn Cd Kp We mn Bg Sz Td Mp ts nr Fo np Pl Fw) := by
              intro N
              induction N with
              | zero =>
                intro r L k0 k1 hN
                omega
              | succ N ih48 =>
                intro r L k0 k1 hN
                refine j_iload_n (q := 49) C 1 rfl d_M_enter_48 rfl ?_
                refine j_aload_n (q := 50) C 0 rfl d_M_enter_49 rfl ?_
                refine j_get (q := 53) C i_M rfl 0 rfl 1 (by decide) rfl rfl fl_M_57 d_M_enter_50 rfl ?_
                refine j_icmp_ge C 82 56 d_M_enter_53 rfl rfl (by omega) (by omega) (fun c4 => ?_) (fun c4 => ?_)
                · obtain rfl : L = va_cpy Rw Lt (0 : Int).toNat (nw * 8).toNat co.toNat := by funext j; rw [k1 j]; unfold va_cpy; have z : ((0 : Int).toNat + (j - (nw * 8).toNat)) = (j - 8 * nw).toNat := (by omega); split <;> split <;> first | rfl | (exfalso; omega) | (rw [z])
                  refine j_aload_n (q := 83) C 0 rfl d_M_enter_82 rfl ?_
                  refine j_get (q := 86) C i_M rfl 0 rfl 4 (by decide) rfl rfl fl_M_13 d_M_enter_83 rfl ?_
                  refine j_aload_n (q := 87) C 0 rfl d_M_enter_86 rfl ?_
                  refine j_get (q := 90) C i_M rfl 0 rfl 3 (by decide) rfl rfl fl_M_64 d_M_enter_87 rfl ?_
                  refine j_aload_n (q := 91) C 0 rfl d_M_enter_90 rfl ?_
                  refine j_get (q := 94) C i_M rfl 0 rfl 1 (by decide) rfl rfl fl_M_57 d_M_enter_91 rfl ?_
                  refine j_iast (q := 95) C 2 0 rfl rfl (by decide) (by omega) (wM kI kZ x th co Rw nw (uI Le nw.toNat co) (va_cpy Rw Lt (0 : Int).toNat (nw * 8).toNat co.toNat) sn Cd Kp We mn Bg Sz Td Mp ts nr Fo np Pl Fw) rfl d_M_enter_94 rfl ?_
                  refine j_aload_n (q := 96) C 0 rfl d_M_enter_95 rfl ?_
                  refine j_dup (q := 97) C rfl d_M_enter_96 rfl ?_
                  refine j_get (q := 100) C i_M rfl 0 rfl 3 (by decide) rfl rfl fl_M_64 d_M_enter_97 rfl ?_
                  refine j_iconst (q := 101) C d_M_enter_100 rfl ?_
                  refine j_iadd (q := 102) C d_M_enter_101 rfl ?_
                  refine j_put (q := 105) (ty := .int) C i_M rfl t_M t_M_ok n_M 0 rfl 3 (by decide) rfl fl_M_64 rfl (by decide +kernel) rfl rfl (Nat.le_of_ble_eq_true rfl) (wM kI kZ x th co Rw (nw + 1) (uI Le nw.toNat co) (va_cpy Rw Lt (0 : Int).toNat (nw * 8).toNat co.toNat) sn Cd Kp We mn Bg Sz Td Mp ts nr Fo np Pl Fw) rfl d_M_enter_102 rfl ?_
                  refine j_aload_n (q := 106) C 0 rfl d_M_enter_105 rfl ?_
                  refine j_get (q := 109) C i_M rfl 0 rfl 3 (by decide) rfl rfl fl_M_64 d_M_enter_106 rfl ?_
                  refine j_iconst (q := 110) C d_M_enter_109 rfl ?_
                  refine j_isub (q := 111) C d_M_enter_110 rfl ?_
                  first | (exfalso; omega) | exact j_iret C hr hlk d_M_enter_111 (congrArg (fun z => some (Value.int (iI z))) (show (if co = 0 then -1 else nrC Lt Le Rw nw co) = ((nw + 1) - 1) from by rw [if_neg (by omega)]; unfold nrC; rw [f7, if_neg (by omega), if_pos (by omega)]; omega)) (by rw [if_neg (by omega), if_neg (by omega), if_neg (by omega)]; unfold wpC wlC wnC; simp only [f7, if_neg (show ¬ nw < nw from by omega), if_pos (show nw < 60 from by omega)])
                · refine j_aload_n (q := 57) C 0 rfl d_M_enter_56 rfl ?_
                  refine j_get (q := 60) C i_M rfl 0 rfl 5 (by decide) rfl rfl fl_M_16 d_M_enter_57 rfl ?_
                  refine j_bipush (q := 62) C d_M_enter_60 rfl rfl ?_
                  refine j_aload_n (q := 63) C 0 rfl d_M_enter_62 rfl ?_
                  refine j_get (q := 66) C i_M rfl 0 rfl 3 (by decide) rfl rfl fl_M_64 d_M_enter_63 rfl ?_
                  refine j_imul (q := 67) C d_M_enter_66 rfl ?_
                  refine j_iload_n (q := 68) C 1 rfl d_M_enter_67 rfl ?_
                  refine j_iadd (q := 69) C d_M_enter_68 rfl ?_
                  refine j_aload_n (q := 70) C 0 rfl d_M_enter_69 rfl ?_
                  refine j_get (q := 73) C i_M rfl 0 rfl 2 (by decide) rfl rfl fl_M_7 d_M_enter_70 rfl ?_
                  refine j_iload_n (q := 74) C 1 rfl d_M_enter_73 rfl ?_
                  refine j_iald (q := 75) C 1 0 rfl rfl (by decide) (by omega) d_M_enter_74 rfl ?_
                  have h74 := hRw r.toNat
                  refine j_iast (q := 76) C 3 0 rfl rfl (by decide) (by omega) (wM kI kZ x th co Rw nw Le (uI L ((8 * nw) + r).toNat (Rw r.toNat)) sn Cd Kp We mn Bg Sz Td Mp ts nr Fo np Pl Fw) rfl d_M_enter_75 rfl ?_
                  refine j_iinc (q := 79) C 1 [(0, .ref (x 0)), (1, .int (iI (r + 1)))] rfl rfl (by decide) d_M_enter_76 rfl ?_
                  refine j_goto C 48 d_M_enter_79 rfl ?_
                  exact ih48 (r + 1) _ (by omega) (fun j => by unfold uI; rw [k1 j]; split <;> split <;> first | rfl | (exfalso; omega) | (congr 1; omega)) (by omega)
            exact lp48 (co.toNat + 1) 0 Lt (by omega) (fun j => by rw [if_neg (by omega)]) (by omega)
          · refine j_iconst (q := 45) C d_M_enter_44 rfl ?_
            first | (exfalso; omega) | exact j_iret C hr hlk d_M_enter_45 (congrArg (fun z => some (Value.int (iI z))) (show (if co = 0 then -1 else nrC Lt Le Rw nw co) = (-1) from by rw [if_neg (by omega)]; unfold nrC; rw [f7, if_neg (by omega), if_neg (by omega)])) (by rw [if_neg (by omega), if_neg (by omega), if_neg (by omega)]; unfold wpC wlC wnC; simp only [f7, if_neg (show ¬ nw < nw from by omega), if_neg (show ¬ nw < 60 from by omega)])
        · refine j_aload_n (q := 20) C 0 rfl d_M_enter_19 rfl ?_
          refine j_iload_n (q := 21) C 1 rfl d_M_enter_20 rfl ?_
          have e21 := bI_r (isC Lt Le Rw nw co i)
          refine j_callV (q := 24) (wr := []) C [.int (iI (i))] [] (c_M_isRow kI kZ x th co Rw nw Le Lt sn Cd Kp We mn Bg Sz Td Mp ts nr Fo np Pl Fw hco hRw hnw hLe hLt i (by omega)) ml_M_67 mk_M_isRow in_M_isRow se_M_isRow rfl rfl rfl [0, 1, 2, 3, 4, 5, 6, 7, 8, 9, 10, 11, 12, 13] [] [0, 1, 2, 3, 4, 5, 6, 7, 8, 9, 10, 11, 12, 13] rfl (by decide) rfl (by decide) (by decide) (wM kI kZ x th co Rw nw Le Lt sn Cd Kp We mn Bg Sz Td Mp ts nr Fo np Pl Fw) rfl (by decide) rfl rfl rfl (Nat.le_of_ble_eq_true rfl) ⟨Nat.le_of_ble_eq_true rfl, Nat.le_of_ble_eq_true rfl⟩ ⟨Nat.le_of_ble_eq_true rfl, Nat.le_of_ble_eq_true rfl⟩ d_M_enter_21 rfl ?_
          refine j_if_eq C 29 27 d_M_enter_24 rfl rfl (by omega) (fun c5 => ?_) (fun c5 => ?_)
          · have c5 := bI_z c5
            have kb := c5
            refine j_iinc (q := 32) C 1 [(0, .ref (x 0)), (1, .int (iI (i + 1)))] rfl rfl (by decide) d_M_enter_29 rfl ?_
            refine j_goto C 11 d_M_enter_32 rfl ?_
            exact ih11 (i + 1) (by omega) (fun j h1 h2 => by rcases (show j < i ∨ j = i by omega) with h | h; exact i1 j h1 h; rw [h]; exact kb) (by omega)
          · have c5 := bI_n c5
            have kb := c5
            have f15 : fdC Lt Le Rw nw co = i := lst_at i0.1 (by omega) c5 i1
            refine j_iload_n (q := 28) C 1 rfl d_M_enter_27 rfl ?_
            first | (exfalso; omega) | exact j_iret C hr hlk d_M_enter_28 (congrArg (fun z => some (Value.int (iI z))) (show (if co = 0 then -1 else nrC Lt Le Rw nw co) = (i) from by rw [if_neg (by omega)]; unfold nrC; rw [f15, if_pos (by omega)])) (by rw [if_neg (by omega), if_neg (by omega), if_neg (by omega)]; unfold wpC wlC wnC; rw [f15, if_pos (by omega), if_pos (by omega), if_pos (by omega)])
    exact lp11 (nw.toNat + 1) 0 (by omega) (fun j h1 h2 => by omega) (by omega)
  · refine j_iconst (q := 8) C d_M_enter_7 rfl ?_
    first | (exfalso; omega) | exact j_iret C hr hlk d_M_enter_8 (congrArg (fun z => some (Value.int (iI z))) (show (if co = 0 then -1 else nrC Lt Le Rw nw co) = (-1) from if_pos (by omega))) (by rw [if_pos (by omega), if_pos (by omega), if_pos (by omega)])
set_option maxRecDepth 100000 in
set_option maxHeartbeats 4000000 in
theorem c_M_word {l : Launch} {D : va_G} (kI kZ : ClassId) (x : Nat → Nat) (th co : Int) (Rw : Nat → Int) (nw : Int) (Le Lt : Nat → Int) (sn : Int) (Cd Kp We : Nat → Int) (mn : Int) (Bg Sz Td Mp : Nat → Int) (ts nr : Int) (Fo : Nat → Int) (np : Int) (Pl Fw : Nat → Int) (hco : 0 ≤ co ∧ co ≤ 8) (hRw : ∀ j, 0 ≤ Rw j ∧ Rw j ≤ 122) (hnw : 0 ≤ nw ∧ nw ≤ 60) (hLe : ∀ j, 0 ≤ Le j ∧ Le j ≤ 8) (hLt : ∀ j, 0 ≤ Lt j ∧ Lt j ≤ 122) : Dt l D (ty2 kI kZ) y_M_word w_M_word { frames := 3, cells := 0, slots := 0, locals := 65 } [.ref (x 0)] (wM kI kZ x th co Rw nw Le Lt sn Cd Kp We mn Bg Sz Td Mp ts nr Fo np Pl Fw) (some (.int (iI (if co = 0 then -1 else nrC Lt Le Rw nw co)))) (wM kI kZ x 0 0 Rw (if co = 0 then nw else wnC Lt Le Rw nw co) (if co = 0 then Le else wlC Lt Le Rw nw co) (if co = 0 then Lt else wpC Lt Le Rw nw co) sn Cd Kp We mn Bg Sz Td Mp ts nr Fo np Pl Fw) := by
  refine Met.toJ (own := R_M) (QD D (some (.int (iI (if co = 0 then -1 else nrC Lt Le Rw nw co)))) (wM kI kZ x 0 0 Rw (if co = 0 then nw else wnC Lt Le Rw nw co) (if co = 0 then Le else wlC Lt Le Rw nw co) (if co = 0 then Lt else wpC Lt Le Rw nw co) sn Cd Kp We mn Bg Sz Td Mp ts nr Fo np Pl Fw)) mk_M_word rfl (Nat.le_of_ble_eq_true rfl) ?_
  intro p e s m args below meth c A C hr hlk hnm
  show JJ p l e { frames := 3, cells := 0, slots := 0, locals := 65 } s m args below meth c D A 2 (MQ below (QD D (some (.int (iI (if co = 0 then -1 else nrC Lt Le Rw nw co)))) (wM kI kZ x 0 0 Rw (if co = 0 then nw else wnC Lt Le Rw nw co) (if co = 0 then Le else wlC Lt Le Rw nw co) (if co = 0 then Lt else wpC Lt Le Rw nw co) sn Cd Kp We mn Bg Sz Td Mp ts nr Fo np Pl Fw) A) args s 0 0 A) 0 0 0 [(0, .ref (x 0))] [] (wM kI kZ x th co Rw nw Le Lt sn Cd Kp We mn Bg Sz Td Mp ts nr Fo np Pl Fw)
  refine j_aload_n (q := 1) C 0 rfl d_M_word_0 rfl ?_
  refine j_iconst (q := 2) C d_M_word_1 rfl ?_
  refine j_put (q := 5) (ty := .int) C i_M rfl t_M t_M_ok n_M 0 rfl 0 (by decide) rfl fl_M_49 rfl (by decide +kernel) rfl rfl (Nat.le_of_ble_eq_true rfl) (wM kI kZ x 0 co Rw nw Le Lt sn Cd Kp We mn Bg Sz Td Mp ts nr Fo np Pl Fw) rfl d_M_word_2 rfl ?_
  refine j_aload_n (q := 6) C 0 rfl d_M_word_5 rfl ?_
  refine j_callV (q := 9) (wr := []) C [] [] (c_M_enter kI kZ x 0 co Rw nw Le Lt sn Cd Kp We mn Bg Sz Td Mp ts nr Fo np Pl Fw hco hRw hnw hLe hLt  ) ml_M_70 mk_M_enter in_M_enter se_M_enter rfl rfl rfl [0, 1, 2, 3, 4, 5, 6, 7, 8, 9, 10, 11, 12, 13] [] [0, 1, 2, 3, 4, 5, 6, 7, 8, 9, 10, 11, 12, 13] rfl (by decide) rfl (by decide) (by decide) (wM kI kZ x 0 co Rw (if co = 0 then nw else wnC Lt Le Rw nw co) (if co = 0 then Le else wlC Lt Le Rw nw co) (if co = 0 then Lt else wpC Lt Le Rw nw co) sn Cd Kp We mn Bg Sz Td Mp ts nr Fo np Pl Fw) rfl (by decide) rfl rfl rfl (Nat.le_of_ble_eq_true rfl) ⟨Nat.le_of_ble_eq_true rfl, Nat.le_of_ble_eq_true rfl⟩ ⟨Nat.le_of_ble_eq_true rfl, Nat.le_of_ble_eq_true rfl⟩ d_M_word_6 rfl ?_
  refine j_istore_n (q := 10) C [(0, .ref (x 0)), (1, .int (iI (if co = 0 then -1 else nrC Lt Le Rw nw co)))] rfl (by decide) d_M_word_9 rfl ?_
  refine j_aload_n (q := 11) C 0 rfl d_M_word_10 rfl ?_
  refine j_iconst (q := 12) C d_M_word_11 rfl ?_
  refine j_put (q := 15) (ty := .int) C i_M rfl t_M t_M_ok n_M 0 rfl 1 (by decide) rfl fl_M_57 rfl (by decide +kernel) rfl rfl (Nat.le_of_ble_eq_true rfl) (wM kI kZ x 0 0 Rw (if co = 0 then nw else wnC Lt Le Rw nw co) (if co = 0 then Le else wlC Lt Le Rw nw co) (if co = 0 then Lt else wpC Lt Le Rw nw co) sn Cd Kp We mn Bg Sz Td Mp ts nr Fo np Pl Fw) rfl d_M_word_12 rfl ?_
  refine j_iload_n (q := 16) C 1 rfl d_M_word_15 rfl ?_
  exact j_iret C hr hlk d_M_word_16 rfl rfl
set_option maxRecDepth 100000 in
set_option maxHeartbeats 4000000 in
theorem c_M_sign {l : Launch} {D : va_G} (kI kZ : ClassId) (x : Nat → Nat) (th co : Int) (Rw : Nat → Int) (nw : Int) (Le Lt : Nat → Int) (sn : Int) (Cd Kp We : Nat → Int) (mn : Int) (Bg Sz Td Mp : Nat → Int) (ts nr : Int) (Fo : Nat → Int) (np : Int) (Pl Fw : Nat → Int) (hsn : 0 ≤ sn ∧ sn ≤ 60) (a : Int) (ha : (-2147483648 ≤ a ∧ a < 2147483648)) : Dt l D (ty2 kI kZ) y_M_sign w_M_sign { frames := 0, cells := 0, slots := 0, locals := 0 } [.ref (x 0), .int (iI (a))] (wM kI kZ x th co Rw nw Le Lt sn Cd Kp We mn Bg Sz Td Mp ts nr Fo np Pl Fw) (some (.int (iI (if (-1 ≤ a ∧ a ≤ 25) ∧ ¬ sn = 60 then 1 else 0)))) (wM kI kZ x 0 co Rw nw Le Lt (if (-1 ≤ a ∧ a ≤ 25) ∧ ¬ sn = 60 then sn + 1 else sn) (if (-1 ≤ a ∧ a ≤ 25) ∧ ¬ sn = 60 then uI Cd sn.toNat a else Cd) Kp We mn Bg Sz Td Mp ts (if (-1 ≤ a ∧ a ≤ 25) ∧ ¬ sn = 60 then 0 else nr) Fo np Pl Fw) := by
  refine Met.toJ (own := R_M) (QD D (some (.int (iI (if (-1 ≤ a ∧ a ≤ 25) ∧ ¬ sn = 60 then 1 else 0)))) (wM kI kZ x 0 co Rw nw Le Lt (if (-1 ≤ a ∧ a ≤ 25) ∧ ¬ sn = 60 then sn + 1 else sn) (if (-1 ≤ a ∧ a ≤ 25) ∧ ¬ sn = 60 then uI Cd sn.toNat a else Cd) Kp We mn Bg Sz Td Mp ts (if (-1 ≤ a ∧ a ≤ 25) ∧ ¬ sn = 60 then 0 else nr) Fo np Pl Fw)) mk_M_sign rfl (Nat.le_of_ble_eq_true rfl) ?_
  intro p e s m args below meth c A C hr hlk hnm
  show JJ p l e { frames := 0, cells := 0, slots := 0, locals := 0 } s m args below meth c D A 2 (MQ below (QD D (some (.int (iI (if (-1 ≤ a ∧ a ≤ 25) ∧ ¬ sn = 60 then 1 else 0)))) (wM kI kZ x 0 co Rw nw Le Lt (if (-1 ≤ a ∧ a ≤ 25) ∧ ¬ sn = 60 then sn + 1 else sn) (if (-1 ≤ a ∧ a ≤ 25) ∧ ¬ sn = 60 then uI Cd sn.toNat a else Cd) Kp We mn Bg Sz Td Mp ts (if (-1 ≤ a ∧ a ≤ 25) ∧ ¬ sn = 60 then 0 else nr) Fo np Pl Fw) A) args s 0 0 A) 0 0 0 [(0, .ref (x 0)), (1, .int (iI (a)))] [] (wM kI kZ x th co Rw nw Le Lt sn Cd Kp We mn Bg Sz Td Mp ts nr Fo np Pl Fw)
  refine j_aload_n (q := 1) C 0 rfl d_M_sign_0 rfl ?_
  refine j_iconst (q := 2) C d_M_sign_1 rfl ?_
  refine j_put (q := 5) (ty := .int) C i_M rfl t_M t_M_ok n_M 0 rfl 0 (by decide) rfl fl_M_49 rfl (by decide +kernel) rfl rfl (Nat.le_of_ble_eq_true rfl) (wM kI kZ x 0 co Rw nw Le Lt sn Cd Kp We mn Bg Sz Td Mp ts nr Fo np Pl Fw) rfl d_M_sign_2 rfl ?_
  refine j_iload_n (q := 6) C 1 rfl d_M_sign_5 rfl ?_
  refine j_iconst (q := 7) C d_M_sign_6 rfl ?_
  refine j_icmp_lt C 25 10 d_M_sign_7 rfl rfl (by omega) (by omega) (fun c1 => ?_) (fun c1 => ?_)
  · refine j_iconst (q := 26) C d_M_sign_25 rfl ?_
    exact j_zret C hr hlk (by omega) d_M_sign_26 (congrArg (fun z => some (Value.int (iI z))) (show (if (-1 ≤ a ∧ a ≤ 25) ∧ ¬ sn = 60 then 1 else 0) = (0) from by split <;> omega)) (by repeat (first | rfl | (rw [if_pos (by omega)]) | (rw [if_neg (by omega)])))
  · refine j_iload_n (q := 11) C 1 rfl d_M_sign_10 rfl ?_
    refine j_bipush (q := 13) C d_M_sign_11 rfl rfl ?_
    refine j_icmp_gt C 25 16 d_M_sign_13 rfl rfl (by omega) (by omega) (fun c2 => ?_) (fun c2 => ?_)
    · refine j_iconst (q := 26) C d_M_sign_25 rfl ?_
      first | (exfalso; omega) | exact j_zret C hr hlk (by omega) d_M_sign_26 (congrArg (fun z => some (Value.int (iI z))) (show (if (-1 ≤ a ∧ a ≤ 25) ∧ ¬ sn = 60 then 1 else 0) = (0) from by split <;> omega)) (by repeat (first | rfl | (rw [if_pos (by omega)]) | (rw [if_neg (by omega)])))
    · refine j_aload_n (q := 17) C 0 rfl d_M_sign_16 rfl ?_
      refine j_get (q := 20) C i_M rfl 0 rfl 6 (by decide) rfl rfl fl_M_74 d_M_sign_17 rfl ?_
      refine j_bipush (q := 22) C d_M_sign_20 rfl rfl ?_
      refine j_icmp_ne C 27 25 d_M_sign_22 rfl rfl (by omega) (by omega) (fun c3 => ?_) (fun c3 => ?_)
      · refine j_aload_n (q := 28) C 0 rfl d_M_sign_27 rfl ?_
        refine j_get (q := 31) C i_M rfl 0 rfl 7 (by decide) rfl rfl fl_M_19 d_M_sign_28 rfl ?_
        refine j_aload_n (q := 32) C 0 rfl d_M_sign_31 rfl ?_
        refine j_get (q := 35) C i_M rfl 0 rfl 6 (by decide) rfl rfl fl_M_74 d_M_sign_32 rfl ?_
        refine j_iload_n (q := 36) C 1 rfl d_M_sign_35 rfl ?_
        refine j_iast (q := 37) C 4 0 rfl rfl (by decide) (by omega) (wM kI kZ x 0 co Rw nw Le Lt sn (uI Cd sn.toNat a) Kp We mn Bg Sz Td Mp ts nr Fo np Pl Fw) rfl d_M_sign_36 rfl ?_
        refine j_aload_n (q := 38) C 0 rfl d_M_sign_37 rfl ?_
        refine j_dup (q := 39) C rfl d_M_sign_38 rfl ?_
        refine j_get (q := 42) C i_M rfl 0 rfl 6 (by decide) rfl rfl fl_M_74 d_M_sign_39 rfl ?_
        refine j_iconst (q := 43) C d_M_sign_42 rfl ?_
        refine j_iadd (q := 44) C d_M_sign_43 rfl ?_
        refine j_put (q := 47) (ty := .int) C i_M rfl t_M t_M_ok n_M 0 rfl 6 (by decide) rfl fl_M_74 rfl (by decide +kernel) rfl rfl (Nat.le_of_ble_eq_true rfl) (wM kI kZ x 0 co Rw nw Le Lt (sn + 1) (uI Cd sn.toNat a) Kp We mn Bg Sz Td Mp ts nr Fo np Pl Fw) rfl d_M_sign_44 rfl ?_
        refine j_aload_n (q := 48) C 0 rfl d_M_sign_47 rfl ?_
        refine j_iconst (q := 49) C d_M_sign_48 rfl ?_
        refine j_put (q := 52) (ty := .int) C i_M rfl t_M t_M_ok n_M 0 rfl 16 (by decide) rfl fl_M_77 rfl (by decide +kernel) rfl rfl (Nat.le_of_ble_eq_true rfl) (wM kI kZ x 0 co Rw nw Le Lt (sn + 1) (uI Cd sn.toNat a) Kp We mn Bg Sz Td Mp ts 0 Fo np Pl Fw) rfl d_M_sign_49 rfl ?_
        refine j_iconst (q := 53) C d_M_sign_52 rfl ?_
        first | (exfalso; omega) | exact j_zret C hr hlk (by omega) d_M_sign_53 (congrArg (fun z => some (Value.int (iI z))) (show (if (-1 ≤ a ∧ a ≤ 25) ∧ ¬ sn = 60 then 1 else 0) = (1) from by split <;> omega)) (by repeat (first | rfl | (rw [if_pos (by omega)]) | (rw [if_neg (by omega)])))
      · refine j_iconst (q := 26) C d_M_sign_25 rfl ?_
        first | (exfalso; omega) | exact j_zret C hr hlk (by omega) d_M_sign_26 (congrArg (fun z => some (Value.int (iI z))) (show (if (-1 ≤ a ∧ a ≤ 25) ∧ ¬ sn = 60 then 1 else 0) = (0) from by split <;> omega)) (by repeat (first | rfl | (rw [if_pos (by omega)]) | (rw [if_neg (by omega)])))
set_option maxRecDepth 100000 in
set_option maxHeartbeats 4000000 in
theorem c_M_keep {l : Launch} {D : va_G} (kI kZ : ClassId) (x : Nat → Nat) (th co : Int) (Rw : Nat → Int) (nw : Int) (Le Lt : Nat → Int) (sn : Int) (Cd Kp We : Nat → Int) (mn : Int) (Bg Sz Td Mp : Nat → Int) (ts nr : Int) (Fo : Nat → Int) (np : Int) (Pl Fw : Nat → Int)  (a : Int) (ha : (-2147483648 ≤ a ∧ a < 2147483648)) (b : Int) (hb : (-2147483648 ≤ b ∧ b < 2147483648)) : Dt l D (ty2 kI kZ) y_M_keep w_M_keep { frames := 1, cells := 0, slots := 0, locals := 20 } [.ref (x 0), .int (iI (a)), .int (iI (b))] (wM kI kZ x th co Rw nw Le Lt sn Cd Kp We mn Bg Sz Td Mp ts nr Fo np Pl Fw) (some (.int (iI (if (0 ≤ a ∧ a ≤ 25) ∧ (b = 0 ∨ (97 ≤ b ∧ b ≤ 122)) then 1 else 0)))) (wM kI kZ x 0 co Rw nw Le Lt sn Cd (if (0 ≤ a ∧ a ≤ 25) ∧ (b = 0 ∨ (97 ≤ b ∧ b ≤ 122)) then uI Kp a.toNat b else Kp) We mn Bg Sz Td Mp ts (if (0 ≤ a ∧ a ≤ 25) ∧ (b = 0 ∨ (97 ≤ b ∧ b ≤ 122)) then 0 else nr) Fo np Pl Fw) := by
  refine Met.toJ (own := R_M) (QD D (some (.int (iI (if (0 ≤ a ∧ a ≤ 25) ∧ (b = 0 ∨ (97 ≤ b ∧ b ≤ 122)) then 1 else 0)))) (wM kI kZ x 0 co Rw nw Le Lt sn Cd (if (0 ≤ a ∧ a ≤ 25) ∧ (b = 0 ∨ (97 ≤ b ∧ b ≤ 122)) then uI Kp a.toNat b else Kp) We mn Bg Sz Td Mp ts (if (0 ≤ a ∧ a ≤ 25) ∧ (b = 0 ∨ (97 ≤ b ∧ b ≤ 122)) then 0 else nr) Fo np Pl Fw)) mk_M_keep rfl (Nat.le_of_ble_eq_true rfl) ?_
  intro p e s m args below meth c A C hr hlk hnm
  show JJ p l e { frames := 1, cells := 0, slots := 0, locals := 20 } s m args below meth c D A 3 (MQ below (QD D (some (.int (iI (if (0 ≤ a ∧ a ≤ 25) ∧ (b = 0 ∨ (97 ≤ b ∧ b ≤ 122)) then 1 else 0)))) (wM kI kZ x 0 co Rw nw Le Lt sn Cd (if (0 ≤ a ∧ a ≤ 25) ∧ (b = 0 ∨ (97 ≤ b ∧ b ≤ 122)) then uI Kp a.toNat b else Kp) We mn Bg Sz Td Mp ts (if (0 ≤ a ∧ a ≤ 25) ∧ (b = 0 ∨ (97 ≤ b ∧ b ≤ 122)) then 0 else nr) Fo np Pl Fw) A) args s 0 0 A) 0 0 0 [(0, .ref (x 0)), (1, .int (iI (a))), (2, .int (iI (b)))] [] (wM kI kZ x th co Rw nw Le Lt sn Cd Kp We mn Bg Sz Td Mp ts nr Fo np Pl Fw)
  refine j_aload_n (q := 1) C 0 rfl d_M_keep_0 rfl ?_
  refine j_iconst (q := 2) C d_M_keep_1 rfl ?_
  refine j_put (q := 5) (ty := .int) C i_M rfl t_M t_M_ok n_M 0 rfl 0 (by decide) rfl fl_M_49 rfl (by decide +kernel) rfl rfl (Nat.le_of_ble_eq_true rfl) (wM kI kZ x 0 co Rw nw Le Lt sn Cd Kp We mn Bg Sz Td Mp ts nr Fo np Pl Fw) rfl d_M_keep_2 rfl ?_
  refine j_iload_n (q := 6) C 1 rfl d_M_keep_5 rfl ?_
  refine j_if_lt C 26 9 d_M_keep_6 rfl rfl (by omega) (fun c1 => ?_) (fun c1 => ?_)
  · refine j_iconst (q := 27) C d_M_keep_26 rfl ?_
    exact j_zret C hr hlk (by omega) d_M_keep_27 (congrArg (fun z => some (Value.int (iI z))) (show (if (0 ≤ a ∧ a ≤ 25) ∧ (b = 0 ∨ (97 ≤ b ∧ b ≤ 122)) then 1 else 0) = (0) from by split <;> omega)) (by repeat (first | rfl | (rw [if_pos (by omega)]) | (rw [if_neg (by omega)])))
  · refine j_iload_n (q := 10) C 1 rfl d_M_keep_9 rfl ?_
    refine j_bipush (q := 12) C d_M_keep_10 rfl rfl ?_
    refine j_icmp_gt C 26 15 d_M_keep_12 rfl rfl (by omega) (by omega) (fun c2 => ?_) (fun c2 => ?_)
    · refine j_iconst (q := 27) C d_M_keep_26 rfl ?_
      first | (exfalso; omega) | exact j_zret C hr hlk (by omega) d_M_keep_27 (congrArg (fun z => some (Value.int (iI z))) (show (if (0 ≤ a ∧ a ≤ 25) ∧ (b = 0 ∨ (97 ≤ b ∧ b ≤ 122)) then 1 else 0) = (0) from by split <;> omega)) (by repeat (first | rfl | (rw [if_pos (by omega)]) | (rw [if_neg (by omega)])))
    · refine j_iload_n (q := 16) C 2 rfl d_M_keep_15 rfl ?_
      refine j_if_eq C 28 19 d_M_keep_16 rfl rfl (by omega) (fun c3 => ?_) (fun c3 => ?_)
      · refine j_aload_n (q := 29) C 0 rfl d_M_keep_28 rfl ?_
        refine j_get (q := 32) C i_M rfl 0 rfl 8 (by decide) rfl rfl fl_M_22 d_M_keep_29 rfl ?_
        refine j_iload_n (q := 33) C 1 rfl d_M_keep_32 rfl ?_
        refine j_iload_n (q := 34) C 2 rfl d_M_keep_33 rfl ?_
        refine j_iast (q := 35) C 5 0 rfl rfl (by decide) (by omega) (wM kI kZ x 0 co Rw nw Le Lt sn Cd (uI Kp a.toNat b) We mn Bg Sz Td Mp ts nr Fo np Pl Fw) rfl d_M_keep_34 rfl ?_
        refine j_aload_n (q := 36) C 0 rfl d_M_keep_35 rfl ?_
        refine j_iconst (q := 37) C d_M_keep_36 rfl ?_
        refine j_put (q := 40) (ty := .int) C i_M rfl t_M t_M_ok n_M 0 rfl 16 (by decide) rfl fl_M_77 rfl (by decide +kernel) rfl rfl (Nat.le_of_ble_eq_true rfl) (wM kI kZ x 0 co Rw nw Le Lt sn Cd (uI Kp a.toNat b) We mn Bg Sz Td Mp ts 0 Fo np Pl Fw) rfl d_M_keep_37 rfl ?_
        refine j_iconst (q := 41) C d_M_keep_40 rfl ?_
        first | (exfalso; omega) | exact j_zret C hr hlk (by omega) d_M_keep_41 (congrArg (fun z => some (Value.int (iI z))) (show (if (0 ≤ a ∧ a ≤ 25) ∧ (b = 0 ∨ (97 ≤ b ∧ b ≤ 122)) then 1 else 0) = (1) from by split <;> omega)) (by repeat (first | rfl | (rw [if_pos (by omega)]) | (rw [if_neg (by omega)])))
      · refine j_iload_n (q := 20) C 2 rfl d_M_keep_19 rfl ?_
        have e20 := bL_r b
        refine j_callS (q := 23) (wr := wM kI kZ x 0 co Rw nw Le Lt sn Cd Kp We mn Bg Sz Td Mp ts nr Fo np Pl Fw) C [.int (iI (b))] [] (c_M_isLetter kI kZ x b (by omega)) ml_M_53 mk_M_isLetter st_M_isLetter [] [0, 1, 2, 3, 4, 5, 6, 7, 8, 9, 10, 11, 12, 13] [0, 1, 2, 3, 4, 5, 6, 7, 8, 9, 10, 11, 12, 13] rfl (by decide) rfl (by decide) (by decide) (wM kI kZ x 0 co Rw nw Le Lt sn Cd Kp We mn Bg Sz Td Mp ts nr Fo np Pl Fw) rfl (by decide) rfl rfl rfl (Nat.le_of_ble_eq_true rfl) ⟨Nat.le_of_ble_eq_true rfl, Nat.le_of_ble_eq_true rfl⟩ ⟨Nat.le_of_ble_eq_true rfl, Nat.le_of_ble_eq_true rfl⟩ d_M_keep_20 rfl ?_
        refine j_if_ne C 28 26 d_M_keep_23 rfl rfl (by omega) (fun c4 => ?_) (fun c4 => ?_)
        · have c4 := bL_1 c4
          refine j_aload_n (q := 29) C 0 rfl d_M_keep_28 rfl ?_
          refine j_get (q := 32) C i_M rfl 0 rfl 8 (by decide) rfl rfl fl_M_22 d_M_keep_29 rfl ?_
          refine j_iload_n (q := 33) C 1 rfl d_M_keep_32 rfl ?_
          refine j_iload_n (q := 34) C 2 rfl d_M_keep_33 rfl ?_
          refine j_iast (q := 35) C 5 0 rfl rfl (by decide) (by omega) (wM kI kZ x 0 co Rw nw Le Lt sn Cd (uI Kp a.toNat b) We mn Bg Sz Td Mp ts nr Fo np Pl Fw) rfl d_M_keep_34 rfl ?_
          refine j_aload_n (q := 36) C 0 rfl d_M_keep_35 rfl ?_
          refine j_iconst (q := 37) C d_M_keep_36 rfl ?_
          refine j_put (q := 40) (ty := .int) C i_M rfl t_M t_M_ok n_M 0 rfl 16 (by decide) rfl fl_M_77 rfl (by decide +kernel) rfl rfl (Nat.le_of_ble_eq_true rfl) (wM kI kZ x 0 co Rw nw Le Lt sn Cd (uI Kp a.toNat b) We mn Bg Sz Td Mp ts 0 Fo np Pl Fw) rfl d_M_keep_37 rfl ?_
          refine j_iconst (q := 41) C d_M_keep_40 rfl ?_
          first | (exfalso; omega) | exact j_zret C hr hlk (by omega) d_M_keep_41 (congrArg (fun z => some (Value.int (iI z))) (show (if (0 ≤ a ∧ a ≤ 25) ∧ (b = 0 ∨ (97 ≤ b ∧ b ≤ 122)) then 1 else 0) = (1) from by split <;> omega)) (by repeat (first | rfl | (rw [if_pos (by omega)]) | (rw [if_neg (by omega)])))
        · have c4 := bL_0 c4
          refine j_iconst (q := 27) C d_M_keep_26 rfl ?_
          first | (exfalso; omega) | exact j_zret C hr hlk (by omega) d_M_keep_27 (congrArg (fun z => some (Value.int (iI z))) (show (if (0 ≤ a ∧ a ≤ 25) ∧ (b = 0 ∨ (97 ≤ b ∧ b ≤ 122)) then 1 else 0) = (0) from by split <;> omega)) (by repeat (first | rfl | (rw [if_pos (by omega)]) | (rw [if_neg (by omega)])))
set_option maxRecDepth 100000 in
set_option maxHeartbeats 4000000 in
theorem c_M_pair {l : Launch} {D : va_G} (kI kZ : ClassId) (x : Nat → Nat) (th co : Int) (Rw : Nat → Int) (nw : Int) (Le Lt : Nat → Int) (sn : Int) (Cd Kp We : Nat → Int) (mn : Int) (Bg Sz Td Mp : Nat → Int) (ts nr : Int) (Fo : Nat → Int) (np : Int) (Pl Fw : Nat → Int)  (a : Int) (ha : (-2147483648 ≤ a ∧ a < 2147483648)) (b v : Int) (hb : (-2147483648 ≤ b ∧ b < 2147483648)) (hv : (-2147483648 ≤ v ∧ v < 2147483648)) : Dt l D (ty2 kI kZ) y_M_pair w_M_pair { frames := 1, cells := 0, slots := 0, locals := 20 } [.ref (x 0), .int (iI (a)), .int (iI (b)), .int (iI (v))] (wM kI kZ x th co Rw nw Le Lt sn Cd Kp We mn Bg Sz Td Mp ts nr Fo np Pl Fw) (some (.int (iI (if ((97 ≤ a ∧ a ≤ 122) ∧ (97 ≤ b ∧ b ≤ 122)) ∧ (-1000 ≤ v ∧ v ≤ 1000) then 1 else 0)))) (wM kI kZ x 0 co Rw nw Le Lt sn Cd Kp (if ((97 ≤ a ∧ a ≤ 122) ∧ (97 ≤ b ∧ b ≤ 122)) ∧ (-1000 ≤ v ∧ v ≤ 1000) then uI We (26 * (a - 97) + b - 97).toNat v else We) mn Bg Sz Td Mp ts nr Fo np Pl Fw) := by
  refine Met.toJ (own := R_M) (QD D (some (.int (iI (if ((97 ≤ a ∧ a ≤ 122) ∧ (97 ≤ b ∧ b ≤ 122)) ∧ (-1000 ≤ v ∧ v ≤ 1000) then 1 else 0)))) (wM kI kZ x 0 co Rw nw Le Lt sn Cd Kp (if ((97 ≤ a ∧ a ≤ 122) ∧ (97 ≤ b ∧ b ≤ 122)) ∧ (-1000 ≤ v ∧ v ≤ 1000) then uI We (26 * (a - 97) + b - 97).toNat v else We) mn Bg Sz Td Mp ts nr Fo np Pl Fw)) mk_M_pair rfl (Nat.le_of_ble_eq_true rfl) ?_
  intro p e s m args below meth c A C hr hlk hnm
  show JJ p l e { frames := 1, cells := 0, slots := 0, locals := 20 } s m args below meth c D A 4 (MQ below (QD D (some (.int (iI (if ((97 ≤ a ∧ a ≤ 122) ∧ (97 ≤ b ∧ b ≤ 122)) ∧ (-1000 ≤ v ∧ v ≤ 1000) then 1 else 0)))) (wM kI kZ x 0 co Rw nw Le Lt sn Cd Kp (if ((97 ≤ a ∧ a ≤ 122) ∧ (97 ≤ b ∧ b ≤ 122)) ∧ (-1000 ≤ v ∧ v ≤ 1000) then uI We (26 * (a - 97) + b - 97).toNat v else We) mn Bg Sz Td Mp ts nr Fo np Pl Fw) A) args s 0 0 A) 0 0 0 [(0, .ref (x 0)), (1, .int (iI (a))), (2, .int (iI (b))), (3, .int (iI (v)))] [] (wM kI kZ x th co Rw nw Le Lt sn Cd Kp We mn Bg Sz Td Mp ts nr Fo np Pl Fw)
  refine j_aload_n (q := 1) C 0 rfl d_M_pair_0 rfl ?_
  refine j_iconst (q := 2) C d_M_pair_1 rfl ?_
  refine j_put (q := 5) (ty := .int) C i_M rfl t_M t_M_ok n_M 0 rfl 0 (by decide) rfl fl_M_49 rfl (by decide +kernel) rfl rfl (Nat.le_of_ble_eq_true rfl) (wM kI kZ x 0 co Rw nw Le Lt sn Cd Kp We mn Bg Sz Td Mp ts nr Fo np Pl Fw) rfl d_M_pair_2 rfl ?_
  refine j_iload_n (q := 6) C 1 rfl d_M_pair_5 rfl ?_
  have e6 := bL_r a
  refine j_callS (q := 9) (wr := wM kI kZ x 0 co Rw nw Le Lt sn Cd Kp We mn Bg Sz Td Mp ts nr Fo np Pl Fw) C [.int (iI (a))] [] (c_M_isLetter kI kZ x a (by omega)) ml_M_53 mk_M_isLetter st_M_isLetter [] [0, 1, 2, 3, 4, 5, 6, 7, 8, 9, 10, 11, 12, 13] [0, 1, 2, 3, 4, 5, 6, 7, 8, 9, 10, 11, 12, 13] rfl (by decide) rfl (by decide) (by decide) (wM kI kZ x 0 co Rw nw Le Lt sn Cd Kp We mn Bg Sz Td Mp ts nr Fo np Pl Fw) rfl (by decide) rfl rfl rfl (Nat.le_of_ble_eq_true rfl) ⟨Nat.le_of_ble_eq_true rfl, Nat.le_of_ble_eq_true rfl⟩ ⟨Nat.le_of_ble_eq_true rfl, Nat.le_of_ble_eq_true rfl⟩ d_M_pair_6 rfl ?_
  refine j_if_eq C 33 12 d_M_pair_9 rfl rfl (by omega) (fun c1 => ?_) (fun c1 => ?_)
  · have c1 := bL_0 c1
    refine j_iconst (q := 34) C d_M_pair_33 rfl ?_
    exact j_zret C hr hlk (by omega) d_M_pair_34 (congrArg (fun z => some (Value.int (iI z))) (show (if ((97 ≤ a ∧ a ≤ 122) ∧ (97 ≤ b ∧ b ≤ 122)) ∧ (-1000 ≤ v ∧ v ≤ 1000) then 1 else 0) = (0) from by split <;> omega)) (by repeat (first | rfl | (rw [if_pos (by omega)]) | (rw [if_neg (by omega)])))
  · have c1 := bL_1 c1
    refine j_iload_n (q := 13) C 2 rfl d_M_pair_12 rfl ?_
    have e13 := bL_r b
    refine j_callS (q := 16) (wr := wM kI kZ x 0 co Rw nw Le Lt sn Cd Kp We mn Bg Sz Td Mp ts nr Fo np Pl Fw) C [.int (iI (b))] [] (c_M_isLetter kI kZ x b (by omega)) ml_M_53 mk_M_isLetter st_M_isLetter [] [0, 1, 2, 3, 4, 5, 6, 7, 8, 9, 10, 11, 12, 13] [0, 1, 2, 3, 4, 5, 6, 7, 8, 9, 10, 11, 12, 13] rfl (by decide) rfl (by decide) (by decide) (wM kI kZ x 0 co Rw nw Le Lt sn Cd Kp We mn Bg Sz Td Mp ts nr Fo np Pl Fw) rfl (by decide) rfl rfl rfl (Nat.le_of_ble_eq_true rfl) ⟨Nat.le_of_ble_eq_true rfl, Nat.le_of_ble_eq_true rfl⟩ ⟨Nat.le_of_ble_eq_true rfl, Nat.le_of_ble_eq_true rfl⟩ d_M_pair_13 rfl ?_
    refine j_if_eq C 33 19 d_M_pair_16 rfl rfl (by omega) (fun c2 => ?_) (fun c2 => ?_)
    · have c2 := bL_0 c2
      refine j_iconst (q := 34) C d_M_pair_33 rfl ?_
      first | (exfalso; omega) | exact j_zret C hr hlk (by omega) d_M_pair_34 (congrArg (fun z => some (Value.int (iI z))) (show (if ((97 ≤ a ∧ a ≤ 122) ∧ (97 ≤ b ∧ b ≤ 122)) ∧ (-1000 ≤ v ∧ v ≤ 1000) then 1 else 0) = (0) from by split <;> omega)) (by repeat (first | rfl | (rw [if_pos (by omega)]) | (rw [if_neg (by omega)])))
    · have c2 := bL_1 c2
      refine j_iload_n (q := 20) C 3 rfl d_M_pair_19 rfl ?_
      refine j_sipush (q := 23) C d_M_pair_20 rfl rfl ?_
      refine j_icmp_lt C 33 26 d_M_pair_23 rfl rfl (by omega) (by omega) (fun c3 => ?_) (fun c3 => ?_)
      · refine j_iconst (q := 34) C d_M_pair_33 rfl ?_
        first | (exfalso; omega) | exact j_zret C hr hlk (by omega) d_M_pair_34 (congrArg (fun z => some (Value.int (iI z))) (show (if ((97 ≤ a ∧ a ≤ 122) ∧ (97 ≤ b ∧ b ≤ 122)) ∧ (-1000 ≤ v ∧ v ≤ 1000) then 1 else 0) = (0) from by split <;> omega)) (by repeat (first | rfl | (rw [if_pos (by omega)]) | (rw [if_neg (by omega)])))
      · refine j_iload_n (q := 27) C 3 rfl d_M_pair_26 rfl ?_
        refine j_sipush (q := 30) C d_M_pair_27 rfl rfl ?_
        refine j_icmp_le C 35 33 d_M_pair_30 rfl rfl (by omega) (by omega) (fun c4 => ?_) (fun c4 => ?_)
        · refine j_aload_n (q := 36) C 0 rfl d_M_pair_35 rfl ?_
          refine j_get (q := 39) C i_M rfl 0 rfl 9 (by decide) rfl rfl fl_M_25 d_M_pair_36 rfl ?_
          refine j_bipush (q := 41) C d_M_pair_39 rfl rfl ?_
          refine j_iload_n (q := 42) C 1 rfl d_M_pair_41 rfl ?_
          refine j_bipush (q := 44) C d_M_pair_42 rfl rfl ?_
          refine j_isub (q := 45) C d_M_pair_44 rfl ?_
          refine j_imul (q := 46) C d_M_pair_45 rfl ?_
          refine j_iload_n (q := 47) C 2 rfl d_M_pair_46 rfl ?_
          refine j_iadd (q := 48) C d_M_pair_47 rfl ?_
          refine j_bipush (q := 50) C d_M_pair_48 rfl rfl ?_
          refine j_isub (q := 51) C d_M_pair_50 rfl ?_
          refine j_iload_n (q := 52) C 3 rfl d_M_pair_51 rfl ?_
          refine j_iast (q := 53) C 6 0 rfl rfl (by decide) (by omega) (wM kI kZ x 0 co Rw nw Le Lt sn Cd Kp (uI We (((26 * (a - 97)) + b) - 97).toNat v) mn Bg Sz Td Mp ts nr Fo np Pl Fw) rfl d_M_pair_52 rfl ?_
          refine j_iconst (q := 54) C d_M_pair_53 rfl ?_
          first | (exfalso; omega) | exact j_zret C hr hlk (by omega) d_M_pair_54 (congrArg (fun z => some (Value.int (iI z))) (show (if ((97 ≤ a ∧ a ≤ 122) ∧ (97 ≤ b ∧ b ≤ 122)) ∧ (-1000 ≤ v ∧ v ≤ 1000) then 1 else 0) = (1) from by split <;> omega)) (by repeat (first | rfl | (rw [if_pos (by omega)]) | (rw [if_neg (by omega)])))
        · refine j_iconst (q := 34) C d_M_pair_33 rfl ?_
          first | (exfalso; omega) | exact j_zret C hr hlk (by omega) d_M_pair_34 (congrArg (fun z => some (Value.int (iI z))) (show (if ((97 ≤ a ∧ a ≤ 122) ∧ (97 ≤ b ∧ b ≤ 122)) ∧ (-1000 ≤ v ∧ v ≤ 1000) then 1 else 0) = (0) from by split <;> omega)) (by repeat (first | rfl | (rw [if_pos (by omega)]) | (rw [if_neg (by omega)])))
set_option maxRecDepth 100000 in
set_option maxHeartbeats 4000000 in
theorem c_M_weight {l : Launch} {D : va_G} (kI kZ : ClassId) (x : Nat → Nat) (th co : Int) (Rw : Nat → Int) (nw : Int) (Le Lt : Nat → Int) (sn : Int) (Cd Kp We : Nat → Int) (mn : Int) (Bg Sz Td Mp : Nat → Int) (ts nr : Int) (Fo : Nat → Int) (np : Int) (Pl Fw : Nat → Int) (hWe : ∀ j, -1000 ≤ We j ∧ We j ≤ 1000) (a b : Int) (ha : 97 ≤ a ∧ a ≤ 122) (hb : 97 ≤ b ∧ b ≤ 122) : Dt l D (ty2 kI kZ) y_M_weight w_M_weight { frames := 0, cells := 0, slots := 0, locals := 0 } [.ref (x 0), .int (iI (a)), .int (iI (b))] (wM kI kZ x th co Rw nw Le Lt sn Cd Kp We mn Bg Sz Td Mp ts nr Fo np Pl Fw) (some (.int (iI (We (26 * (a - 97) + b - 97).toNat)))) (wM kI kZ x th co Rw nw Le Lt sn Cd Kp We mn Bg Sz Td Mp ts nr Fo np Pl Fw) := by
  refine Met.toJ (own := R_M) (QD D (some (.int (iI (We (26 * (a - 97) + b - 97).toNat)))) (wM kI kZ x th co Rw nw Le Lt sn Cd Kp We mn Bg Sz Td Mp ts nr Fo np Pl Fw)) mk_M_weight rfl (Nat.le_of_ble_eq_true rfl) ?_
  intro p e s m args below meth c A C hr hlk hnm
  show JJ p l e { frames := 0, cells := 0, slots := 0, locals := 0 } s m args below meth c D A 3 (MQ below (QD D (some (.int (iI (We (26 * (a - 97) + b - 97).toNat)))) (wM kI kZ x th co Rw nw Le Lt sn Cd Kp We mn Bg Sz Td Mp ts nr Fo np Pl Fw) A) args s 0 0 A) 0 0 0 [(0, .ref (x 0)), (1, .int (iI (a))), (2, .int (iI (b)))] [] (wM kI kZ x th co Rw nw Le Lt sn Cd Kp We mn Bg Sz Td Mp ts nr Fo np Pl Fw)
  refine j_aload_n (q := 1) C 0 rfl d_M_weight_0 rfl ?_
  refine j_get (q := 4) C i_M rfl 0 rfl 9 (by decide) rfl rfl fl_M_25 d_M_weight_1 rfl ?_
  refine j_bipush (q := 6) C d_M_weight_4 rfl rfl ?_
  refine j_iload_n (q := 7) C 1 rfl d_M_weight_6 rfl ?_
  refine j_bipush (q := 9) C d_M_weight_7 rfl rfl ?_
  refine j_isub (q := 10) C d_M_weight_9 rfl ?_
  refine j_imul (q := 11) C d_M_weight_10 rfl ?_
  refine j_iload_n (q := 12) C 2 rfl d_M_weight_11 rfl ?_
  refine j_iadd (q := 13) C d_M_weight_12 rfl ?_
  refine j_bipush (q := 15) C d_M_weight_13 rfl rfl ?_
  refine j_isub (q := 16) C d_M_weight_15 rfl ?_
  refine j_iald (q := 17) C 6 0 rfl rfl (by decide) (by omega) d_M_weight_16 rfl ?_
  have h16 := hWe (((26 * (a - 97)) + b) - 97).toNat
  exact j_iret C hr hlk d_M_weight_17 rfl rfl
/-- the number a stands in the code -/
def inM (Cd : Nat → Int) (sn a : Int) : Prop := ∃ i : Int, 0 ≤ i ∧ i < sn ∧ Cd i.toNat = a

set_option maxRecDepth 100000 in
set_option maxHeartbeats 4000000 in
theorem c_M_isIn {l : Launch} {D : va_G} (kI kZ : ClassId) (x : Nat → Nat) (th co : Int) (Rw : Nat → Int) (nw : Int) (Le Lt : Nat → Int) (sn : Int) (Cd Kp We : Nat → Int) (mn : Int) (Bg Sz Td Mp : Nat → Int) (ts nr : Int) (Fo : Nat → Int) (np : Int) (Pl Fw : Nat → Int) (hsn : 0 ≤ sn ∧ sn ≤ 60) (hCd : ∀ j, -1 ≤ Cd j ∧ Cd j ≤ 25) (a : Int) (ha : (-2147483648 ≤ a ∧ a < 2147483648)) : Dt l D (ty2 kI kZ) y_M_isIn w_M_isIn { frames := 0, cells := 0, slots := 0, locals := 0 } [.ref (x 0), .int (iI (a))] (wM kI kZ x th co Rw nw Le Lt sn Cd Kp We mn Bg Sz Td Mp ts nr Fo np Pl Fw) (some (.int (iI (bI (inM Cd sn a))))) (wM kI kZ x th co Rw nw Le Lt sn Cd Kp We mn Bg Sz Td Mp ts nr Fo np Pl Fw) := by
  refine Met.toJ (own := R_M) (QD D (some (.int (iI (bI (inM Cd sn a))))) (wM kI kZ x th co Rw nw Le Lt sn Cd Kp We mn Bg Sz Td Mp ts nr Fo np Pl Fw)) mk_M_isIn rfl (Nat.le_of_ble_eq_true rfl) ?_
  intro p e s m args below meth c A C hr hlk hnm
  show JJ p l e { frames := 0, cells := 0, slots := 0, locals := 0 } s m args below meth c D A 3 (MQ below (QD D (some (.int (iI (bI (inM Cd sn a))))) (wM kI kZ x th co Rw nw Le Lt sn Cd Kp We mn Bg Sz Td Mp ts nr Fo np Pl Fw) A) args s 0 0 A) 0 0 0 [(0, .ref (x 0)), (1, .int (iI (a)))] [] (wM kI kZ x th co Rw nw Le Lt sn Cd Kp We mn Bg Sz Td Mp ts nr Fo np Pl Fw)
  refine j_iconst (q := 1) C d_M_isIn_0 rfl ?_
  refine j_istore_n (q := 2) C [(0, .ref (x 0)), (1, .int (iI (a))), (2, .int (iI (0)))] rfl (by decide) d_M_isIn_1 rfl ?_
  have lp2 : ∀ (N : Nat) (i : Int), (0 ≤ i ∧ i ≤ sn) → (∀ j : Int, 0 ≤ j → j < i → ¬ Cd j.toNat = a) → (sn - i).toNat < N → JJ p l e { frames := 0, cells := 0, slots := 0, locals := 0 } s m args below meth c D A 3 (MQ below (QD D (some (.int (iI (bI (inM Cd sn a))))) (wM kI kZ x th co Rw nw Le Lt sn Cd Kp We mn Bg Sz Td Mp ts nr Fo np Pl Fw) A) args s 0 0 A) 0 0 2 [(0, .ref (x 0)), (1, .int (iI (a))), (2, .int (iI (i)))] [] (wM kI kZ x th co Rw nw Le Lt sn Cd Kp We mn Bg Sz Td Mp ts nr Fo np Pl Fw) := by
    intro N
    induction N with
    | zero =>
      intro i i0 i1 hN
      omega
    | succ N ih2 =>
      intro i i0 i1 hN
      refine j_iload_n (q := 3) C 2 rfl d_M_isIn_2 rfl ?_
      refine j_aload_n (q := 4) C 0 rfl d_M_isIn_3 rfl ?_
      refine j_get (q := 7) C i_M rfl 0 rfl 6 (by decide) rfl rfl fl_M_74 d_M_isIn_4 rfl ?_
      refine j_icmp_ge C 28 10 d_M_isIn_7 rfl rfl (by omega) (by omega) (fun c1 => ?_) (fun c1 => ?_)
      · refine j_iconst (q := 29) C d_M_isIn_28 rfl ?_
        exact j_zret C hr hlk (by omega) d_M_isIn_29 (congrArg (fun z => some (Value.int (iI z))) (show (bI (inM Cd sn a)) = (0) from bI_0 (fun ⟨j, h1, h2, h3⟩ => i1 j h1 (by omega) h3))) rfl
      · refine j_aload_n (q := 11) C 0 rfl d_M_isIn_10 rfl ?_
        refine j_get (q := 14) C i_M rfl 0 rfl 7 (by decide) rfl rfl fl_M_19 d_M_isIn_11 rfl ?_
        refine j_iload_n (q := 15) C 2 rfl d_M_isIn_14 rfl ?_
        refine j_iald (q := 16) C 4 0 rfl rfl (by decide) (by omega) d_M_isIn_15 rfl ?_
        have h15 := hCd i.toNat
        refine j_iload_n (q := 17) C 1 rfl d_M_isIn_16 rfl ?_
        refine j_icmp_ne C 22 20 d_M_isIn_17 rfl rfl (by omega) (by omega) (fun c2 => ?_) (fun c2 => ?_)
        · refine j_iinc (q := 25) C 2 [(0, .ref (x 0)), (1, .int (iI (a))), (2, .int (iI (i + 1)))] rfl rfl (by decide) d_M_isIn_22 rfl ?_
          refine j_goto C 2 d_M_isIn_25 rfl ?_
          exact ih2 (i + 1) (by omega) (fun j h1 h2 => by rcases (show j < i ∨ j = i by omega) with h | h; exact i1 j h1 h; rw [h]; omega) (by omega)
        · refine j_iconst (q := 21) C d_M_isIn_20 rfl ?_
          first | (exfalso; omega) | exact j_zret C hr hlk (by omega) d_M_isIn_21 (congrArg (fun z => some (Value.int (iI z))) (show (bI (inM Cd sn a)) = (1) from bI_1 ⟨i, by omega, by omega, by omega⟩)) rfl
  exact lp2 (sn.toNat + 1) 0 (by omega) (fun j h1 h2 => by omega) (by omega)
set_option maxRecDepth 100000 in
set_option maxHeartbeats 4000000 in
theorem c_M_steps {l : Launch} {D : va_G} (kI kZ : ClassId) (x : Nat → Nat) (th co : Int) (Rw : Nat → Int) (nw : Int) (Le Lt : Nat → Int) (sn : Int) (Cd Kp We : Nat → Int) (mn : Int) (Bg Sz Td Mp : Nat → Int) (ts nr : Int) (Fo : Nat → Int) (np : Int) (Pl Fw : Nat → Int)  : Dt l D (ty2 kI kZ) y_M_steps w_M_steps { frames := 0, cells := 0, slots := 0, locals := 0 } [.ref (x 0)] (wM kI kZ x th co Rw nw Le Lt sn Cd Kp We mn Bg Sz Td Mp ts nr Fo np Pl Fw) (some (.int (iI (ts)))) (wM kI kZ x 0 co Rw nw Le Lt sn Cd Kp We mn Bg Sz Td Mp ts nr Fo np Pl Fw) := by
  refine Met.toJ (own := R_M) (QD D (some (.int (iI (ts)))) (wM kI kZ x 0 co Rw nw Le Lt sn Cd Kp We mn Bg Sz Td Mp ts nr Fo np Pl Fw)) mk_M_steps rfl (Nat.le_of_ble_eq_true rfl) ?_
  intro p e s m args below meth c A C hr hlk hnm
  show JJ p l e { frames := 0, cells := 0, slots := 0, locals := 0 } s m args below meth c D A 1 (MQ below (QD D (some (.int (iI (ts)))) (wM kI kZ x 0 co Rw nw Le Lt sn Cd Kp We mn Bg Sz Td Mp ts nr Fo np Pl Fw) A) args s 0 0 A) 0 0 0 [(0, .ref (x 0))] [] (wM kI kZ x th co Rw nw Le Lt sn Cd Kp We mn Bg Sz Td Mp ts nr Fo np Pl Fw)
  refine j_aload_n (q := 1) C 0 rfl d_M_steps_0 rfl ?_
  refine j_iconst (q := 2) C d_M_steps_1 rfl ?_
  refine j_put (q := 5) (ty := .int) C i_M rfl t_M t_M_ok n_M 0 rfl 0 (by decide) rfl fl_M_49 rfl (by decide +kernel) rfl rfl (Nat.le_of_ble_eq_true rfl) (wM kI kZ x 0 co Rw nw Le Lt sn Cd Kp We mn Bg Sz Td Mp ts nr Fo np Pl Fw) rfl d_M_steps_2 rfl ?_
  refine j_aload_n (q := 6) C 0 rfl d_M_steps_5 rfl ?_
  refine j_get (q := 9) C i_M rfl 0 rfl 15 (by decide) rfl rfl fl_M_97 d_M_steps_6 rfl ?_
  exact j_iret C hr hlk d_M_steps_9 rfl rfl
set_option maxRecDepth 100000 in
set_option maxHeartbeats 4000000 in
theorem c_M_letter {l : Launch} {D : va_G} (kI kZ : ClassId) (x : Nat → Nat) (th co : Int) (Rw : Nat → Int) (nw : Int) (Le Lt : Nat → Int) (sn : Int) (Cd Kp We : Nat → Int) (mn : Int) (Bg Sz Td Mp : Nat → Int) (ts nr : Int) (Fo : Nat → Int) (np : Int) (Pl Fw : Nat → Int) (hnr : 0 ≤ nr ∧ nr ≤ 200) (hFo : ∀ j, 0 ≤ Fo j ∧ Fo j ≤ 122) (k a : Int) (hk : (-2147483648 ≤ k ∧ k < 2147483648)) (ha : (-2147483648 ≤ a ∧ a < 2147483648)) : Dt l D (ty2 kI kZ) y_M_letter w_M_letter { frames := 0, cells := 0, slots := 0, locals := 0 } [.ref (x 0), .int (iI (k)), .int (iI (a))] (wM kI kZ x th co Rw nw Le Lt sn Cd Kp We mn Bg Sz Td Mp ts nr Fo np Pl Fw) (some (.int (iI (if ((0 ≤ k ∧ k < nr) ∧ (0 ≤ a ∧ a ≤ 25)) ∧ ¬ Fo (26 * k + a).toNat = 0 then Fo (26 * k + a).toNat else -1)))) (wM kI kZ x 0 co Rw nw Le Lt sn Cd Kp We mn Bg Sz Td Mp ts nr Fo np Pl Fw) := by
  refine Met.toJ (own := R_M) (QD D (some (.int (iI (if ((0 ≤ k ∧ k < nr) ∧ (0 ≤ a ∧ a ≤ 25)) ∧ ¬ Fo (26 * k + a).toNat = 0 then Fo (26 * k + a).toNat else -1)))) (wM kI kZ x 0 co Rw nw Le Lt sn Cd Kp We mn Bg Sz Td Mp ts nr Fo np Pl Fw)) mk_M_letter rfl (Nat.le_of_ble_eq_true rfl) ?_
  intro p e s m args below meth c A C hr hlk hnm
  show JJ p l e { frames := 0, cells := 0, slots := 0, locals := 0 } s m args below meth c D A 3 (MQ below (QD D (some (.int (iI (if ((0 ≤ k ∧ k < nr) ∧ (0 ≤ a ∧ a ≤ 25)) ∧ ¬ Fo (26 * k + a).toNat = 0 then Fo (26 * k + a).toNat else -1)))) (wM kI kZ x 0 co Rw nw Le Lt sn Cd Kp We mn Bg Sz Td Mp ts nr Fo np Pl Fw) A) args s 0 0 A) 0 0 0 [(0, .ref (x 0)), (1, .int (iI (k))), (2, .int (iI (a)))] [] (wM kI kZ x th co Rw nw Le Lt sn Cd Kp We mn Bg Sz Td Mp ts nr Fo np Pl Fw)
  refine j_aload_n (q := 1) C 0 rfl d_M_letter_0 rfl ?_
  refine j_iconst (q := 2) C d_M_letter_1 rfl ?_
  refine j_put (q := 5) (ty := .int) C i_M rfl t_M t_M_ok n_M 0 rfl 0 (by decide) rfl fl_M_49 rfl (by decide +kernel) rfl rfl (Nat.le_of_ble_eq_true rfl) (wM kI kZ x 0 co Rw nw Le Lt sn Cd Kp We mn Bg Sz Td Mp ts nr Fo np Pl Fw) rfl d_M_letter_2 rfl ?_
  refine j_iload_n (q := 6) C 1 rfl d_M_letter_5 rfl ?_
  refine j_if_lt C 41 9 d_M_letter_6 rfl rfl (by omega) (fun c1 => ?_) (fun c1 => ?_)
  · refine j_iconst (q := 42) C d_M_letter_41 rfl ?_
    exact j_iret C hr hlk d_M_letter_42 (congrArg (fun z => some (Value.int (iI z))) (show (if ((0 ≤ k ∧ k < nr) ∧ (0 ≤ a ∧ a ≤ 25)) ∧ ¬ Fo (26 * k + a).toNat = 0 then Fo (26 * k + a).toNat else -1) = (-1) from by split <;> first | rfl | omega)) rfl
  · refine j_iload_n (q := 10) C 1 rfl d_M_letter_9 rfl ?_
    refine j_aload_n (q := 11) C 0 rfl d_M_letter_10 rfl ?_
    refine j_get (q := 14) C i_M rfl 0 rfl 16 (by decide) rfl rfl fl_M_77 d_M_letter_11 rfl ?_
    refine j_icmp_ge C 41 17 d_M_letter_14 rfl rfl (by omega) (by omega) (fun c2 => ?_) (fun c2 => ?_)
    · refine j_iconst (q := 42) C d_M_letter_41 rfl ?_
      first | (exfalso; omega) | exact j_iret C hr hlk d_M_letter_42 (congrArg (fun z => some (Value.int (iI z))) (show (if ((0 ≤ k ∧ k < nr) ∧ (0 ≤ a ∧ a ≤ 25)) ∧ ¬ Fo (26 * k + a).toNat = 0 then Fo (26 * k + a).toNat else -1) = (-1) from by split <;> first | rfl | omega)) rfl
    · refine j_iload_n (q := 18) C 2 rfl d_M_letter_17 rfl ?_
      refine j_if_lt C 41 21 d_M_letter_18 rfl rfl (by omega) (fun c3 => ?_) (fun c3 => ?_)
      · refine j_iconst (q := 42) C d_M_letter_41 rfl ?_
        first | (exfalso; omega) | exact j_iret C hr hlk d_M_letter_42 (congrArg (fun z => some (Value.int (iI z))) (show (if ((0 ≤ k ∧ k < nr) ∧ (0 ≤ a ∧ a ≤ 25)) ∧ ¬ Fo (26 * k + a).toNat = 0 then Fo (26 * k + a).toNat else -1) = (-1) from by split <;> first | rfl | omega)) rfl
      · refine j_iload_n (q := 22) C 2 rfl d_M_letter_21 rfl ?_
        refine j_bipush (q := 24) C d_M_letter_22 rfl rfl ?_
        refine j_icmp_gt C 41 27 d_M_letter_24 rfl rfl (by omega) (by omega) (fun c4 => ?_) (fun c4 => ?_)
        · refine j_iconst (q := 42) C d_M_letter_41 rfl ?_
          first | (exfalso; omega) | exact j_iret C hr hlk d_M_letter_42 (congrArg (fun z => some (Value.int (iI z))) (show (if ((0 ≤ k ∧ k < nr) ∧ (0 ≤ a ∧ a ≤ 25)) ∧ ¬ Fo (26 * k + a).toNat = 0 then Fo (26 * k + a).toNat else -1) = (-1) from by split <;> first | rfl | omega)) rfl
        · refine j_aload_n (q := 28) C 0 rfl d_M_letter_27 rfl ?_
          refine j_get (q := 31) C i_M rfl 0 rfl 17 (by decide) rfl rfl fl_M_40 d_M_letter_28 rfl ?_
          refine j_bipush (q := 33) C d_M_letter_31 rfl rfl ?_
          refine j_iload_n (q := 34) C 1 rfl d_M_letter_33 rfl ?_
          refine j_imul (q := 35) C d_M_letter_34 rfl ?_
          refine j_iload_n (q := 36) C 2 rfl d_M_letter_35 rfl ?_
          refine j_iadd (q := 37) C d_M_letter_36 rfl ?_
          refine j_iald (q := 38) C 11 0 rfl rfl (by decide) (by omega) d_M_letter_37 rfl ?_
          have h37 := hFo ((26 * k) + a).toNat
          refine j_if_ne C 43 41 d_M_letter_38 rfl rfl (by omega) (fun c5 => ?_) (fun c5 => ?_)
          · refine j_aload_n (q := 44) C 0 rfl d_M_letter_43 rfl ?_
            refine j_get (q := 47) C i_M rfl 0 rfl 17 (by decide) rfl rfl fl_M_40 d_M_letter_44 rfl ?_
            refine j_bipush (q := 49) C d_M_letter_47 rfl rfl ?_
            refine j_iload_n (q := 50) C 1 rfl d_M_letter_49 rfl ?_
            refine j_imul (q := 51) C d_M_letter_50 rfl ?_
            refine j_iload_n (q := 52) C 2 rfl d_M_letter_51 rfl ?_
            refine j_iadd (q := 53) C d_M_letter_52 rfl ?_
            refine j_iald (q := 54) C 11 0 rfl rfl (by decide) (by omega) d_M_letter_53 rfl ?_
            have h53 := hFo ((26 * k) + a).toNat
            first | (exfalso; omega) | exact j_iret C hr hlk d_M_letter_54 (congrArg (fun z => some (Value.int (iI z))) (show (if ((0 ≤ k ∧ k < nr) ∧ (0 ≤ a ∧ a ≤ 25)) ∧ ¬ Fo (26 * k + a).toNat = 0 then Fo (26 * k + a).toNat else -1) = (Fo ((26 * k) + a).toNat) from by split <;> first | rfl | omega)) rfl
          · refine j_iconst (q := 42) C d_M_letter_41 rfl ?_
            first | (exfalso; omega) | exact j_iret C hr hlk d_M_letter_42 (congrArg (fun z => some (Value.int (iI z))) (show (if ((0 ≤ k ∧ k < nr) ∧ (0 ≤ a ∧ a ≤ 25)) ∧ ¬ Fo (26 * k + a).toNat = 0 then Fo (26 * k + a).toNat else -1) = (-1) from by split <;> first | rfl | omega)) rfl
set_option maxRecDepth 100000 in
set_option maxHeartbeats 4000000 in
theorem c_M_plain {l : Launch} {D : va_G} (kI kZ : ClassId) (x : Nat → Nat) (th co : Int) (Rw : Nat → Int) (nw : Int) (Le Lt : Nat → Int) (sn : Int) (Cd Kp We : Nat → Int) (mn : Int) (Bg Sz Td Mp : Nat → Int) (ts nr : Int) (Fo : Nat → Int) (np : Int) (Pl Fw : Nat → Int) (hnp : 0 ≤ np ∧ np ≤ 60) (a : Int) (ha : (-2147483648 ≤ a ∧ a < 2147483648)) : Dt l D (ty2 kI kZ) y_M_plain w_M_plain { frames := 1, cells := 0, slots := 0, locals := 20 } [.ref (x 0), .int (iI (a))] (wM kI kZ x th co Rw nw Le Lt sn Cd Kp We mn Bg Sz Td Mp ts nr Fo np Pl Fw) (some (.int (iI (if (97 ≤ a ∧ a ≤ 122) ∧ ¬ np = 60 then 1 else 0)))) (wM kI kZ x 0 co Rw nw Le Lt sn Cd Kp We mn Bg Sz Td Mp ts nr Fo (if (97 ≤ a ∧ a ≤ 122) ∧ ¬ np = 60 then np + 1 else np) (if (97 ≤ a ∧ a ≤ 122) ∧ ¬ np = 60 then uI Pl np.toNat a else Pl) Fw) := by
  refine Met.toJ (own := R_M) (QD D (some (.int (iI (if (97 ≤ a ∧ a ≤ 122) ∧ ¬ np = 60 then 1 else 0)))) (wM kI kZ x 0 co Rw nw Le Lt sn Cd Kp We mn Bg Sz Td Mp ts nr Fo (if (97 ≤ a ∧ a ≤ 122) ∧ ¬ np = 60 then np + 1 else np) (if (97 ≤ a ∧ a ≤ 122) ∧ ¬ np = 60 then uI Pl np.toNat a else Pl) Fw)) mk_M_plain rfl (Nat.le_of_ble_eq_true rfl) ?_
  intro p e s m args below meth c A C hr hlk hnm
  show JJ p l e { frames := 1, cells := 0, slots := 0, locals := 20 } s m args below meth c D A 2 (MQ below (QD D (some (.int (iI (if (97 ≤ a ∧ a ≤ 122) ∧ ¬ np = 60 then 1 else 0)))) (wM kI kZ x 0 co Rw nw Le Lt sn Cd Kp We mn Bg Sz Td Mp ts nr Fo (if (97 ≤ a ∧ a ≤ 122) ∧ ¬ np = 60 then np + 1 else np) (if (97 ≤ a ∧ a ≤ 122) ∧ ¬ np = 60 then uI Pl np.toNat a else Pl) Fw) A) args s 0 0 A) 0 0 0 [(0, .ref (x 0)), (1, .int (iI (a)))] [] (wM kI kZ x th co Rw nw Le Lt sn Cd Kp We mn Bg Sz Td Mp ts nr Fo np Pl Fw)
  refine j_aload_n (q := 1) C 0 rfl d_M_plain_0 rfl ?_
  refine j_iconst (q := 2) C d_M_plain_1 rfl ?_
  refine j_put (q := 5) (ty := .int) C i_M rfl t_M t_M_ok n_M 0 rfl 0 (by decide) rfl fl_M_49 rfl (by decide +kernel) rfl rfl (Nat.le_of_ble_eq_true rfl) (wM kI kZ x 0 co Rw nw Le Lt sn Cd Kp We mn Bg Sz Td Mp ts nr Fo np Pl Fw) rfl d_M_plain_2 rfl ?_
  refine j_iload_n (q := 6) C 1 rfl d_M_plain_5 rfl ?_
  have e6 := bL_r a
  refine j_callS (q := 9) (wr := wM kI kZ x 0 co Rw nw Le Lt sn Cd Kp We mn Bg Sz Td Mp ts nr Fo np Pl Fw) C [.int (iI (a))] [] (c_M_isLetter kI kZ x a (by omega)) ml_M_53 mk_M_isLetter st_M_isLetter [] [0, 1, 2, 3, 4, 5, 6, 7, 8, 9, 10, 11, 12, 13] [0, 1, 2, 3, 4, 5, 6, 7, 8, 9, 10, 11, 12, 13] rfl (by decide) rfl (by decide) (by decide) (wM kI kZ x 0 co Rw nw Le Lt sn Cd Kp We mn Bg Sz Td Mp ts nr Fo np Pl Fw) rfl (by decide) rfl rfl rfl (Nat.le_of_ble_eq_true rfl) ⟨Nat.le_of_ble_eq_true rfl, Nat.le_of_ble_eq_true rfl⟩ ⟨Nat.le_of_ble_eq_true rfl, Nat.le_of_ble_eq_true rfl⟩ d_M_plain_6 rfl ?_
  refine j_if_eq C 21 12 d_M_plain_9 rfl rfl (by omega) (fun c1 => ?_) (fun c1 => ?_)
  · have c1 := bL_0 c1
    refine j_iconst (q := 22) C d_M_plain_21 rfl ?_
    exact j_zret C hr hlk (by omega) d_M_plain_22 (congrArg (fun z => some (Value.int (iI z))) (show (if (97 ≤ a ∧ a ≤ 122) ∧ ¬ np = 60 then 1 else 0) = (0) from by split <;> omega)) (by repeat (first | rfl | (rw [if_pos (by omega)]) | (rw [if_neg (by omega)])))
  · have c1 := bL_1 c1
    refine j_aload_n (q := 13) C 0 rfl d_M_plain_12 rfl ?_
    refine j_get (q := 16) C i_M rfl 0 rfl 18 (by decide) rfl rfl fl_M_113 d_M_plain_13 rfl ?_
    refine j_bipush (q := 18) C d_M_plain_16 rfl rfl ?_
    refine j_icmp_ne C 23 21 d_M_plain_18 rfl rfl (by omega) (by omega) (fun c2 => ?_) (fun c2 => ?_)
    · refine j_aload_n (q := 24) C 0 rfl d_M_plain_23 rfl ?_
      refine j_get (q := 27) C i_M rfl 0 rfl 19 (by decide) rfl rfl fl_M_43 d_M_plain_24 rfl ?_
      refine j_aload_n (q := 28) C 0 rfl d_M_plain_27 rfl ?_
      refine j_get (q := 31) C i_M rfl 0 rfl 18 (by decide) rfl rfl fl_M_113 d_M_plain_28 rfl ?_
      refine j_iload_n (q := 32) C 1 rfl d_M_plain_31 rfl ?_
      refine j_iast (q := 33) C 12 0 rfl rfl (by decide) (by omega) (wM kI kZ x 0 co Rw nw Le Lt sn Cd Kp We mn Bg Sz Td Mp ts nr Fo np (uI Pl np.toNat a) Fw) rfl d_M_plain_32 rfl ?_
      refine j_aload_n (q := 34) C 0 rfl d_M_plain_33 rfl ?_
      refine j_dup (q := 35) C rfl d_M_plain_34 rfl ?_
      refine j_get (q := 38) C i_M rfl 0 rfl 18 (by decide) rfl rfl fl_M_113 d_M_plain_35 rfl ?_
      refine j_iconst (q := 39) C d_M_plain_38 rfl ?_
      refine j_iadd (q := 40) C d_M_plain_39 rfl ?_
      refine j_put (q := 43) (ty := .int) C i_M rfl t_M t_M_ok n_M 0 rfl 18 (by decide) rfl fl_M_113 rfl (by decide +kernel) rfl rfl (Nat.le_of_ble_eq_true rfl) (wM kI kZ x 0 co Rw nw Le Lt sn Cd Kp We mn Bg Sz Td Mp ts nr Fo (np + 1) (uI Pl np.toNat a) Fw) rfl d_M_plain_40 rfl ?_
      refine j_iconst (q := 44) C d_M_plain_43 rfl ?_
      first | (exfalso; omega) | exact j_zret C hr hlk (by omega) d_M_plain_44 (congrArg (fun z => some (Value.int (iI z))) (show (if (97 ≤ a ∧ a ≤ 122) ∧ ¬ np = 60 then 1 else 0) = (1) from by split <;> omega)) (by repeat (first | rfl | (rw [if_pos (by omega)]) | (rw [if_neg (by omega)])))
    · refine j_iconst (q := 22) C d_M_plain_21 rfl ?_
      first | (exfalso; omega) | exact j_zret C hr hlk (by omega) d_M_plain_22 (congrArg (fun z => some (Value.int (iI z))) (show (if (97 ≤ a ∧ a ≤ 122) ∧ ¬ np = 60 then 1 else 0) = (0) from by split <;> omega)) (by repeat (first | rfl | (rw [if_pos (by omega)]) | (rw [if_neg (by omega)])))
set_option maxRecDepth 100000 in
set_option maxHeartbeats 4000000 in
theorem c_M_shift {l : Launch} {D : va_G} (kI kZ : ClassId) (x : Nat → Nat) (a b : Int) (ha : 97 ≤ a ∧ a ≤ 122) (hb : (-2147483648 ≤ b ∧ b < 2147483648)) : Dt l D (ty2 kI kZ) y_M_shift w_M_shift { frames := 0, cells := 0, slots := 0, locals := 0 } [.int (iI (a)), .int (iI (b))] ([]) (some (.int (iI (97 + (a - 97 + b) % 26)))) ([]) := by
  refine Met.toJ (own := R_M) (QD D (some (.int (iI (97 + (a - 97 + b) % 26)))) ([])) mk_M_shift rfl (Nat.le_of_ble_eq_true rfl) ?_
  intro p e s m args below meth c A C hr hlk hnm
  show JJ p l e { frames := 0, cells := 0, slots := 0, locals := 0 } s m args below meth c D A 2 (MQ below (QD D (some (.int (iI (97 + (a - 97 + b) % 26)))) ([]) A) args s 0 0 A) 0 0 0 [(0, .int (iI (a))), (1, .int (iI (b)))] [] ([])
  have t1 : -25 ≤ tm b 26 ∧ tm b 26 ≤ 25 ∧ (tm b 26) % 26 = b % 26 := by unfold tm; split <;> omega
  have t2 : -25 ≤ tm (a - 97 + tm b 26) 26 ∧ tm (a - 97 + tm b 26) 26 ≤ 25 ∧ (tm (a - 97 + tm b 26) 26) % 26 = (a - 97 + tm b 26) % 26 := by generalize a - 97 + tm b 26 = z; unfold tm; split <;> omega
  have t3 : tm (tm (a - 97 + tm b 26) 26 + 26) 26 = (tm (a - 97 + tm b 26) 26 + 26) % 26 := if_pos (by omega)
  refine j_bipush (q := 2) C d_M_shift_0 rfl rfl ?_
  refine j_iload_n (q := 3) C 0 rfl d_M_shift_2 rfl ?_
  refine j_bipush (q := 5) C d_M_shift_3 rfl rfl ?_
  refine j_isub (q := 6) C d_M_shift_5 rfl ?_
  refine j_iload_n (q := 7) C 1 rfl d_M_shift_6 rfl ?_
  refine j_bipush (q := 9) C d_M_shift_7 rfl rfl ?_
  refine j_iremT (q := 10) C (by omega) (by omega) d_M_shift_9 rfl ?_
  refine j_iadd (q := 11) C d_M_shift_10 rfl ?_
  refine j_bipush (q := 13) C d_M_shift_11 rfl rfl ?_
  refine j_iremT (q := 14) C (by omega) (by omega) d_M_shift_13 rfl ?_
  refine j_bipush (q := 16) C d_M_shift_14 rfl rfl ?_
  refine j_iadd (q := 17) C d_M_shift_16 rfl ?_
  refine j_bipush (q := 19) C d_M_shift_17 rfl rfl ?_
  refine j_iremT (q := 20) C (by omega) (by omega) d_M_shift_19 rfl ?_
  refine j_iadd (q := 21) C d_M_shift_20 rfl ?_
  exact j_iret C hr hlk d_M_shift_21 (congrArg (fun z => some (Value.int (iI z))) (show (97 + (a - 97 + b) % 26) = (97 + (tm ((tm ((a - 97) + (tm b 26)) 26) + 26) 26)) from by rw [t3]; omega)) rfl
set_option maxRecDepth 100000 in
set_option maxHeartbeats 4000000 in
theorem c_M_shifted {l : Launch} {D : va_G} (kI kZ : ClassId) (x : Nat → Nat) (th co : Int) (Rw : Nat → Int) (nw : Int) (Le Lt : Nat → Int) (sn : Int) (Cd Kp We : Nat → Int) (mn : Int) (Bg Sz Td Mp : Nat → Int) (ts nr : Int) (Fo : Nat → Int) (np : Int) (Pl Fw : Nat → Int) (hnp : 0 ≤ np ∧ np ≤ 60) (hPl : ∀ j, 0 ≤ Pl j ∧ Pl j ≤ 122) (hPq : ∀ i : Int, 0 ≤ i → i < np → 97 ≤ Pl i.toNat) (a i : Int) (ha : (-2147483648 ≤ a ∧ a < 2147483648)) (hi : (-2147483648 ≤ i ∧ i < 2147483648)) : Dt l D (ty2 kI kZ) y_M_shifted w_M_shifted { frames := 1, cells := 0, slots := 0, locals := 21 } [.ref (x 0), .int (iI (a)), .int (iI (i))] (wM kI kZ x th co Rw nw Le Lt sn Cd Kp We mn Bg Sz Td Mp ts nr Fo np Pl Fw) (some (.int (iI (if 0 ≤ i ∧ i < np then 97 + (Pl i.toNat - 97 + a) % 26 else -1)))) (wM kI kZ x 0 co Rw nw Le Lt sn Cd Kp We mn Bg Sz Td Mp ts nr Fo np Pl Fw) := by
  refine Met.toJ (own := R_M) (QD D (some (.int (iI (if 0 ≤ i ∧ i < np then 97 + (Pl i.toNat - 97 + a) % 26 else -1)))) (wM kI kZ x 0 co Rw nw Le Lt sn Cd Kp We mn Bg Sz Td Mp ts nr Fo np Pl Fw)) mk_M_shifted rfl (Nat.le_of_ble_eq_true rfl) ?_
  intro p e s m args below meth c A C hr hlk hnm
  show JJ p l e { frames := 1, cells := 0, slots := 0, locals := 21 } s m args below meth c D A 3 (MQ below (QD D (some (.int (iI (if 0 ≤ i ∧ i < np then 97 + (Pl i.toNat - 97 + a) % 26 else -1)))) (wM kI kZ x 0 co Rw nw Le Lt sn Cd Kp We mn Bg Sz Td Mp ts nr Fo np Pl Fw) A) args s 0 0 A) 0 0 0 [(0, .ref (x 0)), (1, .int (iI (a))), (2, .int (iI (i)))] [] (wM kI kZ x th co Rw nw Le Lt sn Cd Kp We mn Bg Sz Td Mp ts nr Fo np Pl Fw)
  refine j_aload_n (q := 1) C 0 rfl d_M_shifted_0 rfl ?_
  refine j_iconst (q := 2) C d_M_shifted_1 rfl ?_
  refine j_put (q := 5) (ty := .int) C i_M rfl t_M t_M_ok n_M 0 rfl 0 (by decide) rfl fl_M_49 rfl (by decide +kernel) rfl rfl (Nat.le_of_ble_eq_true rfl) (wM kI kZ x 0 co Rw nw Le Lt sn Cd Kp We mn Bg Sz Td Mp ts nr Fo np Pl Fw) rfl d_M_shifted_2 rfl ?_
  refine j_iload_n (q := 6) C 2 rfl d_M_shifted_5 rfl ?_
  refine j_if_lt C 17 9 d_M_shifted_6 rfl rfl (by omega) (fun c1 => ?_) (fun c1 => ?_)
  · refine j_iconst (q := 18) C d_M_shifted_17 rfl ?_
    refine j_goto C 31 d_M_shifted_18 rfl ?_
    exact j_iret C hr hlk d_M_shifted_31 (congrArg (fun z => some (Value.int (iI z))) (show (if 0 ≤ i ∧ i < np then 97 + (Pl i.toNat - 97 + a) % 26 else -1) = (-1) from by split <;> first | rfl | omega)) rfl
  · refine j_iload_n (q := 10) C 2 rfl d_M_shifted_9 rfl ?_
    refine j_aload_n (q := 11) C 0 rfl d_M_shifted_10 rfl ?_
    refine j_get (q := 14) C i_M rfl 0 rfl 18 (by decide) rfl rfl fl_M_113 d_M_shifted_11 rfl ?_
    refine j_icmp_lt C 21 17 d_M_shifted_14 rfl rfl (by omega) (by omega) (fun c2 => ?_) (fun c2 => ?_)
    · refine j_aload_n (q := 22) C 0 rfl d_M_shifted_21 rfl ?_
      refine j_get (q := 25) C i_M rfl 0 rfl 19 (by decide) rfl rfl fl_M_43 d_M_shifted_22 rfl ?_
      refine j_iload_n (q := 26) C 2 rfl d_M_shifted_25 rfl ?_
      refine j_iald (q := 27) C 12 0 rfl rfl (by decide) (by omega) d_M_shifted_26 rfl ?_
      have h26 := hPl i.toNat
      refine j_iload_n (q := 28) C 1 rfl d_M_shifted_27 rfl ?_
      have q28 := hPq i (by omega) (by omega)
      have e28 : 97 ≤ 97 + ((Pl i.toNat) - 97 + a) % 26 ∧ 97 + ((Pl i.toNat) - 97 + a) % 26 ≤ 122 := by omega
      refine j_callS (q := 31) (wr := wM kI kZ x 0 co Rw nw Le Lt sn Cd Kp We mn Bg Sz Td Mp ts nr Fo np Pl Fw) C [.int (iI (Pl i.toNat)), .int (iI (a))] [] (c_M_shift kI kZ x (Pl i.toNat) a (by omega) (by omega)) ml_M_116 mk_M_shift st_M_shift [] [0, 1, 2, 3, 4, 5, 6, 7, 8, 9, 10, 11, 12, 13] [0, 1, 2, 3, 4, 5, 6, 7, 8, 9, 10, 11, 12, 13] rfl (by decide) rfl (by decide) (by decide) (wM kI kZ x 0 co Rw nw Le Lt sn Cd Kp We mn Bg Sz Td Mp ts nr Fo np Pl Fw) rfl (by decide) rfl rfl rfl (Nat.le_of_ble_eq_true rfl) ⟨Nat.le_of_ble_eq_true rfl, Nat.le_of_ble_eq_true rfl⟩ ⟨Nat.le_of_ble_eq_true rfl, Nat.le_of_ble_eq_true rfl⟩ d_M_shifted_28 rfl ?_
      first | (exfalso; omega) | exact j_iret C hr hlk d_M_shifted_31 (congrArg (fun z => some (Value.int (iI z))) (show (if 0 ≤ i ∧ i < np then 97 + (Pl i.toNat - 97 + a) % 26 else -1) = (97 + ((Pl i.toNat) - 97 + a) % 26) from by split <;> first | rfl | omega)) rfl
    · refine j_iconst (q := 18) C d_M_shifted_17 rfl ?_
      refine j_goto C 31 d_M_shifted_18 rfl ?_
      first | (exfalso; omega) | exact j_iret C hr hlk d_M_shifted_31 (congrArg (fun z => some (Value.int (iI z))) (show (if 0 ≤ i ∧ i < np then 97 + (Pl i.toNat - 97 + a) % 26 else -1) = (-1) from by split <;> first | rfl | omega)) rfl
set_option maxRecDepth 100000 in
set_option maxHeartbeats 4000000 in
theorem c_M_clear {l : Launch} {D : va_G} (kI kZ : ClassId) (x : Nat → Nat) (th co : Int) (Rw : Nat → Int) (nw : Int) (Le Lt : Nat → Int) (sn : Int) (Cd Kp We : Nat → Int) (mn : Int) (Bg Sz Td Mp : Nat → Int) (ts nr : Int) (Fo : Nat → Int) (np : Int) (Pl Fw : Nat → Int)  : Dt l D (ty2 kI kZ) y_M_clear w_M_clear { frames := 0, cells := 0, slots := 0, locals := 0 } [.ref (x 0)] (wM kI kZ x th co Rw nw Le Lt sn Cd Kp We mn Bg Sz Td Mp ts nr Fo np Pl Fw) none (wM kI kZ x 0 co Rw nw Le Lt 0 Cd (zrB Kp 0) We mn Bg Sz Td Mp ts 0 Fo 0 Pl Fw) := by
  refine Met.toJ (own := R_M) (QD D none (wM kI kZ x 0 co Rw nw Le Lt 0 Cd (zrB Kp 0) We mn Bg Sz Td Mp ts 0 Fo 0 Pl Fw)) mk_M_clear rfl (Nat.le_of_ble_eq_true rfl) ?_
  intro p e s m args below meth c A C hr hlk hnm
  show JJ p l e { frames := 0, cells := 0, slots := 0, locals := 0 } s m args below meth c D A 2 (MQ below (QD D none (wM kI kZ x 0 co Rw nw Le Lt 0 Cd (zrB Kp 0) We mn Bg Sz Td Mp ts 0 Fo 0 Pl Fw) A) args s 0 0 A) 0 0 0 [(0, .ref (x 0))] [] (wM kI kZ x th co Rw nw Le Lt sn Cd Kp We mn Bg Sz Td Mp ts nr Fo np Pl Fw)
  refine j_aload_n (q := 1) C 0 rfl d_M_clear_0 rfl ?_
  refine j_iconst (q := 2) C d_M_clear_1 rfl ?_
  refine j_put (q := 5) (ty := .int) C i_M rfl t_M t_M_ok n_M 0 rfl 0 (by decide) rfl fl_M_49 rfl (by decide +kernel) rfl rfl (Nat.le_of_ble_eq_true rfl) (wM kI kZ x 0 co Rw nw Le Lt sn Cd Kp We mn Bg Sz Td Mp ts nr Fo np Pl Fw) rfl d_M_clear_2 rfl ?_
  refine j_aload_n (q := 6) C 0 rfl d_M_clear_5 rfl ?_
  refine j_iconst (q := 7) C d_M_clear_6 rfl ?_
  refine j_put (q := 10) (ty := .int) C i_M rfl t_M t_M_ok n_M 0 rfl 6 (by decide) rfl fl_M_74 rfl (by decide +kernel) rfl rfl (Nat.le_of_ble_eq_true rfl) (wM kI kZ x 0 co Rw nw Le Lt 0 Cd Kp We mn Bg Sz Td Mp ts nr Fo np Pl Fw) rfl d_M_clear_7 rfl ?_
  refine j_aload_n (q := 11) C 0 rfl d_M_clear_10 rfl ?_
  refine j_iconst (q := 12) C d_M_clear_11 rfl ?_
  refine j_put (q := 15) (ty := .int) C i_M rfl t_M t_M_ok n_M 0 rfl 18 (by decide) rfl fl_M_113 rfl (by decide +kernel) rfl rfl (Nat.le_of_ble_eq_true rfl) (wM kI kZ x 0 co Rw nw Le Lt 0 Cd Kp We mn Bg Sz Td Mp ts nr Fo 0 Pl Fw) rfl d_M_clear_12 rfl ?_
  refine j_aload_n (q := 16) C 0 rfl d_M_clear_15 rfl ?_
  refine j_iconst (q := 17) C d_M_clear_16 rfl ?_
  refine j_put (q := 20) (ty := .int) C i_M rfl t_M t_M_ok n_M 0 rfl 16 (by decide) rfl fl_M_77 rfl (by decide +kernel) rfl rfl (Nat.le_of_ble_eq_true rfl) (wM kI kZ x 0 co Rw nw Le Lt 0 Cd Kp We mn Bg Sz Td Mp ts 0 Fo 0 Pl Fw) rfl d_M_clear_17 rfl ?_
  refine j_iconst (q := 21) C d_M_clear_20 rfl ?_
  refine j_istore_n (q := 22) C [(0, .ref (x 0)), (1, .int (iI (0)))] rfl (by decide) d_M_clear_21 rfl ?_
  have lp22 : ∀ (N : Nat) (i : Int) (F : Nat → Int), (0 ≤ i ∧ i ≤ 26) → (∀ j : Nat, F j = if (j : Int) < i then 0 else Kp j) → (26 - i).toNat < N → JJ p l e { frames := 0, cells := 0, slots := 0, locals := 0 } s m args below meth c D A 2 (MQ below (QD D none (wM kI kZ x 0 co Rw nw Le Lt 0 Cd (zrB Kp 0) We mn Bg Sz Td Mp ts 0 Fo 0 Pl Fw) A) args s 0 0 A) 0 0 22 [(0, .ref (x 0)), (1, .int (iI (i)))] [] (wM kI kZ x 0 co Rw nw Le Lt 0 Cd F We mn Bg Sz Td Mp ts 0 Fo 0 Pl Fw) := by
    intro N
    induction N with
    | zero =>
      intro i F i0 i1 hN
      omega
    | succ N ih22 =>
      intro i F i0 i1 hN
      refine j_iload_n (q := 23) C 1 rfl d_M_clear_22 rfl ?_
      refine j_bipush (q := 25) C d_M_clear_23 rfl rfl ?_
      refine j_icmp_ge C 41 28 d_M_clear_25 rfl rfl (by omega) (by omega) (fun c1 => ?_) (fun c1 => ?_)
      · exact j_vret C hr hlk d_M_clear_41 (by have z1 : F = zrB Kp 0 := (by funext j; rw [i1 j]; unfold zrB; split <;> split <;> first | rfl | omega); rw [z1])
      · refine j_aload_n (q := 29) C 0 rfl d_M_clear_28 rfl ?_
        refine j_get (q := 32) C i_M rfl 0 rfl 8 (by decide) rfl rfl fl_M_22 d_M_clear_29 rfl ?_
        refine j_iload_n (q := 33) C 1 rfl d_M_clear_32 rfl ?_
        refine j_iconst (q := 34) C d_M_clear_33 rfl ?_
        refine j_iast (q := 35) C 5 0 rfl rfl (by decide) (by omega) (wM kI kZ x 0 co Rw nw Le Lt 0 Cd (uI F i.toNat 0) We mn Bg Sz Td Mp ts 0 Fo 0 Pl Fw) rfl d_M_clear_34 rfl ?_
        refine j_iinc (q := 38) C 1 [(0, .ref (x 0)), (1, .int (iI (i + 1)))] rfl rfl (by decide) d_M_clear_35 rfl ?_
        refine j_goto C 22 d_M_clear_38 rfl ?_
        exact ih22 (i + 1) _ (by omega) (fun j => by unfold uI; rw [i1 j]; split <;> split <;> first | rfl | omega) (by omega)
  exact lp22 27 0 Kp (by omega) (fun j => by rw [if_neg (by omega)]) (by omega)
