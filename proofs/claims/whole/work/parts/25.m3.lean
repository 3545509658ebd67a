set_option maxRecDepth 100000 in
set_option maxHeartbeats 4000000 in
theorem c_M_isAhead {l : Launch} {D : va_G} (kI kZ : ClassId) (x : Nat → Nat) (th co : Int) (Rw : Nat → Int) (nw : Int) (Le Lt : Nat → Int) (sn : Int) (Cd Kp We : Nat → Int) (mn : Int) (Bg Sz Td Mp : Nat → Int) (ts nr : Int) (Fo : Nat → Int) (np : Int) (Pl Fw : Nat → Int) (hMp : ∀ j, 0 ≤ Mp j ∧ Mp j ≤ 122) (hFo : ∀ j, 0 ≤ Fo j ∧ Fo j ≤ 122) (k : Int) (hk : 0 ≤ k ∧ k < 200) : Dt l D (ty2 kI kZ) y_M_isAhead w_M_isAhead { frames := 0, cells := 0, slots := 0, locals := 0 } [.ref (x 0), .int (iI (k))] (wM kI kZ x th co Rw nw Le Lt sn Cd Kp We mn Bg Sz Td Mp ts nr Fo np Pl Fw) (some (.int (iI (bI (ahM Mp Fo k))))) (wM kI kZ x th co Rw nw Le Lt sn Cd Kp We mn Bg Sz Td Mp ts nr Fo np Pl Fw) := by
  refine Met.toJ (own := R_M) (QD D (some (.int (iI (bI (ahM Mp Fo k))))) (wM kI kZ x th co Rw nw Le Lt sn Cd Kp We mn Bg Sz Td Mp ts nr Fo np Pl Fw)) mk_M_isAhead rfl (Nat.le_of_ble_eq_true rfl) ?_
  intro p e s m args below meth c A C hr hlk hnm
  show JJ p l e { frames := 0, cells := 0, slots := 0, locals := 0 } s m args below meth c D A 3 (MQ below (QD D (some (.int (iI (bI (ahM Mp Fo k))))) (wM kI kZ x th co Rw nw Le Lt sn Cd Kp We mn Bg Sz Td Mp ts nr Fo np Pl Fw) A) args s 0 0 A) 0 0 0 [(0, .ref (x 0)), (1, .int (iI (k)))] [] (wM kI kZ x th co Rw nw Le Lt sn Cd Kp We mn Bg Sz Td Mp ts nr Fo np Pl Fw)
  refine j_iconst (q := 1) C d_M_isAhead_0 rfl ?_
  refine j_istore_n (q := 2) C [(0, .ref (x 0)), (1, .int (iI (k))), (2, .int (iI (0)))] rfl (by decide) d_M_isAhead_1 rfl ?_
  have lp2 : ∀ (N : Nat) (i : Int), (0 ≤ i ∧ i ≤ 26) → (∀ m : Int, 0 ≤ m → m < i → (fun n => Mp n.toNat) m = (fun n => Fo (26 * k + n).toNat) m) → (26 - i).toNat < N → JJ p l e { frames := 0, cells := 0, slots := 0, locals := 0 } s m args below meth c D A 3 (MQ below (QD D (some (.int (iI (bI (ahM Mp Fo k))))) (wM kI kZ x th co Rw nw Le Lt sn Cd Kp We mn Bg Sz Td Mp ts nr Fo np Pl Fw) A) args s 0 0 A) 0 0 2 [(0, .ref (x 0)), (1, .int (iI (k))), (2, .int (iI (i)))] [] (wM kI kZ x th co Rw nw Le Lt sn Cd Kp We mn Bg Sz Td Mp ts nr Fo np Pl Fw) := by
    intro N
    induction N with
    | zero =>
      intro i i0 i1 hN
      omega
    | succ N ih2 =>
      intro i i0 i1 hN
      refine j_iload_n (q := 3) C 2 rfl d_M_isAhead_2 rfl ?_
      refine j_bipush (q := 5) C d_M_isAhead_3 rfl rfl ?_
      refine j_icmp_ge C 60 8 d_M_isAhead_5 rfl rfl (by omega) (by omega) (fun c1 => ?_) (fun c1 => ?_)
      · refine j_iconst (q := 61) C d_M_isAhead_60 rfl ?_
        exact j_zret C hr hlk (by omega) d_M_isAhead_61 (congrArg (fun z => some (Value.int (iI z))) (show (bI (ahM Mp Fo k)) = (0) from bI_0 (lx_eq (fun m h1 h2 => i1 m h1 (by omega))))) rfl
      · refine j_aload_n (q := 9) C 0 rfl d_M_isAhead_8 rfl ?_
        refine j_get (q := 12) C i_M rfl 0 rfl 14 (by decide) rfl rfl fl_M_37 d_M_isAhead_9 rfl ?_
        refine j_iload_n (q := 13) C 2 rfl d_M_isAhead_12 rfl ?_
        refine j_iald (q := 14) C 10 0 rfl rfl (by decide) (by omega) d_M_isAhead_13 rfl ?_
        have h13 := hMp i.toNat
        refine j_aload_n (q := 15) C 0 rfl d_M_isAhead_14 rfl ?_
        refine j_get (q := 18) C i_M rfl 0 rfl 17 (by decide) rfl rfl fl_M_40 d_M_isAhead_15 rfl ?_
        refine j_bipush (q := 20) C d_M_isAhead_18 rfl rfl ?_
        refine j_iload_n (q := 21) C 1 rfl d_M_isAhead_20 rfl ?_
        refine j_imul (q := 22) C d_M_isAhead_21 rfl ?_
        refine j_iload_n (q := 23) C 2 rfl d_M_isAhead_22 rfl ?_
        refine j_iadd (q := 24) C d_M_isAhead_23 rfl ?_
        refine j_iald (q := 25) C 11 0 rfl rfl (by decide) (by omega) d_M_isAhead_24 rfl ?_
        have h24 := hFo ((26 * k) + i).toNat
        refine j_icmp_eq C 54 28 d_M_isAhead_25 rfl rfl (by omega) (by omega) (fun c2 => ?_) (fun c2 => ?_)
        · refine j_iinc (q := 57) C 2 [(0, .ref (x 0)), (1, .int (iI (k))), (2, .int (iI (i + 1)))] rfl rfl (by decide) d_M_isAhead_54 rfl ?_
          refine j_goto C 2 d_M_isAhead_57 rfl ?_
          exact ih2 (i + 1) (by omega) (fun m h1 h2 => by rcases (show m < i ∨ m = i by omega) with h | h; exact i1 m h1 h; rw [h]; show Mp i.toNat = Fo (26 * k + i).toNat; omega) (by omega)
        · refine j_aload_n (q := 29) C 0 rfl d_M_isAhead_28 rfl ?_
          refine j_get (q := 32) C i_M rfl 0 rfl 14 (by decide) rfl rfl fl_M_37 d_M_isAhead_29 rfl ?_
          refine j_iload_n (q := 33) C 2 rfl d_M_isAhead_32 rfl ?_
          refine j_iald (q := 34) C 10 0 rfl rfl (by decide) (by omega) d_M_isAhead_33 rfl ?_
          have h33 := hMp i.toNat
          refine j_aload_n (q := 35) C 0 rfl d_M_isAhead_34 rfl ?_
          refine j_get (q := 38) C i_M rfl 0 rfl 17 (by decide) rfl rfl fl_M_40 d_M_isAhead_35 rfl ?_
          refine j_bipush (q := 40) C d_M_isAhead_38 rfl rfl ?_
          refine j_iload_n (q := 41) C 1 rfl d_M_isAhead_40 rfl ?_
          refine j_imul (q := 42) C d_M_isAhead_41 rfl ?_
          refine j_iload_n (q := 43) C 2 rfl d_M_isAhead_42 rfl ?_
          refine j_iadd (q := 44) C d_M_isAhead_43 rfl ?_
          refine j_iald (q := 45) C 11 0 rfl rfl (by decide) (by omega) d_M_isAhead_44 rfl ?_
          have h44 := hFo ((26 * k) + i).toNat
          refine j_icmp_ge C 52 48 d_M_isAhead_45 rfl rfl (by omega) (by omega) (fun c3 => ?_) (fun c3 => ?_)
          · refine j_iconst (q := 53) C d_M_isAhead_52 rfl ?_
            first | (exfalso; omega) | exact j_zret C hr hlk (by omega) d_M_isAhead_53 (congrArg (fun z => some (Value.int (iI z))) (show (bI (ahM Mp Fo k)) = (0) from by first | exact bI_1 (lx_lt (f := fun n => Mp n.toNat) (g := fun n => Fo (26 * k + n).toNat) (i := i) (by omega) i1 (show Mp i.toNat < Fo (26 * k + i).toNat from by omega)) | exact bI_0 (lx_ge (f := fun n => Mp n.toNat) (g := fun n => Fo (26 * k + n).toNat) (i := i) (by omega) i1 (show Fo (26 * k + i).toNat < Mp i.toNat from by omega)))) rfl
          · refine j_iconst (q := 49) C d_M_isAhead_48 rfl ?_
            refine j_goto C 53 d_M_isAhead_49 rfl ?_
            first | (exfalso; omega) | exact j_zret C hr hlk (by omega) d_M_isAhead_53 (congrArg (fun z => some (Value.int (iI z))) (show (bI (ahM Mp Fo k)) = (1) from by first | exact bI_1 (lx_lt (f := fun n => Mp n.toNat) (g := fun n => Fo (26 * k + n).toNat) (i := i) (by omega) i1 (show Mp i.toNat < Fo (26 * k + i).toNat from by omega)) | exact bI_0 (lx_ge (f := fun n => Mp n.toNat) (g := fun n => Fo (26 * k + n).toNat) (i := i) (by omega) i1 (show Fo (26 * k + i).toNat < Mp i.toNat from by omega)))) rfl
  exact lp2 27 0 (by omega) (fun k h1 h2 => by omega) (by omega)
set_option maxRecDepth 100000 in
set_option maxHeartbeats 4000000 in
theorem c_M_enterReading {l : Launch} {D : va_G} (kI kZ : ClassId) (x : Nat → Nat) (th co : Int) (Rw : Nat → Int) (nw : Int) (Le Lt : Nat → Int) (sn : Int) (Cd Kp We : Nat → Int) (mn : Int) (Bg Sz Td Mp : Nat → Int) (ts nr : Int) (Fo : Nat → Int) (np : Int) (Pl Fw : Nat → Int) (hMp : ∀ j, 0 ≤ Mp j ∧ Mp j ≤ 122) (hFo : ∀ j, 0 ≤ Fo j ∧ Fo j ≤ 122) (hnr : 0 ≤ nr ∧ nr ≤ 200) : Dt l D (ty2 kI kZ) y_M_enterReading w_M_enterReading { frames := 1, cells := 0, slots := 0, locals := 22 } [.ref (x 0)] (wM kI kZ x th co Rw nw Le Lt sn Cd Kp We mn Bg Sz Td Mp ts nr Fo np Pl Fw) none (wM kI kZ x th co Rw nw Le Lt sn Cd Kp We mn Bg Sz Td Mp ts (enM Mp Fo nr) (erM Mp Fo nr) np Pl Fw) := by
  refine Met.toJ (own := R_M) (QD D none (wM kI kZ x th co Rw nw Le Lt sn Cd Kp We mn Bg Sz Td Mp ts (enM Mp Fo nr) (erM Mp Fo nr) np Pl Fw)) mk_M_enterReading rfl (Nat.le_of_ble_eq_true rfl) ?_
  intro p e s m args below meth c A C hr hlk hnm
  show JJ p l e { frames := 1, cells := 0, slots := 0, locals := 22 } s m args below meth c D A 4 (MQ below (QD D none (wM kI kZ x th co Rw nw Le Lt sn Cd Kp We mn Bg Sz Td Mp ts (enM Mp Fo nr) (erM Mp Fo nr) np Pl Fw) A) args s 0 0 A) 0 0 0 [(0, .ref (x 0))] [] (wM kI kZ x th co Rw nw Le Lt sn Cd Kp We mn Bg Sz Td Mp ts nr Fo np Pl Fw)
  refine j_aload_n (q := 1) C 0 rfl d_M_enterReading_0 rfl ?_
  refine j_get (q := 4) C i_M rfl 0 rfl 16 (by decide) rfl rfl fl_M_77 d_M_enterReading_1 rfl ?_
  refine j_istore_n (q := 5) C [(0, .ref (x 0)), (1, .int (iI (nr)))] rfl (by decide) d_M_enterReading_4 rfl ?_
  have lp5 : ∀ (N : Nat) (k : Int), (0 ≤ k ∧ k ≤ nr) → (ekF Mp Fo nr.toNat = ekF Mp Fo k.toNat) → k.toNat < N → JJ p l e { frames := 1, cells := 0, slots := 0, locals := 22 } s m args below meth c D A 4 (MQ below (QD D none (wM kI kZ x th co Rw nw Le Lt sn Cd Kp We mn Bg Sz Td Mp ts (enM Mp Fo nr) (erM Mp Fo nr) np Pl Fw) A) args s 0 0 A) 0 0 5 [(0, .ref (x 0)), (1, .int (iI (k)))] [] (wM kI kZ x th co Rw nw Le Lt sn Cd Kp We mn Bg Sz Td Mp ts nr Fo np Pl Fw) := by
    intro N
    induction N with
    | zero =>
      intro k i0 i1 hN
      omega
    | succ N ih5 =>
      intro k i0 i1 hN
      refine j_iload_n (q := 6) C 1 rfl d_M_enterReading_5 rfl ?_
      refine j_if_le C 25 9 d_M_enterReading_6 rfl rfl (by omega) (fun c1 => ?_) (fun c1 => ?_)
      · have kk : ekM Mp Fo nr = k := by unfold ekM; rw [i1, show k = 0 from by omega]; rfl
        refine j_iload_n (q := 26) C 1 rfl d_M_enterReading_25 rfl ?_
        refine j_sipush (q := 29) C d_M_enterReading_26 rfl rfl ?_
        refine j_icmp_ne C 33 32 d_M_enterReading_29 rfl rfl (by omega) (by omega) (fun c2 => ?_) (fun c2 => ?_)
        · refine j_aload_n (q := 34) C 0 rfl d_M_enterReading_33 rfl ?_
          refine j_get (q := 37) C i_M rfl 0 rfl 16 (by decide) rfl rfl fl_M_77 d_M_enterReading_34 rfl ?_
          refine j_sipush (q := 40) C d_M_enterReading_37 rfl rfl ?_
          refine j_icmp_ge C 50 43 d_M_enterReading_40 rfl rfl (by omega) (by omega) (fun c3 => ?_) (fun c3 => ?_)
          · refine j_sipush (q := 53) C d_M_enterReading_50 rfl rfl ?_
            refine j_istore_n (q := 54) C [(0, .ref (x 0)), (1, .int (iI (k))), (2, .int (iI (199)))] rfl (by decide) d_M_enterReading_53 rfl ?_
            refine j_bipush (q := 56) C d_M_enterReading_54 rfl rfl ?_
            refine j_iload_n (q := 57) C 2 rfl d_M_enterReading_56 rfl ?_
            refine j_iconst (q := 58) C d_M_enterReading_57 rfl ?_
            refine j_iadd (q := 59) C d_M_enterReading_58 rfl ?_
            refine j_imul (q := 60) C d_M_enterReading_59 rfl ?_
            refine j_iconst (q := 61) C d_M_enterReading_60 rfl ?_
            refine j_isub (q := 62) C d_M_enterReading_61 rfl ?_
            refine j_istore_n (q := 63) C [(0, .ref (x 0)), (1, .int (iI (k))), (2, .int (iI (199))), (3, .int (iI ((26 * (199 + 1)) - 1)))] rfl (by decide) d_M_enterReading_62 rfl ?_
            have lp63 : ∀ (N : Nat) (j : Int) (F : Nat → Int), (26 * (k + 1) - 1 ≤ j ∧ j ≤ 26 * (199 + 1) - 1) → (∀ t : Nat, F t = if j < (t : Int) ∧ (t : Int) < 26 * (199 + 1) then Fo ((t : Int) - 26).toNat else Fo t) → (j + 1).toNat < N → JJ p l e { frames := 1, cells := 0, slots := 0, locals := 22 } s m args below meth c D A 4 (MQ below (QD D none (wM kI kZ x th co Rw nw Le Lt sn Cd Kp We mn Bg Sz Td Mp ts (enM Mp Fo nr) (erM Mp Fo nr) np Pl Fw) A) args s 0 0 A) 0 0 63 [(0, .ref (x 0)), (1, .int (iI (k))), (2, .int (iI (199))), (3, .int (iI (j)))] [] (wM kI kZ x th co Rw nw Le Lt sn Cd Kp We mn Bg Sz Td Mp ts nr F np Pl Fw) := by
              intro N
              induction N with
              | zero =>
                intro j F j0 j1 hN
                omega
              | succ N ih63 =>
                intro j F j0 j1 hN
                refine j_iload_n (q := 64) C 3 rfl d_M_enterReading_63 rfl ?_
                refine j_bipush (q := 66) C d_M_enterReading_64 rfl rfl ?_
                refine j_iload_n (q := 67) C 1 rfl d_M_enterReading_66 rfl ?_
                refine j_iconst (q := 68) C d_M_enterReading_67 rfl ?_
                refine j_iadd (q := 69) C d_M_enterReading_68 rfl ?_
                refine j_imul (q := 70) C d_M_enterReading_69 rfl ?_
                refine j_icmp_lt C 94 73 d_M_enterReading_70 rfl rfl (by omega) (by omega) (fun c4 => ?_) (fun c4 => ?_)
                · obtain rfl : F = shF Fo k 199 := by funext t; rw [j1 t]; unfold shF; split <;> split <;> first | rfl | (exfalso; omega)
                  refine j_iconst (q := 95) C d_M_enterReading_94 rfl ?_
                  refine j_istore_n (q := 96) C [(0, .ref (x 0)), (1, .int (iI (k))), (2, .int (iI (199))), (3, .int (iI (0)))] rfl (by decide) d_M_enterReading_95 rfl ?_
                  have lp96 : ∀ (N : Nat) (n : Int) (F2 : Nat → Int), (0 ≤ n ∧ n ≤ 26) → (∀ t : Nat, F2 t = if 26 * k ≤ (t : Int) ∧ (t : Int) < 26 * k + n then Mp ((t : Int) - 26 * k).toNat else shF Fo k 199 t) → (26 - n).toNat < N → JJ p l e { frames := 1, cells := 0, slots := 0, locals := 22 } s m args below meth c D A 4 (MQ below (QD D none (wM kI kZ x th co Rw nw Le Lt sn Cd Kp We mn Bg Sz Td Mp ts (enM Mp Fo nr) (erM Mp Fo nr) np Pl Fw) A) args s 0 0 A) 0 0 96 [(0, .ref (x 0)), (1, .int (iI (k))), (2, .int (iI (199))), (3, .int (iI (n)))] [] (wM kI kZ x th co Rw nw Le Lt sn Cd Kp We mn Bg Sz Td Mp ts nr F2 np Pl Fw) := by
                    intro N
                    induction N with
                    | zero =>
                      intro n F2 m0 m1 hN
                      omega
                    | succ N ih96 =>
                      intro n F2 m0 m1 hN
                      refine j_iload_n (q := 97) C 3 rfl d_M_enterReading_96 rfl ?_
                      refine j_bipush (q := 99) C d_M_enterReading_97 rfl rfl ?_
                      refine j_icmp_ge C 125 102 d_M_enterReading_99 rfl rfl (by omega) (by omega) (fun c5 => ?_) (fun c5 => ?_)
                      · have la0 : laR nr = 199 := by unfold laR; split <;> omega
                        have f125 : F2 = erM Mp Fo nr := by funext t; rw [m1 t, show erM Mp Fo nr t = (if 26 * ekM Mp Fo nr ≤ (t : Int) ∧ (t : Int) < 26 * ekM Mp Fo nr + 26 then Mp ((t : Int) - 26 * ekM Mp Fo nr).toNat else shF Fo (ekM Mp Fo nr) (laR nr) t) from congrFun (if_neg (by rw [kk]; omega)) t, kk, la0]; split <;> split <;> first | rfl | (exfalso; omega)
                        refine j_aload_n (q := 126) C 0 rfl d_M_enterReading_125 rfl ?_
                        refine j_get (q := 129) C i_M rfl 0 rfl 16 (by decide) rfl rfl fl_M_77 d_M_enterReading_126 rfl ?_
                        refine j_sipush (q := 132) C d_M_enterReading_129 rfl rfl ?_
                        refine j_icmp_ge C 145 135 d_M_enterReading_132 rfl rfl (by omega) (by omega) (fun c6 => ?_) (fun c6 => ?_)
                        · first | (exfalso; omega) | exact j_vret C hr hlk d_M_enterReading_145 (by rw [f125, show enM Mp Fo nr = nr from (by unfold enM; rw [if_neg (by rw [kk]; omega)]; split <;> omega)])
                        · refine j_aload_n (q := 136) C 0 rfl d_M_enterReading_135 rfl ?_
                          refine j_dup (q := 137) C rfl d_M_enterReading_136 rfl ?_
                          refine j_get (q := 140) C i_M rfl 0 rfl 16 (by decide) rfl rfl fl_M_77 d_M_enterReading_137 rfl ?_
                          refine j_iconst (q := 141) C d_M_enterReading_140 rfl ?_
                          refine j_iadd (q := 142) C d_M_enterReading_141 rfl ?_
                          refine j_put (q := 145) (ty := .int) C i_M rfl t_M t_M_ok n_M 0 rfl 16 (by decide) rfl fl_M_77 rfl (by decide +kernel) rfl rfl (Nat.le_of_ble_eq_true rfl) (wM kI kZ x th co Rw nw Le Lt sn Cd Kp We mn Bg Sz Td Mp ts (nr + 1) F2 np Pl Fw) rfl d_M_enterReading_142 rfl ?_
                          first | (exfalso; omega) | exact j_vret C hr hlk d_M_enterReading_145 (by rw [f125, show enM Mp Fo nr = nr + 1 from (by unfold enM; rw [if_neg (by rw [kk]; omega)]; split <;> omega)])
                      · refine j_aload_n (q := 103) C 0 rfl d_M_enterReading_102 rfl ?_
                        refine j_get (q := 106) C i_M rfl 0 rfl 17 (by decide) rfl rfl fl_M_40 d_M_enterReading_103 rfl ?_
                        refine j_bipush (q := 108) C d_M_enterReading_106 rfl rfl ?_
                        refine j_iload_n (q := 109) C 1 rfl d_M_enterReading_108 rfl ?_
                        refine j_imul (q := 110) C d_M_enterReading_109 rfl ?_
                        refine j_iload_n (q := 111) C 3 rfl d_M_enterReading_110 rfl ?_
                        refine j_iadd (q := 112) C d_M_enterReading_111 rfl ?_
                        refine j_aload_n (q := 113) C 0 rfl d_M_enterReading_112 rfl ?_
                        refine j_get (q := 116) C i_M rfl 0 rfl 14 (by decide) rfl rfl fl_M_37 d_M_enterReading_113 rfl ?_
                        refine j_iload_n (q := 117) C 3 rfl d_M_enterReading_116 rfl ?_
                        refine j_iald (q := 118) C 10 0 rfl rfl (by decide) (by omega) d_M_enterReading_117 rfl ?_
                        have h117 := hMp n.toNat
                        refine j_iast (q := 119) C 11 0 rfl rfl (by decide) (by omega) (wM kI kZ x th co Rw nw Le Lt sn Cd Kp We mn Bg Sz Td Mp ts nr (uI F2 ((26 * k) + n).toNat (Mp n.toNat)) np Pl Fw) rfl d_M_enterReading_118 rfl ?_
                        refine j_iinc (q := 122) C 3 [(0, .ref (x 0)), (1, .int (iI (k))), (2, .int (iI (199))), (3, .int (iI (n + 1)))] rfl rfl (by decide) d_M_enterReading_119 rfl ?_
                        refine j_goto C 96 d_M_enterReading_122 rfl ?_
                        exact ih96 (n + 1) _ (by omega) (fun t => by unfold uI; rw [m1 t]; by_cases c : t = (26 * k + n).toNat; rw [if_pos c, if_pos (by omega)]; congr 1; omega; rw [if_neg c]; split <;> split <;> first | rfl | (exfalso; omega)) (by omega)
                  exact lp96 27 0 _ (by omega) (fun t => by rw [if_neg (by omega)]) (by omega)
                · refine j_aload_n (q := 74) C 0 rfl d_M_enterReading_73 rfl ?_
                  refine j_get (q := 77) C i_M rfl 0 rfl 17 (by decide) rfl rfl fl_M_40 d_M_enterReading_74 rfl ?_
                  refine j_iload_n (q := 78) C 3 rfl d_M_enterReading_77 rfl ?_
                  refine j_aload_n (q := 79) C 0 rfl d_M_enterReading_78 rfl ?_
                  refine j_get (q := 82) C i_M rfl 0 rfl 17 (by decide) rfl rfl fl_M_40 d_M_enterReading_79 rfl ?_
                  refine j_iload_n (q := 83) C 3 rfl d_M_enterReading_82 rfl ?_
                  refine j_bipush (q := 85) C d_M_enterReading_83 rfl rfl ?_
                  refine j_isub (q := 86) C d_M_enterReading_85 rfl ?_
                  refine j_iald (q := 87) C 11 0 rfl rfl (by decide) (by omega) d_M_enterReading_86 rfl ?_
                  have h86 := hFo (j - 26).toNat
                  refine j_iast (q := 88) C 11 0 rfl rfl (by decide) (by omega) (wM kI kZ x th co Rw nw Le Lt sn Cd Kp We mn Bg Sz Td Mp ts nr (uI F j.toNat (F (j - 26).toNat)) np Pl Fw) rfl d_M_enterReading_87 rfl ?_
                  refine j_iinc (q := 91) C 3 [(0, .ref (x 0)), (1, .int (iI (k))), (2, .int (iI (199))), (3, .int (iI (j + (-1))))] rfl rfl (by decide) d_M_enterReading_88 rfl ?_
                  refine j_goto C 63 d_M_enterReading_91 rfl ?_
                  rw [show j + -1 = j - 1 from by omega]
                  exact ih63 (j - 1) _ (by omega) (fun t => by unfold uI; rw [j1 t, j1 (j - 26).toNat]; by_cases c : t = j.toNat; rw [if_pos c, if_neg (by omega), if_pos (by omega)]; congr 1; omega; rw [if_neg c]; split <;> split <;> first | rfl | (exfalso; omega)) (by omega)
            exact lp63 (5300) _ Fo (by omega) (fun t => by rw [if_neg (by omega)]) (by omega)
          · refine j_aload_n (q := 44) C 0 rfl d_M_enterReading_43 rfl ?_
            refine j_get (q := 47) C i_M rfl 0 rfl 16 (by decide) rfl rfl fl_M_77 d_M_enterReading_44 rfl ?_
            refine j_goto C 53 d_M_enterReading_47 rfl ?_
            refine j_istore_n (q := 54) C [(0, .ref (x 0)), (1, .int (iI (k))), (2, .int (iI (nr)))] rfl (by decide) d_M_enterReading_53 rfl ?_
            refine j_bipush (q := 56) C d_M_enterReading_54 rfl rfl ?_
            refine j_iload_n (q := 57) C 2 rfl d_M_enterReading_56 rfl ?_
            refine j_iconst (q := 58) C d_M_enterReading_57 rfl ?_
            refine j_iadd (q := 59) C d_M_enterReading_58 rfl ?_
            refine j_imul (q := 60) C d_M_enterReading_59 rfl ?_
            refine j_iconst (q := 61) C d_M_enterReading_60 rfl ?_
            refine j_isub (q := 62) C d_M_enterReading_61 rfl ?_
            refine j_istore_n (q := 63) C [(0, .ref (x 0)), (1, .int (iI (k))), (2, .int (iI (nr))), (3, .int (iI ((26 * (nr + 1)) - 1)))] rfl (by decide) d_M_enterReading_62 rfl ?_
            have lp63 : ∀ (N : Nat) (j : Int) (F : Nat → Int), (26 * (k + 1) - 1 ≤ j ∧ j ≤ 26 * (nr + 1) - 1) → (∀ t : Nat, F t = if j < (t : Int) ∧ (t : Int) < 26 * (nr + 1) then Fo ((t : Int) - 26).toNat else Fo t) → (j + 1).toNat < N → JJ p l e { frames := 1, cells := 0, slots := 0, locals := 22 } s m args below meth c D A 4 (MQ below (QD D none (wM kI kZ x th co Rw nw Le Lt sn Cd Kp We mn Bg Sz Td Mp ts (enM Mp Fo nr) (erM Mp Fo nr) np Pl Fw) A) args s 0 0 A) 0 0 63 [(0, .ref (x 0)), (1, .int (iI (k))), (2, .int (iI (nr))), (3, .int (iI (j)))] [] (wM kI kZ x th co Rw nw Le Lt sn Cd Kp We mn Bg Sz Td Mp ts nr F np Pl Fw) := by
              intro N
              induction N with
              | zero =>
                intro j F j0 j1 hN
                omega
              | succ N ih63 =>
                intro j F j0 j1 hN
                refine j_iload_n (q := 64) C 3 rfl d_M_enterReading_63 rfl ?_
                refine j_bipush (q := 66) C d_M_enterReading_64 rfl rfl ?_
                refine j_iload_n (q := 67) C 1 rfl d_M_enterReading_66 rfl ?_
                refine j_iconst (q := 68) C d_M_enterReading_67 rfl ?_
                refine j_iadd (q := 69) C d_M_enterReading_68 rfl ?_
                refine j_imul (q := 70) C d_M_enterReading_69 rfl ?_
                refine j_icmp_lt C 94 73 d_M_enterReading_70 rfl rfl (by omega) (by omega) (fun c7 => ?_) (fun c7 => ?_)
                · obtain rfl : F = shF Fo k nr := by funext t; rw [j1 t]; unfold shF; split <;> split <;> first | rfl | (exfalso; omega)
                  refine j_iconst (q := 95) C d_M_enterReading_94 rfl ?_
                  refine j_istore_n (q := 96) C [(0, .ref (x 0)), (1, .int (iI (k))), (2, .int (iI (nr))), (3, .int (iI (0)))] rfl (by decide) d_M_enterReading_95 rfl ?_
                  have lp96 : ∀ (N : Nat) (n : Int) (F2 : Nat → Int), (0 ≤ n ∧ n ≤ 26) → (∀ t : Nat, F2 t = if 26 * k ≤ (t : Int) ∧ (t : Int) < 26 * k + n then Mp ((t : Int) - 26 * k).toNat else shF Fo k nr t) → (26 - n).toNat < N → JJ p l e { frames := 1, cells := 0, slots := 0, locals := 22 } s m args below meth c D A 4 (MQ below (QD D none (wM kI kZ x th co Rw nw Le Lt sn Cd Kp We mn Bg Sz Td Mp ts (enM Mp Fo nr) (erM Mp Fo nr) np Pl Fw) A) args s 0 0 A) 0 0 96 [(0, .ref (x 0)), (1, .int (iI (k))), (2, .int (iI (nr))), (3, .int (iI (n)))] [] (wM kI kZ x th co Rw nw Le Lt sn Cd Kp We mn Bg Sz Td Mp ts nr F2 np Pl Fw) := by
                    intro N
                    induction N with
                    | zero =>
                      intro n F2 m0 m1 hN
                      omega
                    | succ N ih96 =>
                      intro n F2 m0 m1 hN
                      refine j_iload_n (q := 97) C 3 rfl d_M_enterReading_96 rfl ?_
                      refine j_bipush (q := 99) C d_M_enterReading_97 rfl rfl ?_
                      refine j_icmp_ge C 125 102 d_M_enterReading_99 rfl rfl (by omega) (by omega) (fun c8 => ?_) (fun c8 => ?_)
                      · have la0 : laR nr = nr := by unfold laR; split <;> omega
                        have f125 : F2 = erM Mp Fo nr := by funext t; rw [m1 t, show erM Mp Fo nr t = (if 26 * ekM Mp Fo nr ≤ (t : Int) ∧ (t : Int) < 26 * ekM Mp Fo nr + 26 then Mp ((t : Int) - 26 * ekM Mp Fo nr).toNat else shF Fo (ekM Mp Fo nr) (laR nr) t) from congrFun (if_neg (by rw [kk]; omega)) t, kk, la0]; split <;> split <;> first | rfl | (exfalso; omega)
                        refine j_aload_n (q := 126) C 0 rfl d_M_enterReading_125 rfl ?_
                        refine j_get (q := 129) C i_M rfl 0 rfl 16 (by decide) rfl rfl fl_M_77 d_M_enterReading_126 rfl ?_
                        refine j_sipush (q := 132) C d_M_enterReading_129 rfl rfl ?_
                        refine j_icmp_ge C 145 135 d_M_enterReading_132 rfl rfl (by omega) (by omega) (fun c9 => ?_) (fun c9 => ?_)
                        · first | (exfalso; omega) | exact j_vret C hr hlk d_M_enterReading_145 (by rw [f125, show enM Mp Fo nr = nr from (by unfold enM; rw [if_neg (by rw [kk]; omega)]; split <;> omega)])
                        · refine j_aload_n (q := 136) C 0 rfl d_M_enterReading_135 rfl ?_
                          refine j_dup (q := 137) C rfl d_M_enterReading_136 rfl ?_
                          refine j_get (q := 140) C i_M rfl 0 rfl 16 (by decide) rfl rfl fl_M_77 d_M_enterReading_137 rfl ?_
                          refine j_iconst (q := 141) C d_M_enterReading_140 rfl ?_
                          refine j_iadd (q := 142) C d_M_enterReading_141 rfl ?_
                          refine j_put (q := 145) (ty := .int) C i_M rfl t_M t_M_ok n_M 0 rfl 16 (by decide) rfl fl_M_77 rfl (by decide +kernel) rfl rfl (Nat.le_of_ble_eq_true rfl) (wM kI kZ x th co Rw nw Le Lt sn Cd Kp We mn Bg Sz Td Mp ts (nr + 1) F2 np Pl Fw) rfl d_M_enterReading_142 rfl ?_
                          first | (exfalso; omega) | exact j_vret C hr hlk d_M_enterReading_145 (by rw [f125, show enM Mp Fo nr = nr + 1 from (by unfold enM; rw [if_neg (by rw [kk]; omega)]; split <;> omega)])
                      · refine j_aload_n (q := 103) C 0 rfl d_M_enterReading_102 rfl ?_
                        refine j_get (q := 106) C i_M rfl 0 rfl 17 (by decide) rfl rfl fl_M_40 d_M_enterReading_103 rfl ?_
                        refine j_bipush (q := 108) C d_M_enterReading_106 rfl rfl ?_
                        refine j_iload_n (q := 109) C 1 rfl d_M_enterReading_108 rfl ?_
                        refine j_imul (q := 110) C d_M_enterReading_109 rfl ?_
                        refine j_iload_n (q := 111) C 3 rfl d_M_enterReading_110 rfl ?_
                        refine j_iadd (q := 112) C d_M_enterReading_111 rfl ?_
                        refine j_aload_n (q := 113) C 0 rfl d_M_enterReading_112 rfl ?_
                        refine j_get (q := 116) C i_M rfl 0 rfl 14 (by decide) rfl rfl fl_M_37 d_M_enterReading_113 rfl ?_
                        refine j_iload_n (q := 117) C 3 rfl d_M_enterReading_116 rfl ?_
                        refine j_iald (q := 118) C 10 0 rfl rfl (by decide) (by omega) d_M_enterReading_117 rfl ?_
                        have h117 := hMp n.toNat
                        refine j_iast (q := 119) C 11 0 rfl rfl (by decide) (by omega) (wM kI kZ x th co Rw nw Le Lt sn Cd Kp We mn Bg Sz Td Mp ts nr (uI F2 ((26 * k) + n).toNat (Mp n.toNat)) np Pl Fw) rfl d_M_enterReading_118 rfl ?_
                        refine j_iinc (q := 122) C 3 [(0, .ref (x 0)), (1, .int (iI (k))), (2, .int (iI (nr))), (3, .int (iI (n + 1)))] rfl rfl (by decide) d_M_enterReading_119 rfl ?_
                        refine j_goto C 96 d_M_enterReading_122 rfl ?_
                        exact ih96 (n + 1) _ (by omega) (fun t => by unfold uI; rw [m1 t]; by_cases c : t = (26 * k + n).toNat; rw [if_pos c, if_pos (by omega)]; congr 1; omega; rw [if_neg c]; split <;> split <;> first | rfl | (exfalso; omega)) (by omega)
                  exact lp96 27 0 _ (by omega) (fun t => by rw [if_neg (by omega)]) (by omega)
                · refine j_aload_n (q := 74) C 0 rfl d_M_enterReading_73 rfl ?_
                  refine j_get (q := 77) C i_M rfl 0 rfl 17 (by decide) rfl rfl fl_M_40 d_M_enterReading_74 rfl ?_
                  refine j_iload_n (q := 78) C 3 rfl d_M_enterReading_77 rfl ?_
                  refine j_aload_n (q := 79) C 0 rfl d_M_enterReading_78 rfl ?_
                  refine j_get (q := 82) C i_M rfl 0 rfl 17 (by decide) rfl rfl fl_M_40 d_M_enterReading_79 rfl ?_
                  refine j_iload_n (q := 83) C 3 rfl d_M_enterReading_82 rfl ?_
                  refine j_bipush (q := 85) C d_M_enterReading_83 rfl rfl ?_
                  refine j_isub (q := 86) C d_M_enterReading_85 rfl ?_
                  refine j_iald (q := 87) C 11 0 rfl rfl (by decide) (by omega) d_M_enterReading_86 rfl ?_
                  have h86 := hFo (j - 26).toNat
                  refine j_iast (q := 88) C 11 0 rfl rfl (by decide) (by omega) (wM kI kZ x th co Rw nw Le Lt sn Cd Kp We mn Bg Sz Td Mp ts nr (uI F j.toNat (F (j - 26).toNat)) np Pl Fw) rfl d_M_enterReading_87 rfl ?_
                  refine j_iinc (q := 91) C 3 [(0, .ref (x 0)), (1, .int (iI (k))), (2, .int (iI (nr))), (3, .int (iI (j + (-1))))] rfl rfl (by decide) d_M_enterReading_88 rfl ?_
                  refine j_goto C 63 d_M_enterReading_91 rfl ?_
                  rw [show j + -1 = j - 1 from by omega]
                  exact ih63 (j - 1) _ (by omega) (fun t => by unfold uI; rw [j1 t, j1 (j - 26).toNat]; by_cases c : t = j.toNat; rw [if_pos c, if_neg (by omega), if_pos (by omega)]; congr 1; omega; rw [if_neg c]; split <;> split <;> first | rfl | (exfalso; omega)) (by omega)
            exact lp63 (5300) _ Fo (by omega) (fun t => by rw [if_neg (by omega)]) (by omega)
        · first | (exfalso; omega) | exact j_vret C hr hlk d_M_enterReading_32 (by rw [show erM Mp Fo nr = Fo from if_pos (by rw [kk]; omega), show enM Mp Fo nr = nr from if_pos (by rw [kk]; omega)])
      · refine j_aload_n (q := 10) C 0 rfl d_M_enterReading_9 rfl ?_
        refine j_iload_n (q := 11) C 1 rfl d_M_enterReading_10 rfl ?_
        refine j_iconst (q := 12) C d_M_enterReading_11 rfl ?_
        refine j_isub (q := 13) C d_M_enterReading_12 rfl ?_
        have e13 := bI_r (ahM Mp Fo (k - 1))
        refine j_callV (q := 16) (wr := []) C [.int (iI (k - 1))] [] (c_M_isAhead kI kZ x th co Rw nw Le Lt sn Cd Kp We mn Bg Sz Td Mp ts nr Fo np Pl Fw hMp hFo (k - 1) (by omega)) ml_M_93 mk_M_isAhead in_M_isAhead se_M_isAhead rfl rfl rfl [0, 1, 2, 3, 4, 5, 6, 7, 8, 9, 10, 11, 12, 13] [] [0, 1, 2, 3, 4, 5, 6, 7, 8, 9, 10, 11, 12, 13] rfl (by decide) rfl (by decide) (by decide) (wM kI kZ x th co Rw nw Le Lt sn Cd Kp We mn Bg Sz Td Mp ts nr Fo np Pl Fw) rfl (by decide) rfl rfl rfl (Nat.le_of_ble_eq_true rfl) ⟨Nat.le_of_ble_eq_true rfl, Nat.le_of_ble_eq_true rfl⟩ ⟨Nat.le_of_ble_eq_true rfl, Nat.le_of_ble_eq_true rfl⟩ d_M_enterReading_13 rfl ?_
        refine j_if_eq C 25 19 d_M_enterReading_16 rfl rfl (by omega) (fun c10 => ?_) (fun c10 => ?_)
        · have c10 := bI_z c10
          have kk : ekM Mp Fo nr = k := by unfold ekM; rw [i1, ekF_s _ _ (by omega), ifP_f c10]
          refine j_iload_n (q := 26) C 1 rfl d_M_enterReading_25 rfl ?_
          refine j_sipush (q := 29) C d_M_enterReading_26 rfl rfl ?_
          refine j_icmp_ne C 33 32 d_M_enterReading_29 rfl rfl (by omega) (by omega) (fun c11 => ?_) (fun c11 => ?_)
          · refine j_aload_n (q := 34) C 0 rfl d_M_enterReading_33 rfl ?_
            refine j_get (q := 37) C i_M rfl 0 rfl 16 (by decide) rfl rfl fl_M_77 d_M_enterReading_34 rfl ?_
            refine j_sipush (q := 40) C d_M_enterReading_37 rfl rfl ?_
            refine j_icmp_ge C 50 43 d_M_enterReading_40 rfl rfl (by omega) (by omega) (fun c12 => ?_) (fun c12 => ?_)
            · refine j_sipush (q := 53) C d_M_enterReading_50 rfl rfl ?_
              refine j_istore_n (q := 54) C [(0, .ref (x 0)), (1, .int (iI (k))), (2, .int (iI (199)))] rfl (by decide) d_M_enterReading_53 rfl ?_
              refine j_bipush (q := 56) C d_M_enterReading_54 rfl rfl ?_
              refine j_iload_n (q := 57) C 2 rfl d_M_enterReading_56 rfl ?_
              refine j_iconst (q := 58) C d_M_enterReading_57 rfl ?_
              refine j_iadd (q := 59) C d_M_enterReading_58 rfl ?_
              refine j_imul (q := 60) C d_M_enterReading_59 rfl ?_
              refine j_iconst (q := 61) C d_M_enterReading_60 rfl ?_
              refine j_isub (q := 62) C d_M_enterReading_61 rfl ?_
              refine j_istore_n (q := 63) C [(0, .ref (x 0)), (1, .int (iI (k))), (2, .int (iI (199))), (3, .int (iI ((26 * (199 + 1)) - 1)))] rfl (by decide) d_M_enterReading_62 rfl ?_
              have lp63 : ∀ (N : Nat) (j : Int) (F : Nat → Int), (26 * (k + 1) - 1 ≤ j ∧ j ≤ 26 * (199 + 1) - 1) → (∀ t : Nat, F t = if j < (t : Int) ∧ (t : Int) < 26 * (199 + 1) then Fo ((t : Int) - 26).toNat else Fo t) → (j + 1).toNat < N → JJ p l e { frames := 1, cells := 0, slots := 0, locals := 22 } s m args below meth c D A 4 (MQ below (QD D none (wM kI kZ x th co Rw nw Le Lt sn Cd Kp We mn Bg Sz Td Mp ts (enM Mp Fo nr) (erM Mp Fo nr) np Pl Fw) A) args s 0 0 A) 0 0 63 [(0, .ref (x 0)), (1, .int (iI (k))), (2, .int (iI (199))), (3, .int (iI (j)))] [] (wM kI kZ x th co Rw nw Le Lt sn Cd Kp We mn Bg Sz Td Mp ts nr F np Pl Fw) := by
                intro N
                induction N with
                | zero =>
                  intro j F j0 j1 hN
                  omega
                | succ N ih63 =>
                  intro j F j0 j1 hN
                  refine j_iload_n (q := 64) C 3 rfl d_M_enterReading_63 rfl ?_
                  refine j_bipush (q := 66) C d_M_enterReading_64 rfl rfl ?_
                  refine j_iload_n (q := 67) C 1 rfl d_M_enterReading_66 rfl ?_
                  refine j_iconst (q := 68) C d_M_enterReading_67 rfl ?_
                  refine j_iadd (q := 69) C d_M_enterReading_68 rfl ?_
                  refine j_imul (q := 70) C d_M_enterReading_69 rfl ?_
                  refine j_icmp_lt C 94 73 d_M_enterReading_70 rfl rfl (by omega) (by omega) (fun c13 => ?_) (fun c13 => ?_)
                  · obtain rfl : F = shF Fo k 199 := by funext t; rw [j1 t]; unfold shF; split <;> split <;> first | rfl | (exfalso; omega)
                    refine j_iconst (q := 95) C d_M_enterReading_94 rfl ?_
                    refine j_istore_n (q := 96) C [(0, .ref (x 0)), (1, .int (iI (k))), (2, .int (iI (199))), (3, .int (iI (0)))] rfl (by decide) d_M_enterReading_95 rfl ?_
                    have lp96 : ∀ (N : Nat) (n : Int) (F2 : Nat → Int), (0 ≤ n ∧ n ≤ 26) → (∀ t : Nat, F2 t = if 26 * k ≤ (t : Int) ∧ (t : Int) < 26 * k + n then Mp ((t : Int) - 26 * k).toNat else shF Fo k 199 t) → (26 - n).toNat < N → JJ p l e { frames := 1, cells := 0, slots := 0, locals := 22 } s m args below meth c D A 4 (MQ below (QD D none (wM kI kZ x th co Rw nw Le Lt sn Cd Kp We mn Bg Sz Td Mp ts (enM Mp Fo nr) (erM Mp Fo nr) np Pl Fw) A) args s 0 0 A) 0 0 96 [(0, .ref (x 0)), (1, .int (iI (k))), (2, .int (iI (199))), (3, .int (iI (n)))] [] (wM kI kZ x th co Rw nw Le Lt sn Cd Kp We mn Bg Sz Td Mp ts nr F2 np Pl Fw) := by
                      intro N
                      induction N with
                      | zero =>
                        intro n F2 m0 m1 hN
                        omega
                      | succ N ih96 =>
                        intro n F2 m0 m1 hN
                        refine j_iload_n (q := 97) C 3 rfl d_M_enterReading_96 rfl ?_
                        refine j_bipush (q := 99) C d_M_enterReading_97 rfl rfl ?_
                        refine j_icmp_ge C 125 102 d_M_enterReading_99 rfl rfl (by omega) (by omega) (fun c14 => ?_) (fun c14 => ?_)
                        · have la0 : laR nr = 199 := by unfold laR; split <;> omega
                          have f125 : F2 = erM Mp Fo nr := by funext t; rw [m1 t, show erM Mp Fo nr t = (if 26 * ekM Mp Fo nr ≤ (t : Int) ∧ (t : Int) < 26 * ekM Mp Fo nr + 26 then Mp ((t : Int) - 26 * ekM Mp Fo nr).toNat else shF Fo (ekM Mp Fo nr) (laR nr) t) from congrFun (if_neg (by rw [kk]; omega)) t, kk, la0]; split <;> split <;> first | rfl | (exfalso; omega)
                          refine j_aload_n (q := 126) C 0 rfl d_M_enterReading_125 rfl ?_
                          refine j_get (q := 129) C i_M rfl 0 rfl 16 (by decide) rfl rfl fl_M_77 d_M_enterReading_126 rfl ?_
                          refine j_sipush (q := 132) C d_M_enterReading_129 rfl rfl ?_
                          refine j_icmp_ge C 145 135 d_M_enterReading_132 rfl rfl (by omega) (by omega) (fun c15 => ?_) (fun c15 => ?_)
                          · first | (exfalso; omega) | exact j_vret C hr hlk d_M_enterReading_145 (by rw [f125, show enM Mp Fo nr = nr from (by unfold enM; rw [if_neg (by rw [kk]; omega)]; split <;> omega)])
                          · refine j_aload_n (q := 136) C 0 rfl d_M_enterReading_135 rfl ?_
                            refine j_dup (q := 137) C rfl d_M_enterReading_136 rfl ?_
                            refine j_get (q := 140) C i_M rfl 0 rfl 16 (by decide) rfl rfl fl_M_77 d_M_enterReading_137 rfl ?_
                            refine j_iconst (q := 141) C d_M_enterReading_140 rfl ?_
                            refine j_iadd (q := 142) C d_M_enterReading_141 rfl ?_
                            refine j_put (q := 145) (ty := .int) C i_M rfl t_M t_M_ok n_M 0 rfl 16 (by decide) rfl fl_M_77 rfl (by decide +kernel) rfl rfl (Nat.le_of_ble_eq_true rfl) (wM kI kZ x th co Rw nw Le Lt sn Cd Kp We mn Bg Sz Td Mp ts (nr + 1) F2 np Pl Fw) rfl d_M_enterReading_142 rfl ?_
                            first | (exfalso; omega) | exact j_vret C hr hlk d_M_enterReading_145 (by rw [f125, show enM Mp Fo nr = nr + 1 from (by unfold enM; rw [if_neg (by rw [kk]; omega)]; split <;> omega)])
                        · refine j_aload_n (q := 103) C 0 rfl d_M_enterReading_102 rfl ?_
                          refine j_get (q := 106) C i_M rfl 0 rfl 17 (by decide) rfl rfl fl_M_40 d_M_enterReading_103 rfl ?_
                          refine j_bipush (q := 108) C d_M_enterReading_106 rfl rfl ?_
                          refine j_iload_n (q := 109) C 1 rfl d_M_enterReading_108 rfl ?_
                          refine j_imul (q := 110) C d_M_enterReading_109 rfl ?_
                          refine j_iload_n (q := 111) C 3 rfl d_M_enterReading_110 rfl ?_
                          refine j_iadd (q := 112) C d_M_enterReading_111 rfl ?_
                          refine j_aload_n (q := 113) C 0 rfl d_M_enterReading_112 rfl ?_
                          refine j_get (q := 116) C i_M rfl 0 rfl 14 (by decide) rfl rfl fl_M_37 d_M_enterReading_113 rfl ?_
                          refine j_iload_n (q := 117) C 3 rfl d_M_enterReading_116 rfl ?_
                          refine j_iald (q := 118) C 10 0 rfl rfl (by decide) (by omega) d_M_enterReading_117 rfl ?_
                          have h117 := hMp n.toNat
                          refine j_iast (q := 119) C 11 0 rfl rfl (by decide) (by omega) (wM kI kZ x th co Rw nw Le Lt sn Cd Kp We mn Bg Sz Td Mp ts nr (uI F2 ((26 * k) + n).toNat (Mp n.toNat)) np Pl Fw) rfl d_M_enterReading_118 rfl ?_
                          refine j_iinc (q := 122) C 3 [(0, .ref (x 0)), (1, .int (iI (k))), (2, .int (iI (199))), (3, .int (iI (n + 1)))] rfl rfl (by decide) d_M_enterReading_119 rfl ?_
                          refine j_goto C 96 d_M_enterReading_122 rfl ?_
                          exact ih96 (n + 1) _ (by omega) (fun t => by unfold uI; rw [m1 t]; by_cases c : t = (26 * k + n).toNat; rw [if_pos c, if_pos (by omega)]; congr 1; omega; rw [if_neg c]; split <;> split <;> first | rfl | (exfalso; omega)) (by omega)
                    exact lp96 27 0 _ (by omega) (fun t => by rw [if_neg (by omega)]) (by omega)
                  · refine j_aload_n (q := 74) C 0 rfl d_M_enterReading_73 rfl ?_
                    refine j_get (q := 77) C i_M rfl 0 rfl 17 (by decide) rfl rfl fl_M_40 d_M_enterReading_74 rfl ?_
                    refine j_iload_n (q := 78) C 3 rfl d_M_enterReading_77 rfl ?_
                    refine j_aload_n (q := 79) C 0 rfl d_M_enterReading_78 rfl ?_
                    refine j_get (q := 82) C i_M rfl 0 rfl 17 (by decide) rfl rfl fl_M_40 d_M_enterReading_79 rfl ?_
                    refine j_iload_n (q := 83) C 3 rfl d_M_enterReading_82 rfl ?_
                    refine j_bipush (q := 85) C d_M_enterReading_83 rfl rfl ?_
                    refine j_isub (q := 86) C d_M_enterReading_85 rfl ?_
                    refine j_iald (q := 87) C 11 0 rfl rfl (by decide) (by omega) d_M_enterReading_86 rfl ?_
                    have h86 := hFo (j - 26).toNat
                    refine j_iast (q := 88) C 11 0 rfl rfl (by decide) (by omega) (wM kI kZ x th co Rw nw Le Lt sn Cd Kp We mn Bg Sz Td Mp ts nr (uI F j.toNat (F (j - 26).toNat)) np Pl Fw) rfl d_M_enterReading_87 rfl ?_
                    refine j_iinc (q := 91) C 3 [(0, .ref (x 0)), (1, .int (iI (k))), (2, .int (iI (199))), (3, .int (iI (j + (-1))))] rfl rfl (by decide) d_M_enterReading_88 rfl ?_
                    refine j_goto C 63 d_M_enterReading_91 rfl ?_
                    rw [show j + -1 = j - 1 from by omega]
                    exact ih63 (j - 1) _ (by omega) (fun t => by unfold uI; rw [j1 t, j1 (j - 26).toNat]; by_cases c : t = j.toNat; rw [if_pos c, if_neg (by omega), if_pos (by omega)]; congr 1; omega; rw [if_neg c]; split <;> split <;> first | rfl | (exfalso; omega)) (by omega)
              exact lp63 (5300) _ Fo (by omega) (fun t => by rw [if_neg (by omega)]) (by omega)
            · refine j_aload_n (q := 44) C 0 rfl d_M_enterReading_43 rfl ?_
              refine j_get (q := 47) C i_M rfl 0 rfl 16 (by decide) rfl rfl fl_M_77 d_M_enterReading_44 rfl ?_
              refine j_goto C 53 d_M_enterReading_47 rfl ?_
              refine j_istore_n (q := 54) C [(0, .ref (x 0)), (1, .int (iI (k))), (2, .int (iI (nr)))] rfl (by decide) d_M_enterReading_53 rfl ?_
              refine j_bipush (q := 56) C d_M_enterReading_54 rfl rfl ?_
              refine j_iload_n (q := 57) C 2 rfl d_M_enterReading_56 rfl ?_
              refine j_iconst (q := 58) C d_M_enterReading_57 rfl ?_
              refine j_iadd (q := 59) C d_M_enterReading_58 rfl ?_
              refine j_imul (q := 60) C d_M_enterReading_59 rfl ?_
              refine j_iconst (q := 61) C d_M_enterReading_60 rfl ?_
              refine j_isub (q := 62) C d_M_enterReading_61 rfl ?_
              refine j_istore_n (q := 63) C [(0, .ref (x 0)), (1, .int (iI (k))), (2, .int (iI (nr))), (3, .int (iI ((26 * (nr + 1)) - 1)))] rfl (by decide) d_M_enterReading_62 rfl ?_
              have lp63 : ∀ (N : Nat) (j : Int) (F : Nat → Int), (26 * (k + 1) - 1 ≤ j ∧ j ≤ 26 * (nr + 1) - 1) → (∀ t : Nat, F t = if j < (t : Int) ∧ (t : Int) < 26 * (nr + 1) then Fo ((t : Int) - 26).toNat else Fo t) → (j + 1).toNat < N → JJ p l e { frames := 1, cells := 0, slots := 0, locals := 22 } s m args below meth c D A 4 (MQ below (QD D none (wM kI kZ x th co Rw nw Le Lt sn Cd Kp We mn Bg Sz Td Mp ts (enM Mp Fo nr) (erM Mp Fo nr) np Pl Fw) A) args s 0 0 A) 0 0 63 [(0, .ref (x 0)), (1, .int (iI (k))), (2, .int (iI (nr))), (3, .int (iI (j)))] [] (wM kI kZ x th co Rw nw Le Lt sn Cd Kp We mn Bg Sz Td Mp ts nr F np Pl Fw) := by
                intro N
                induction N with
                | zero =>
                  intro j F j0 j1 hN
                  omega
                | succ N ih63 =>
                  intro j F j0 j1 hN
                  refine j_iload_n (q := 64) C 3 rfl d_M_enterReading_63 rfl ?_
                  refine j_bipush (q := 66) C d_M_enterReading_64 rfl rfl ?_
                  refine j_iload_n (q := 67) C 1 rfl d_M_enterReading_66 rfl ?_
                  refine j_iconst (q := 68) C d_M_enterReading_67 rfl ?_
                  refine j_iadd (q := 69) C d_M_enterReading_68 rfl ?_
                  refine j_imul (q := 70) C d_M_enterReading_69 rfl ?_
                  refine j_icmp_lt C 94 73 d_M_enterReading_70 rfl rfl (by omega) (by omega) (fun c16 => ?_) (fun c16 => ?_)
                  · obtain rfl : F = shF Fo k nr := by funext t; rw [j1 t]; unfold shF; split <;> split <;> first | rfl | (exfalso; omega)
                    refine j_iconst (q := 95) C d_M_enterReading_94 rfl ?_
                    refine j_istore_n (q := 96) C [(0, .ref (x 0)), (1, .int (iI (k))), (2, .int (iI (nr))), (3, .int (iI (0)))] rfl (by decide) d_M_enterReading_95 rfl ?_
                    have lp96 : ∀ (N : Nat) (n : Int) (F2 : Nat → Int), (0 ≤ n ∧ n ≤ 26) → (∀ t : Nat, F2 t = if 26 * k ≤ (t : Int) ∧ (t : Int) < 26 * k + n then Mp ((t : Int) - 26 * k).toNat else shF Fo k nr t) → (26 - n).toNat < N → JJ p l e { frames := 1, cells := 0, slots := 0, locals := 22 } s m args below meth c D A 4 (MQ below (QD D none (wM kI kZ x th co Rw nw Le Lt sn Cd Kp We mn Bg Sz Td Mp ts (enM Mp Fo nr) (erM Mp Fo nr) np Pl Fw) A) args s 0 0 A) 0 0 96 [(0, .ref (x 0)), (1, .int (iI (k))), (2, .int (iI (nr))), (3, .int (iI (n)))] [] (wM kI kZ x th co Rw nw Le Lt sn Cd Kp We mn Bg Sz Td Mp ts nr F2 np Pl Fw) := by
                      intro N
                      induction N with
                      | zero =>
                        intro n F2 m0 m1 hN
                        omega
                      | succ N ih96 =>
                        intro n F2 m0 m1 hN
                        refine j_iload_n (q := 97) C 3 rfl d_M_enterReading_96 rfl ?_
                        refine j_bipush (q := 99) C d_M_enterReading_97 rfl rfl ?_
                        refine j_icmp_ge C 125 102 d_M_enterReading_99 rfl rfl (by omega) (by omega) (fun c17 => ?_) (fun c17 => ?_)
                        · have la0 : laR nr = nr := by unfold laR; split <;> omega
                          have f125 : F2 = erM Mp Fo nr := by funext t; rw [m1 t, show erM Mp Fo nr t = (if 26 * ekM Mp Fo nr ≤ (t : Int) ∧ (t : Int) < 26 * ekM Mp Fo nr + 26 then Mp ((t : Int) - 26 * ekM Mp Fo nr).toNat else shF Fo (ekM Mp Fo nr) (laR nr) t) from congrFun (if_neg (by rw [kk]; omega)) t, kk, la0]; split <;> split <;> first | rfl | (exfalso; omega)
                          refine j_aload_n (q := 126) C 0 rfl d_M_enterReading_125 rfl ?_
                          refine j_get (q := 129) C i_M rfl 0 rfl 16 (by decide) rfl rfl fl_M_77 d_M_enterReading_126 rfl ?_
                          refine j_sipush (q := 132) C d_M_enterReading_129 rfl rfl ?_
                          refine j_icmp_ge C 145 135 d_M_enterReading_132 rfl rfl (by omega) (by omega) (fun c18 => ?_) (fun c18 => ?_)
                          · first | (exfalso; omega) | exact j_vret C hr hlk d_M_enterReading_145 (by rw [f125, show enM Mp Fo nr = nr from (by unfold enM; rw [if_neg (by rw [kk]; omega)]; split <;> omega)])
                          · refine j_aload_n (q := 136) C 0 rfl d_M_enterReading_135 rfl ?_
                            refine j_dup (q := 137) C rfl d_M_enterReading_136 rfl ?_
                            refine j_get (q := 140) C i_M rfl 0 rfl 16 (by decide) rfl rfl fl_M_77 d_M_enterReading_137 rfl ?_
                            refine j_iconst (q := 141) C d_M_enterReading_140 rfl ?_
                            refine j_iadd (q := 142) C d_M_enterReading_141 rfl ?_
                            refine j_put (q := 145) (ty := .int) C i_M rfl t_M t_M_ok n_M 0 rfl 16 (by decide) rfl fl_M_77 rfl (by decide +kernel) rfl rfl (Nat.le_of_ble_eq_true rfl) (wM kI kZ x th co Rw nw Le Lt sn Cd Kp We mn Bg Sz Td Mp ts (nr + 1) F2 np Pl Fw) rfl d_M_enterReading_142 rfl ?_
                            first | (exfalso; omega) | exact j_vret C hr hlk d_M_enterReading_145 (by rw [f125, show enM Mp Fo nr = nr + 1 from (by unfold enM; rw [if_neg (by rw [kk]; omega)]; split <;> omega)])
                        · refine j_aload_n (q := 103) C 0 rfl d_M_enterReading_102 rfl ?_
                          refine j_get (q := 106) C i_M rfl 0 rfl 17 (by decide) rfl rfl fl_M_40 d_M_enterReading_103 rfl ?_
                          refine j_bipush (q := 108) C d_M_enterReading_106 rfl rfl ?_
                          refine j_iload_n (q := 109) C 1 rfl d_M_enterReading_108 rfl ?_
                          refine j_imul (q := 110) C d_M_enterReading_109 rfl ?_
                          refine j_iload_n (q := 111) C 3 rfl d_M_enterReading_110 rfl ?_
                          refine j_iadd (q := 112) C d_M_enterReading_111 rfl ?_
                          refine j_aload_n (q := 113) C 0 rfl d_M_enterReading_112 rfl ?_
                          refine j_get (q := 116) C i_M rfl 0 rfl 14 (by decide) rfl rfl fl_M_37 d_M_enterReading_113 rfl ?_
                          refine j_iload_n (q := 117) C 3 rfl d_M_enterReading_116 rfl ?_
                          refine j_iald (q := 118) C 10 0 rfl rfl (by decide) (by omega) d_M_enterReading_117 rfl ?_
                          have h117 := hMp n.toNat
                          refine j_iast (q := 119) C 11 0 rfl rfl (by decide) (by omega) (wM kI kZ x th co Rw nw Le Lt sn Cd Kp We mn Bg Sz Td Mp ts nr (uI F2 ((26 * k) + n).toNat (Mp n.toNat)) np Pl Fw) rfl d_M_enterReading_118 rfl ?_
                          refine j_iinc (q := 122) C 3 [(0, .ref (x 0)), (1, .int (iI (k))), (2, .int (iI (nr))), (3, .int (iI (n + 1)))] rfl rfl (by decide) d_M_enterReading_119 rfl ?_
                          refine j_goto C 96 d_M_enterReading_122 rfl ?_
                          exact ih96 (n + 1) _ (by omega) (fun t => by unfold uI; rw [m1 t]; by_cases c : t = (26 * k + n).toNat; rw [if_pos c, if_pos (by omega)]; congr 1; omega; rw [if_neg c]; split <;> split <;> first | rfl | (exfalso; omega)) (by omega)
                    exact lp96 27 0 _ (by omega) (fun t => by rw [if_neg (by omega)]) (by omega)
                  · refine j_aload_n (q := 74) C 0 rfl d_M_enterReading_73 rfl ?_
                    refine j_get (q := 77) C i_M rfl 0 rfl 17 (by decide) rfl rfl fl_M_40 d_M_enterReading_74 rfl ?_
                    refine j_iload_n (q := 78) C 3 rfl d_M_enterReading_77 rfl ?_
                    refine j_aload_n (q := 79) C 0 rfl d_M_enterReading_78 rfl ?_
                    refine j_get (q := 82) C i_M rfl 0 rfl 17 (by decide) rfl rfl fl_M_40 d_M_enterReading_79 rfl ?_
                    refine j_iload_n (q := 83) C 3 rfl d_M_enterReading_82 rfl ?_
                    refine j_bipush (q := 85) C d_M_enterReading_83 rfl rfl ?_
                    refine j_isub (q := 86) C d_M_enterReading_85 rfl ?_
                    refine j_iald (q := 87) C 11 0 rfl rfl (by decide) (by omega) d_M_enterReading_86 rfl ?_
                    have h86 := hFo (j - 26).toNat
                    refine j_iast (q := 88) C 11 0 rfl rfl (by decide) (by omega) (wM kI kZ x th co Rw nw Le Lt sn Cd Kp We mn Bg Sz Td Mp ts nr (uI F j.toNat (F (j - 26).toNat)) np Pl Fw) rfl d_M_enterReading_87 rfl ?_
                    refine j_iinc (q := 91) C 3 [(0, .ref (x 0)), (1, .int (iI (k))), (2, .int (iI (nr))), (3, .int (iI (j + (-1))))] rfl rfl (by decide) d_M_enterReading_88 rfl ?_
                    refine j_goto C 63 d_M_enterReading_91 rfl ?_
                    rw [show j + -1 = j - 1 from by omega]
                    exact ih63 (j - 1) _ (by omega) (fun t => by unfold uI; rw [j1 t, j1 (j - 26).toNat]; by_cases c : t = j.toNat; rw [if_pos c, if_neg (by omega), if_pos (by omega)]; congr 1; omega; rw [if_neg c]; split <;> split <;> first | rfl | (exfalso; omega)) (by omega)
              exact lp63 (5300) _ Fo (by omega) (fun t => by rw [if_neg (by omega)]) (by omega)
          · first | (exfalso; omega) | exact j_vret C hr hlk d_M_enterReading_32 (by rw [show erM Mp Fo nr = Fo from if_pos (by rw [kk]; omega), show enM Mp Fo nr = nr from if_pos (by rw [kk]; omega)])
        · have c10 := bI_n c10
          have kb := c10
          refine j_iinc (q := 22) C 1 [(0, .ref (x 0)), (1, .int (iI (k + (-1))))] rfl rfl (by decide) d_M_enterReading_19 rfl ?_
          refine j_goto C 5 d_M_enterReading_22 rfl ?_
          rw [show k + -1 = k - 1 from by omega]
          exact ih5 (k - 1) (by omega) (by rw [i1, ekF_s _ _ (by omega), ifP_t kb]) (by omega)
  exact lp5 (nr.toNat + 1) nr (by omega) rfl (by omega)
def rgM (Cd Fo We : Nat → Int) (k i : Int) : Int := if 0 ≤ Cd i.toNat ∧ 0 ≤ Cd (i - 1).toNat then We (26 * (Fo (26 * k + Cd (i - 1).toNat).toNat - 97) + Fo (26 * k + Cd i.toNat).toNat - 97).toNat else 0
def rkM (Cd : Nat → Int) (sn : Int) (Fo We : Nat → Int) (k : Int) : Int := smI (rgM Cd Fo We k) (sn - 1).toNat
theorem rkM_r {Cd Fo We : Nat → Int} {sn : Int} (hW : ∀ j, -1000 ≤ We j ∧ We j ≤ 1000) (hsn : 0 ≤ sn ∧ sn ≤ 60) (k : Int) : -100000 ≤ rkM Cd sn Fo We k ∧ rkM Cd sn Fo We k ≤ 100000 := by
  have := smI_r (g := rgM Cd Fo We k) (fun i => by unfold rgM; split; exact hW _; omega) (sn - 1).toNat
  unfold rkM
  omega
/-- all readings found have letters for all numbers of the code -/
def flR (Cd : Nat → Int) (sn : Int) (Fo : Nat → Int) (nr : Int) : Prop := ∀ k i, 0 ≤ k → k < nr → 0 ≤ i → i < sn → 0 ≤ Cd i.toNat → 97 ≤ Fo (26 * k + Cd i.toNat).toNat

set_option maxRecDepth 100000 in
set_option maxHeartbeats 4000000 in
theorem c_M_rankOf {l : Launch} {D : va_G} (kI kZ : ClassId) (x : Nat → Nat) (th co : Int) (Rw : Nat → Int) (nw : Int) (Le Lt : Nat → Int) (sn : Int) (Cd Kp We : Nat → Int) (mn : Int) (Bg Sz Td Mp : Nat → Int) (ts nr : Int) (Fo : Nat → Int) (np : Int) (Pl Fw : Nat → Int) (hsn : 0 ≤ sn ∧ sn ≤ 60) (hCd : ∀ j, -1 ≤ Cd j ∧ Cd j ≤ 25) (hWe : ∀ j, -1000 ≤ We j ∧ We j ≤ 1000) (hnr : 0 ≤ nr ∧ nr ≤ 200) (hFo : ∀ j, 0 ≤ Fo j ∧ Fo j ≤ 122) (hfl : flR Cd sn Fo nr) (k : Int) (hk : 0 ≤ k ∧ k < nr) : Dt l D (ty2 kI kZ) y_M_rankOf w_M_rankOf { frames := 1, cells := 0, slots := 0, locals := 22 } [.ref (x 0), .int (iI (k))] (wM kI kZ x th co Rw nw Le Lt sn Cd Kp We mn Bg Sz Td Mp ts nr Fo np Pl Fw) (some (.long (lI (rkM Cd sn Fo We k)))) (wM kI kZ x th co Rw nw Le Lt sn Cd Kp We mn Bg Sz Td Mp ts nr Fo np Pl Fw) := by
  refine Met.toJ (own := R_M) (QD D (some (.long (lI (rkM Cd sn Fo We k)))) (wM kI kZ x th co Rw nw Le Lt sn Cd Kp We mn Bg Sz Td Mp ts nr Fo np Pl Fw)) mk_M_rankOf rfl (Nat.le_of_ble_eq_true rfl) ?_
  intro p e s m args below meth c A C hr hlk hnm
  show JJ p l e { frames := 1, cells := 0, slots := 0, locals := 22 } s m args below meth c D A 5 (MQ below (QD D (some (.long (lI (rkM Cd sn Fo We k)))) (wM kI kZ x th co Rw nw Le Lt sn Cd Kp We mn Bg Sz Td Mp ts nr Fo np Pl Fw) A) args s 0 0 A) 0 0 0 [(0, .ref (x 0)), (1, .int (iI (k)))] [] (wM kI kZ x th co Rw nw Le Lt sn Cd Kp We mn Bg Sz Td Mp ts nr Fo np Pl Fw)
  refine j_lconst0 (q := 1) C d_M_rankOf_0 rfl ?_
  refine j_lstore_n (q := 2) C [(0, .ref (x 0)), (1, .int (iI (k))), (2, .long (lI (0)))] rfl (by decide) d_M_rankOf_1 rfl ?_
  refine j_iconst (q := 3) C d_M_rankOf_2 rfl ?_
  refine j_istore (q := 5) C [(0, .ref (x 0)), (1, .int (iI (k))), (2, .long (lI (0))), (4, .int (iI (1)))] rfl (by decide) d_M_rankOf_3 rfl ?_
  have lp5 : ∀ (N : Nat) (i t : Int), (1 ≤ i ∧ i ≤ 61 ∧ (i ≤ sn ∨ i = 1)) → (t = smI (rgM Cd Fo We k) (i - 1).toNat) → (61 - i).toNat < N → JJ p l e { frames := 1, cells := 0, slots := 0, locals := 22 } s m args below meth c D A 5 (MQ below (QD D (some (.long (lI (rkM Cd sn Fo We k)))) (wM kI kZ x th co Rw nw Le Lt sn Cd Kp We mn Bg Sz Td Mp ts nr Fo np Pl Fw) A) args s 0 0 A) 0 0 5 [(0, .ref (x 0)), (1, .int (iI (k))), (2, .long (lI (t))), (4, .int (iI (i)))] [] (wM kI kZ x th co Rw nw Le Lt sn Cd Kp We mn Bg Sz Td Mp ts nr Fo np Pl Fw) := by
    intro N
    induction N with
    | zero =>
      intro i t i0 i1 hN
      omega
    | succ N ih5 =>
      intro i t i0 i1 hN
      refine j_iload (q := 7) C 3 rfl d_M_rankOf_5 rfl ?_
      refine j_aload_n (q := 8) C 0 rfl d_M_rankOf_7 rfl ?_
      refine j_get (q := 11) C i_M rfl 0 rfl 6 (by decide) rfl rfl fl_M_74 d_M_rankOf_8 rfl ?_
      refine j_icmp_ge C 86 14 d_M_rankOf_11 rfl rfl (by omega) (by omega) (fun c1 => ?_) (fun c1 => ?_)
      · refine j_lload_n (q := 87) C 2 rfl d_M_rankOf_86 rfl ?_
        exact j_lret C hr hlk d_M_rankOf_87 (congrArg (fun z => some (Value.long (lI z))) (show (rkM Cd sn Fo We k) = (t) from by unfold rkM; rw [i1]; congr 1; omega)) rfl
      · refine j_aload_n (q := 15) C 0 rfl d_M_rankOf_14 rfl ?_
        refine j_get (q := 18) C i_M rfl 0 rfl 7 (by decide) rfl rfl fl_M_19 d_M_rankOf_15 rfl ?_
        refine j_iload (q := 20) C 3 rfl d_M_rankOf_18 rfl ?_
        refine j_iald (q := 21) C 4 0 rfl rfl (by decide) (by omega) d_M_rankOf_20 rfl ?_
        have h20 := hCd i.toNat
        refine j_if_lt C 80 24 d_M_rankOf_21 rfl rfl (by omega) (fun c2 => ?_) (fun c2 => ?_)
        · refine j_iinc (q := 83) C 3 [(0, .ref (x 0)), (1, .int (iI (k))), (2, .long (lI (t))), (4, .int (iI (i + 1)))] rfl rfl (by decide) d_M_rankOf_80 rfl ?_
          refine j_goto C 5 d_M_rankOf_83 rfl ?_
          exact ih5 (i + 1) _ (by omega) (by rw [show i + 1 - 1 = i from by omega, smI_s _ i0.1, ← i1]; unfold rgM; first | rw [if_pos (by omega)] | (rw [if_neg (by omega)]; omega)) (by omega)
        · refine j_aload_n (q := 25) C 0 rfl d_M_rankOf_24 rfl ?_
          refine j_get (q := 28) C i_M rfl 0 rfl 7 (by decide) rfl rfl fl_M_19 d_M_rankOf_25 rfl ?_
          refine j_iload (q := 30) C 3 rfl d_M_rankOf_28 rfl ?_
          refine j_iconst (q := 31) C d_M_rankOf_30 rfl ?_
          refine j_isub (q := 32) C d_M_rankOf_31 rfl ?_
          refine j_iald (q := 33) C 4 0 rfl rfl (by decide) (by omega) d_M_rankOf_32 rfl ?_
          have h32 := hCd (i - 1).toNat
          refine j_if_lt C 80 36 d_M_rankOf_33 rfl rfl (by omega) (fun c3 => ?_) (fun c3 => ?_)
          · refine j_iinc (q := 83) C 3 [(0, .ref (x 0)), (1, .int (iI (k))), (2, .long (lI (t))), (4, .int (iI (i + 1)))] rfl rfl (by decide) d_M_rankOf_80 rfl ?_
            refine j_goto C 5 d_M_rankOf_83 rfl ?_
            exact ih5 (i + 1) _ (by omega) (by rw [show i + 1 - 1 = i from by omega, smI_s _ i0.1, ← i1]; unfold rgM; first | rw [if_pos (by omega)] | (rw [if_neg (by omega)]; omega)) (by omega)
          · refine j_lload_n (q := 37) C 2 rfl d_M_rankOf_36 rfl ?_
            refine j_aload_n (q := 38) C 0 rfl d_M_rankOf_37 rfl ?_
            refine j_aload_n (q := 39) C 0 rfl d_M_rankOf_38 rfl ?_
            refine j_get (q := 42) C i_M rfl 0 rfl 17 (by decide) rfl rfl fl_M_40 d_M_rankOf_39 rfl ?_
            refine j_bipush (q := 44) C d_M_rankOf_42 rfl rfl ?_
            refine j_iload_n (q := 45) C 1 rfl d_M_rankOf_44 rfl ?_
            refine j_imul (q := 46) C d_M_rankOf_45 rfl ?_
            refine j_aload_n (q := 47) C 0 rfl d_M_rankOf_46 rfl ?_
            refine j_get (q := 50) C i_M rfl 0 rfl 7 (by decide) rfl rfl fl_M_19 d_M_rankOf_47 rfl ?_
            refine j_iload (q := 52) C 3 rfl d_M_rankOf_50 rfl ?_
            refine j_iconst (q := 53) C d_M_rankOf_52 rfl ?_
            refine j_isub (q := 54) C d_M_rankOf_53 rfl ?_
            refine j_iald (q := 55) C 4 0 rfl rfl (by decide) (by omega) d_M_rankOf_54 rfl ?_
            have h54 := hCd (i - 1).toNat
            refine j_iadd (q := 56) C d_M_rankOf_55 rfl ?_
            refine j_iald (q := 57) C 11 0 rfl rfl (by decide) (by omega) d_M_rankOf_56 rfl ?_
            have h56 := hFo ((26 * k) + (Cd (i - 1).toNat)).toNat
            refine j_aload_n (q := 58) C 0 rfl d_M_rankOf_57 rfl ?_
            refine j_get (q := 61) C i_M rfl 0 rfl 17 (by decide) rfl rfl fl_M_40 d_M_rankOf_58 rfl ?_
            refine j_bipush (q := 63) C d_M_rankOf_61 rfl rfl ?_
            refine j_iload_n (q := 64) C 1 rfl d_M_rankOf_63 rfl ?_
            refine j_imul (q := 65) C d_M_rankOf_64 rfl ?_
            refine j_aload_n (q := 66) C 0 rfl d_M_rankOf_65 rfl ?_
            refine j_get (q := 69) C i_M rfl 0 rfl 7 (by decide) rfl rfl fl_M_19 d_M_rankOf_66 rfl ?_
            refine j_iload (q := 71) C 3 rfl d_M_rankOf_69 rfl ?_
            refine j_iald (q := 72) C 4 0 rfl rfl (by decide) (by omega) d_M_rankOf_71 rfl ?_
            have h71 := hCd i.toNat
            refine j_iadd (q := 73) C d_M_rankOf_72 rfl ?_
            refine j_iald (q := 74) C 11 0 rfl rfl (by decide) (by omega) d_M_rankOf_73 rfl ?_
            have h73 := hFo ((26 * k) + (Cd i.toNat)).toNat
            have q1 := hfl k (i - 1) (by omega) (by omega) (by omega) (by omega) (by omega)
            have q2 := hfl k i (by omega) (by omega) (by omega) (by omega) (by omega)
            have e74 := hWe (26 * ((Fo ((26 * k) + (Cd (i - 1).toNat)).toNat) - 97) + (Fo ((26 * k) + (Cd i.toNat)).toNat) - 97).toNat
            refine j_callV (q := 77) (wr := []) C [.int (iI (Fo ((26 * k) + (Cd (i - 1).toNat)).toNat)), .int (iI (Fo ((26 * k) + (Cd i.toNat)).toNat))] [.long (lI (t))] (c_M_weight kI kZ x th co Rw nw Le Lt sn Cd Kp We mn Bg Sz Td Mp ts nr Fo np Pl Fw hWe (Fo ((26 * k) + (Cd (i - 1).toNat)).toNat) (Fo ((26 * k) + (Cd i.toNat)).toNat) (by omega) (by omega)) ml_M_106 mk_M_weight in_M_weight se_M_weight rfl rfl rfl [0, 1, 2, 3, 4, 5, 6, 7, 8, 9, 10, 11, 12, 13] [] [0, 1, 2, 3, 4, 5, 6, 7, 8, 9, 10, 11, 12, 13] rfl (by decide) rfl (by decide) (by decide) (wM kI kZ x th co Rw nw Le Lt sn Cd Kp We mn Bg Sz Td Mp ts nr Fo np Pl Fw) rfl (by decide) rfl rfl rfl (Nat.le_of_ble_eq_true rfl) ⟨Nat.le_of_ble_eq_true rfl, Nat.le_of_ble_eq_true rfl⟩ ⟨Nat.le_of_ble_eq_true rfl, Nat.le_of_ble_eq_true rfl⟩ d_M_rankOf_74 rfl ?_
            refine j_i2l (q := 78) C (by omega) d_M_rankOf_77 rfl ?_
            refine j_ladd (q := 79) C d_M_rankOf_78 rfl ?_
            refine j_lstore_n (q := 80) C [(0, .ref (x 0)), (1, .int (iI (k))), (2, .long (lI (t + (We (26 * ((Fo ((26 * k) + (Cd (i - 1).toNat)).toNat) - 97) + (Fo ((26 * k) + (Cd i.toNat)).toNat) - 97).toNat)))), (4, .int (iI (i)))] rfl (by decide) d_M_rankOf_79 rfl ?_
            refine j_iinc (q := 83) C 3 [(0, .ref (x 0)), (1, .int (iI (k))), (2, .long (lI (t + (We (26 * ((Fo ((26 * k) + (Cd (i - 1).toNat)).toNat) - 97) + (Fo ((26 * k) + (Cd i.toNat)).toNat) - 97).toNat)))), (4, .int (iI (i + 1)))] rfl rfl (by decide) d_M_rankOf_80 rfl ?_
            refine j_goto C 5 d_M_rankOf_83 rfl ?_
            exact ih5 (i + 1) _ (by omega) (by rw [show i + 1 - 1 = i from by omega, smI_s _ i0.1, ← i1]; unfold rgM; first | rw [if_pos (by omega)] | (rw [if_neg (by omega)]; omega)) (by omega)
  exact lp5 61 1 0 (by omega) rfl (by omega)
set_option maxRecDepth 100000 in
set_option maxHeartbeats 4000000 in
theorem c_M_rank {l : Launch} {D : va_G} (kI kZ : ClassId) (x : Nat → Nat) (th co : Int) (Rw : Nat → Int) (nw : Int) (Le Lt : Nat → Int) (sn : Int) (Cd Kp We : Nat → Int) (mn : Int) (Bg Sz Td Mp : Nat → Int) (ts nr : Int) (Fo : Nat → Int) (np : Int) (Pl Fw : Nat → Int) (hsn : 0 ≤ sn ∧ sn ≤ 60) (hCd : ∀ j, -1 ≤ Cd j ∧ Cd j ≤ 25) (hWe : ∀ j, -1000 ≤ We j ∧ We j ≤ 1000) (hnr : 0 ≤ nr ∧ nr ≤ 200) (hFo : ∀ j, 0 ≤ Fo j ∧ Fo j ≤ 122) (hfl : flR Cd sn Fo nr) (k : Int) (hk : (-2147483648 ≤ k ∧ k < 2147483648)) : Dt l D (ty2 kI kZ) y_M_rank w_M_rank { frames := 2, cells := 0, slots := 0, locals := 46 } [.ref (x 0), .int (iI (k))] (wM kI kZ x th co Rw nw Le Lt sn Cd Kp We mn Bg Sz Td Mp ts nr Fo np Pl Fw) (some (.long (lI (if 0 ≤ k ∧ k < nr then rkM Cd sn Fo We k else 0)))) (wM kI kZ x 0 co Rw nw Le Lt sn Cd Kp We mn Bg Sz Td Mp ts nr Fo np Pl Fw) := by
  refine Met.toJ (own := R_M) (QD D (some (.long (lI (if 0 ≤ k ∧ k < nr then rkM Cd sn Fo We k else 0)))) (wM kI kZ x 0 co Rw nw Le Lt sn Cd Kp We mn Bg Sz Td Mp ts nr Fo np Pl Fw)) mk_M_rank rfl (Nat.le_of_ble_eq_true rfl) ?_
  intro p e s m args below meth c A C hr hlk hnm
  show JJ p l e { frames := 2, cells := 0, slots := 0, locals := 46 } s m args below meth c D A 2 (MQ below (QD D (some (.long (lI (if 0 ≤ k ∧ k < nr then rkM Cd sn Fo We k else 0)))) (wM kI kZ x 0 co Rw nw Le Lt sn Cd Kp We mn Bg Sz Td Mp ts nr Fo np Pl Fw) A) args s 0 0 A) 0 0 0 [(0, .ref (x 0)), (1, .int (iI (k)))] [] (wM kI kZ x th co Rw nw Le Lt sn Cd Kp We mn Bg Sz Td Mp ts nr Fo np Pl Fw)
  refine j_aload_n (q := 1) C 0 rfl d_M_rank_0 rfl ?_
  refine j_iconst (q := 2) C d_M_rank_1 rfl ?_
  refine j_put (q := 5) (ty := .int) C i_M rfl t_M t_M_ok n_M 0 rfl 0 (by decide) rfl fl_M_49 rfl (by decide +kernel) rfl rfl (Nat.le_of_ble_eq_true rfl) (wM kI kZ x 0 co Rw nw Le Lt sn Cd Kp We mn Bg Sz Td Mp ts nr Fo np Pl Fw) rfl d_M_rank_2 rfl ?_
  refine j_iload_n (q := 6) C 1 rfl d_M_rank_5 rfl ?_
  refine j_if_lt C 17 9 d_M_rank_6 rfl rfl (by omega) (fun c1 => ?_) (fun c1 => ?_)
  · refine j_lconst0 (q := 18) C d_M_rank_17 rfl ?_
    refine j_goto C 26 d_M_rank_18 rfl ?_
    exact j_lret C hr hlk d_M_rank_26 (congrArg (fun z => some (Value.long (lI z))) (show (if 0 ≤ k ∧ k < nr then rkM Cd sn Fo We k else 0) = (0) from by split <;> first | rfl | omega)) rfl
  · refine j_iload_n (q := 10) C 1 rfl d_M_rank_9 rfl ?_
    refine j_aload_n (q := 11) C 0 rfl d_M_rank_10 rfl ?_
    refine j_get (q := 14) C i_M rfl 0 rfl 16 (by decide) rfl rfl fl_M_77 d_M_rank_11 rfl ?_
    refine j_icmp_lt C 21 17 d_M_rank_14 rfl rfl (by omega) (by omega) (fun c2 => ?_) (fun c2 => ?_)
    · refine j_aload_n (q := 22) C 0 rfl d_M_rank_21 rfl ?_
      refine j_iload_n (q := 23) C 1 rfl d_M_rank_22 rfl ?_
      have e23 := rkM_r (Cd := Cd) (Fo := Fo) hWe hsn k
      refine j_callV (q := 26) (wr := []) C [.int (iI (k))] [] (c_M_rankOf kI kZ x 0 co Rw nw Le Lt sn Cd Kp We mn Bg Sz Td Mp ts nr Fo np Pl Fw hsn hCd hWe hnr hFo  hfl k (by omega)) ml_M_109 mk_M_rankOf in_M_rankOf se_M_rankOf rfl rfl rfl [0, 1, 2, 3, 4, 5, 6, 7, 8, 9, 10, 11, 12, 13] [] [0, 1, 2, 3, 4, 5, 6, 7, 8, 9, 10, 11, 12, 13] rfl (by decide) rfl (by decide) (by decide) (wM kI kZ x 0 co Rw nw Le Lt sn Cd Kp We mn Bg Sz Td Mp ts nr Fo np Pl Fw) rfl (by decide) rfl rfl rfl (Nat.le_of_ble_eq_true rfl) ⟨Nat.le_of_ble_eq_true rfl, Nat.le_of_ble_eq_true rfl⟩ ⟨Nat.le_of_ble_eq_true rfl, Nat.le_of_ble_eq_true rfl⟩ d_M_rank_23 rfl ?_
      first | (exfalso; omega) | exact j_lret C hr hlk d_M_rank_26 (congrArg (fun z => some (Value.long (lI z))) (show (if 0 ≤ k ∧ k < nr then rkM Cd sn Fo We k else 0) = (rkM Cd sn Fo We k) from by split <;> first | rfl | omega)) rfl
    · refine j_lconst0 (q := 18) C d_M_rank_17 rfl ?_
      refine j_goto C 26 d_M_rank_18 rfl ?_
      first | (exfalso; omega) | exact j_lret C hr hlk d_M_rank_26 (congrArg (fun z => some (Value.long (lI z))) (show (if 0 ≤ k ∧ k < nr then rkM Cd sn Fo We k else 0) = (0) from by split <;> first | rfl | omega)) rfl
theorem bsI_v {g : Int → Int} (n : Nat) : ((bsI g n).1 = -1 ∨ (bsI g n).2 = g (bsI g n).1) ∧ (-1 ≤ (bsI g n).1 ∧ (bsI g n).1 < n) ∧ (0 < n → 0 ≤ (bsI g n).1) := by
  induction n with
  | zero => exact ⟨Or.inl rfl, ⟨by show (-1 : Int) ≤ -1; decide, by show (-1 : Int) < ((0 : Nat) : Int); decide⟩, fun h => by omega⟩
  | succ n ih =>
    show ((if (bsI g n).1 = -1 ∨ (bsI g n).2 < g n then ((n : Int), g n) else bsI g n).1 = -1 ∨ (if (bsI g n).1 = -1 ∨ (bsI g n).2 < g n then ((n : Int), g n) else bsI g n).2 = g (if (bsI g n).1 = -1 ∨ (bsI g n).2 < g n then ((n : Int), g n) else bsI g n).1) ∧ (-1 ≤ (if (bsI g n).1 = -1 ∨ (bsI g n).2 < g n then ((n : Int), g n) else bsI g n).1 ∧ (if (bsI g n).1 = -1 ∨ (bsI g n).2 < g n then ((n : Int), g n) else bsI g n).1 < ((n + 1 : Nat) : Int)) ∧ (0 < n + 1 → 0 ≤ (if (bsI g n).1 = -1 ∨ (bsI g n).2 < g n then ((n : Int), g n) else bsI g n).1)
    split
    · exact ⟨Or.inr rfl, ⟨by show -1 ≤ (n : Int); omega, by show (n : Int) < ((n + 1 : Nat) : Int); omega⟩, fun _ => by show 0 ≤ (n : Int); omega⟩
    · exact ⟨ih.1, ⟨ih.2.1.1, by omega⟩, fun _ => by omega⟩

set_option maxRecDepth 100000 in
set_option maxHeartbeats 4000000 in
theorem c_M_best {l : Launch} {D : va_G} (kI kZ : ClassId) (x : Nat → Nat) (th co : Int) (Rw : Nat → Int) (nw : Int) (Le Lt : Nat → Int) (sn : Int) (Cd Kp We : Nat → Int) (mn : Int) (Bg Sz Td Mp : Nat → Int) (ts nr : Int) (Fo : Nat → Int) (np : Int) (Pl Fw : Nat → Int) (hsn : 0 ≤ sn ∧ sn ≤ 60) (hCd : ∀ j, -1 ≤ Cd j ∧ Cd j ≤ 25) (hWe : ∀ j, -1000 ≤ We j ∧ We j ≤ 1000) (hnr : 0 ≤ nr ∧ nr ≤ 200) (hFo : ∀ j, 0 ≤ Fo j ∧ Fo j ≤ 122) (hfl : flR Cd sn Fo nr) : Dt l D (ty2 kI kZ) y_M_best w_M_best { frames := 2, cells := 0, slots := 0, locals := 46 } [.ref (x 0)] (wM kI kZ x th co Rw nw Le Lt sn Cd Kp We mn Bg Sz Td Mp ts nr Fo np Pl Fw) (some (.int (iI ((bsI (rkM Cd sn Fo We) nr.toNat).1)))) (wM kI kZ x 0 co Rw nw Le Lt sn Cd Kp We mn Bg Sz Td Mp ts nr Fo np Pl Fw) := by
  refine Met.toJ (own := R_M) (QD D (some (.int (iI ((bsI (rkM Cd sn Fo We) nr.toNat).1)))) (wM kI kZ x 0 co Rw nw Le Lt sn Cd Kp We mn Bg Sz Td Mp ts nr Fo np Pl Fw)) mk_M_best rfl (Nat.le_of_ble_eq_true rfl) ?_
  intro p e s m args below meth c A C hr hlk hnm
  show JJ p l e { frames := 2, cells := 0, slots := 0, locals := 46 } s m args below meth c D A 3 (MQ below (QD D (some (.int (iI ((bsI (rkM Cd sn Fo We) nr.toNat).1)))) (wM kI kZ x 0 co Rw nw Le Lt sn Cd Kp We mn Bg Sz Td Mp ts nr Fo np Pl Fw) A) args s 0 0 A) 0 0 0 [(0, .ref (x 0))] [] (wM kI kZ x th co Rw nw Le Lt sn Cd Kp We mn Bg Sz Td Mp ts nr Fo np Pl Fw)
  refine j_aload_n (q := 1) C 0 rfl d_M_best_0 rfl ?_
  refine j_iconst (q := 2) C d_M_best_1 rfl ?_
  refine j_put (q := 5) (ty := .int) C i_M rfl t_M t_M_ok n_M 0 rfl 0 (by decide) rfl fl_M_49 rfl (by decide +kernel) rfl rfl (Nat.le_of_ble_eq_true rfl) (wM kI kZ x 0 co Rw nw Le Lt sn Cd Kp We mn Bg Sz Td Mp ts nr Fo np Pl Fw) rfl d_M_best_2 rfl ?_
  refine j_iconst (q := 6) C d_M_best_5 rfl ?_
  refine j_istore_n (q := 7) C [(0, .ref (x 0)), (1, .int (iI (-1)))] rfl (by decide) d_M_best_6 rfl ?_
  refine j_iconst (q := 8) C d_M_best_7 rfl ?_
  refine j_istore_n (q := 9) C [(0, .ref (x 0)), (1, .int (iI (-1))), (2, .int (iI (0)))] rfl (by decide) d_M_best_8 rfl ?_
  have lp9 : ∀ (N : Nat) (i b : Int), (0 ≤ i ∧ i ≤ nr) → (b = (bsI (rkM Cd sn Fo We) i.toNat).1) → (-1 ≤ b ∧ (b < i ∨ b = -1)) → (nr - i).toNat < N → JJ p l e { frames := 2, cells := 0, slots := 0, locals := 46 } s m args below meth c D A 3 (MQ below (QD D (some (.int (iI ((bsI (rkM Cd sn Fo We) nr.toNat).1)))) (wM kI kZ x 0 co Rw nw Le Lt sn Cd Kp We mn Bg Sz Td Mp ts nr Fo np Pl Fw) A) args s 0 0 A) 0 0 9 [(0, .ref (x 0)), (1, .int (iI (b))), (2, .int (iI (i)))] [] (wM kI kZ x 0 co Rw nw Le Lt sn Cd Kp We mn Bg Sz Td Mp ts nr Fo np Pl Fw) := by
    intro N
    induction N with
    | zero =>
      intro i b i0 i1 i2 hN
      omega
    | succ N ih9 =>
      intro i b i0 i1 i2 hN
      refine j_iload_n (q := 10) C 2 rfl d_M_best_9 rfl ?_
      refine j_aload_n (q := 11) C 0 rfl d_M_best_10 rfl ?_
      refine j_get (q := 14) C i_M rfl 0 rfl 16 (by decide) rfl rfl fl_M_77 d_M_best_11 rfl ?_
      refine j_icmp_ge C 43 17 d_M_best_14 rfl rfl (by omega) (by omega) (fun c1 => ?_) (fun c1 => ?_)
      · refine j_iload_n (q := 44) C 1 rfl d_M_best_43 rfl ?_
        exact j_iret C hr hlk d_M_best_44 (congrArg (fun z => some (Value.int (iI z))) (show ((bsI (rkM Cd sn Fo We) nr.toNat).1) = (b) from by rw [show nr.toNat = i.toNat from by omega, ← i1])) rfl
      · refine j_iload_n (q := 18) C 1 rfl d_M_best_17 rfl ?_
        refine j_if_lt C 35 21 d_M_best_18 rfl rfl (by omega) (fun c2 => ?_) (fun c2 => ?_)
        · refine j_iload_n (q := 36) C 2 rfl d_M_best_35 rfl ?_
          refine j_istore_n (q := 37) C [(0, .ref (x 0)), (1, .int (iI (i))), (2, .int (iI (i)))] rfl (by decide) d_M_best_36 rfl ?_
          refine j_iinc (q := 40) C 2 [(0, .ref (x 0)), (1, .int (iI (i))), (2, .int (iI (i + 1)))] rfl rfl (by decide) d_M_best_37 rfl ?_
          refine j_goto C 9 d_M_best_40 rfl ?_
          have v0 := bsI_v (g := rkM Cd sn Fo We) i.toNat
          rw [← i1] at v0
          exact ih9 (i + 1) _ (by omega) (by rw [bsI_s _ i0.1, ← i1]; first | rw [if_pos (by omega)] | (rw [if_neg (by omega)]; exact i1)) (by omega) (by omega)
        · refine j_aload_n (q := 22) C 0 rfl d_M_best_21 rfl ?_
          refine j_iload_n (q := 23) C 2 rfl d_M_best_22 rfl ?_
          have e23 := rkM_r (Cd := Cd) (Fo := Fo) hWe hsn i
          refine j_callV (q := 26) (wr := []) C [.int (iI (i))] [] (c_M_rankOf kI kZ x 0 co Rw nw Le Lt sn Cd Kp We mn Bg Sz Td Mp ts nr Fo np Pl Fw hsn hCd hWe hnr hFo  hfl i (by omega)) ml_M_109 mk_M_rankOf in_M_rankOf se_M_rankOf rfl rfl rfl [0, 1, 2, 3, 4, 5, 6, 7, 8, 9, 10, 11, 12, 13] [] [0, 1, 2, 3, 4, 5, 6, 7, 8, 9, 10, 11, 12, 13] rfl (by decide) rfl (by decide) (by decide) (wM kI kZ x 0 co Rw nw Le Lt sn Cd Kp We mn Bg Sz Td Mp ts nr Fo np Pl Fw) rfl (by decide) rfl rfl rfl (Nat.le_of_ble_eq_true rfl) ⟨Nat.le_of_ble_eq_true rfl, Nat.le_of_ble_eq_true rfl⟩ ⟨Nat.le_of_ble_eq_true rfl, Nat.le_of_ble_eq_true rfl⟩ d_M_best_23 rfl ?_
          refine j_aload_n (q := 27) C 0 rfl d_M_best_26 rfl ?_
          refine j_iload_n (q := 28) C 1 rfl d_M_best_27 rfl ?_
          have e28 := rkM_r (Cd := Cd) (Fo := Fo) hWe hsn b
          refine j_callV (q := 31) (wr := []) C [.int (iI (b))] [.long (lI (rkM Cd sn Fo We i))] (c_M_rankOf kI kZ x 0 co Rw nw Le Lt sn Cd Kp We mn Bg Sz Td Mp ts nr Fo np Pl Fw hsn hCd hWe hnr hFo  hfl b (by omega)) ml_M_109 mk_M_rankOf in_M_rankOf se_M_rankOf rfl rfl rfl [0, 1, 2, 3, 4, 5, 6, 7, 8, 9, 10, 11, 12, 13] [] [0, 1, 2, 3, 4, 5, 6, 7, 8, 9, 10, 11, 12, 13] rfl (by decide) rfl (by decide) (by decide) (wM kI kZ x 0 co Rw nw Le Lt sn Cd Kp We mn Bg Sz Td Mp ts nr Fo np Pl Fw) rfl (by decide) rfl rfl rfl (Nat.le_of_ble_eq_true rfl) ⟨Nat.le_of_ble_eq_true rfl, Nat.le_of_ble_eq_true rfl⟩ ⟨Nat.le_of_ble_eq_true rfl, Nat.le_of_ble_eq_true rfl⟩ d_M_best_28 rfl ?_
          refine j_lcmp (q := 32) C (by omega) (by omega) d_M_best_31 rfl ?_
          have r32 : -1 ≤ (if rkM Cd sn Fo We b < rkM Cd sn Fo We i then (1 : Int) else if rkM Cd sn Fo We i = rkM Cd sn Fo We b then 0 else -1) ∧ (if rkM Cd sn Fo We b < rkM Cd sn Fo We i then (1 : Int) else if rkM Cd sn Fo We i = rkM Cd sn Fo We b then 0 else -1) ≤ 1 := by split <;> (try split) <;> omega
          refine j_if_le C 37 35 d_M_best_32 rfl rfl (by omega) (fun c3 => ?_) (fun c3 => ?_)
          · have c3 : rkM Cd sn Fo We i ≤ rkM Cd sn Fo We b := by split at c3 <;> (try split at c3) <;> omega
            refine j_iinc (q := 40) C 2 [(0, .ref (x 0)), (1, .int (iI (b))), (2, .int (iI (i + 1)))] rfl rfl (by decide) d_M_best_37 rfl ?_
            refine j_goto C 9 d_M_best_40 rfl ?_
            have v0 := bsI_v (g := rkM Cd sn Fo We) i.toNat
            rw [← i1] at v0
            exact ih9 (i + 1) _ (by omega) (by rw [bsI_s _ i0.1, ← i1]; first | rw [if_pos (by omega)] | (rw [if_neg (by omega)]; exact i1)) (by omega) (by omega)
          · have c3 : rkM Cd sn Fo We b < rkM Cd sn Fo We i := by split at c3 <;> (try split at c3) <;> omega
            refine j_iload_n (q := 36) C 2 rfl d_M_best_35 rfl ?_
            refine j_istore_n (q := 37) C [(0, .ref (x 0)), (1, .int (iI (i))), (2, .int (iI (i)))] rfl (by decide) d_M_best_36 rfl ?_
            refine j_iinc (q := 40) C 2 [(0, .ref (x 0)), (1, .int (iI (i))), (2, .int (iI (i + 1)))] rfl rfl (by decide) d_M_best_37 rfl ?_
            refine j_goto C 9 d_M_best_40 rfl ?_
            have v0 := bsI_v (g := rkM Cd sn Fo We) i.toNat
            rw [← i1] at v0
            exact ih9 (i + 1) _ (by omega) (by rw [bsI_s _ i0.1, ← i1]; first | rw [if_pos (by omega)] | (rw [if_neg (by omega)]; exact i1)) (by omega) (by omega)
  exact lp9 (nr.toNat + 1) 0 (-1) (by omega) rfl (by omega) (by omega)
noncomputable def hiM (Kp Cd : Nat → Int) (sn : Int) (Fo : Nat → Int) (nr : Int) : Int := lst (fun n => (Kp n.toNat = 0 ∧ inM Cd sn n) ∧ ∀ k : Int, 1 ≤ k → k < nr → Fo (26 * k + n).toNat = Fo n.toNat) 26

set_option maxRecDepth 100000 in
set_option maxHeartbeats 4000000 in
theorem c_M_hint {l : Launch} {D : va_G} (kI kZ : ClassId) (x : Nat → Nat) (th co : Int) (Rw : Nat → Int) (nw : Int) (Le Lt : Nat → Int) (sn : Int) (Cd Kp We : Nat → Int) (mn : Int) (Bg Sz Td Mp : Nat → Int) (ts nr : Int) (Fo : Nat → Int) (np : Int) (Pl Fw : Nat → Int) (hsn : 0 ≤ sn ∧ sn ≤ 60) (hCd : ∀ j, -1 ≤ Cd j ∧ Cd j ≤ 25) (hKp : ∀ j, 0 ≤ Kp j ∧ Kp j ≤ 122) (hnr : 0 ≤ nr ∧ nr ≤ 200) (hFo : ∀ j, 0 ≤ Fo j ∧ Fo j ≤ 122) : Dt l D (ty2 kI kZ) y_M_hint w_M_hint { frames := 1, cells := 0, slots := 0, locals := 22 } [.ref (x 0)] (wM kI kZ x th co Rw nw Le Lt sn Cd Kp We mn Bg Sz Td Mp ts nr Fo np Pl Fw) (some (.int (iI (if 0 < nr ∧ hiM Kp Cd sn Fo nr < 26 then hiM Kp Cd sn Fo nr else -1)))) (wM kI kZ x 0 co Rw nw Le Lt sn Cd (if 0 < nr ∧ hiM Kp Cd sn Fo nr < 26 then uI Kp (hiM Kp Cd sn Fo nr).toNat (Fo (hiM Kp Cd sn Fo nr).toNat) else Kp) We mn Bg Sz Td Mp ts nr Fo np Pl Fw) := by
  refine Met.toJ (own := R_M) (QD D (some (.int (iI (if 0 < nr ∧ hiM Kp Cd sn Fo nr < 26 then hiM Kp Cd sn Fo nr else -1)))) (wM kI kZ x 0 co Rw nw Le Lt sn Cd (if 0 < nr ∧ hiM Kp Cd sn Fo nr < 26 then uI Kp (hiM Kp Cd sn Fo nr).toNat (Fo (hiM Kp Cd sn Fo nr).toNat) else Kp) We mn Bg Sz Td Mp ts nr Fo np Pl Fw)) mk_M_hint rfl (Nat.le_of_ble_eq_true rfl) ?_
  intro p e s m args below meth c A C hr hlk hnm
  show JJ p l e { frames := 1, cells := 0, slots := 0, locals := 22 } s m args below meth c D A 4 (MQ below (QD D (some (.int (iI (if 0 < nr ∧ hiM Kp Cd sn Fo nr < 26 then hiM Kp Cd sn Fo nr else -1)))) (wM kI kZ x 0 co Rw nw Le Lt sn Cd (if 0 < nr ∧ hiM Kp Cd sn Fo nr < 26 then uI Kp (hiM Kp Cd sn Fo nr).toNat (Fo (hiM Kp Cd sn Fo nr).toNat) else Kp) We mn Bg Sz Td Mp ts nr Fo np Pl Fw) A) args s 0 0 A) 0 0 0 [(0, .ref (x 0))] [] (wM kI kZ x th co Rw nw Le Lt sn Cd Kp We mn Bg Sz Td Mp ts nr Fo np Pl Fw)
  refine j_aload_n (q := 1) C 0 rfl d_M_hint_0 rfl ?_
  refine j_iconst (q := 2) C d_M_hint_1 rfl ?_
  refine j_put (q := 5) (ty := .int) C i_M rfl t_M t_M_ok n_M 0 rfl 0 (by decide) rfl fl_M_49 rfl (by decide +kernel) rfl rfl (Nat.le_of_ble_eq_true rfl) (wM kI kZ x 0 co Rw nw Le Lt sn Cd Kp We mn Bg Sz Td Mp ts nr Fo np Pl Fw) rfl d_M_hint_2 rfl ?_
  refine j_iconst (q := 6) C d_M_hint_5 rfl ?_
  refine j_istore_n (q := 7) C [(0, .ref (x 0)), (1, .int (iI (0)))] rfl (by decide) d_M_hint_6 rfl ?_
  have lp7 : ∀ (N : Nat) (i : Int), (0 ≤ i ∧ i ≤ 26) → (∀ j, 0 ≤ j → j < i → ¬ ((Kp j.toNat = 0 ∧ inM Cd sn j) ∧ ∀ k : Int, 1 ≤ k → k < nr → Fo (26 * k + j).toNat = Fo j.toNat)) → (26 - i).toNat < N → JJ p l e { frames := 1, cells := 0, slots := 0, locals := 22 } s m args below meth c D A 4 (MQ below (QD D (some (.int (iI (if 0 < nr ∧ hiM Kp Cd sn Fo nr < 26 then hiM Kp Cd sn Fo nr else -1)))) (wM kI kZ x 0 co Rw nw Le Lt sn Cd (if 0 < nr ∧ hiM Kp Cd sn Fo nr < 26 then uI Kp (hiM Kp Cd sn Fo nr).toNat (Fo (hiM Kp Cd sn Fo nr).toNat) else Kp) We mn Bg Sz Td Mp ts nr Fo np Pl Fw) A) args s 0 0 A) 0 0 7 [(0, .ref (x 0)), (1, .int (iI (i)))] [] (wM kI kZ x 0 co Rw nw Le Lt sn Cd Kp We mn Bg Sz Td Mp ts nr Fo np Pl Fw) := by
    intro N
    induction N with
    | zero =>
      intro i i0 i1 hN
      omega
    | succ N ih7 =>
      intro i i0 i1 hN
      refine j_iload_n (q := 8) C 1 rfl d_M_hint_7 rfl ?_
      refine j_bipush (q := 10) C d_M_hint_8 rfl rfl ?_
      refine j_icmp_ge C 115 13 d_M_hint_10 rfl rfl (by omega) (by omega) (fun c1 => ?_) (fun c1 => ?_)
      · have f115 : hiM Kp Cd sn Fo nr = 26 := lst_no (fun j h1 h2 => i1 j h1 (by omega))
        have f116 : ¬ (0 < nr ∧ hiM Kp Cd sn Fo nr < 26) := by omega
        refine j_iconst (q := 116) C d_M_hint_115 rfl ?_
        exact j_iret C hr hlk d_M_hint_116 (congrArg (fun z => some (Value.int (iI z))) (show (if 0 < nr ∧ hiM Kp Cd sn Fo nr < 26 then hiM Kp Cd sn Fo nr else -1) = (-1) from if_neg f116)) (by rw [if_neg f116])
      · refine j_aload_n (q := 14) C 0 rfl d_M_hint_13 rfl ?_
        refine j_get (q := 17) C i_M rfl 0 rfl 16 (by decide) rfl rfl fl_M_77 d_M_hint_14 rfl ?_
        refine j_if_le C 115 20 d_M_hint_17 rfl rfl (by omega) (fun c2 => ?_) (fun c2 => ?_)
        · have f116 : ¬ (0 < nr ∧ hiM Kp Cd sn Fo nr < 26) := by omega
          refine j_iconst (q := 116) C d_M_hint_115 rfl ?_
          first | (exfalso; omega) | exact j_iret C hr hlk d_M_hint_116 (congrArg (fun z => some (Value.int (iI z))) (show (if 0 < nr ∧ hiM Kp Cd sn Fo nr < 26 then hiM Kp Cd sn Fo nr else -1) = (-1) from if_neg f116)) (by rw [if_neg f116])
        · refine j_aload_n (q := 21) C 0 rfl d_M_hint_20 rfl ?_
          refine j_get (q := 24) C i_M rfl 0 rfl 8 (by decide) rfl rfl fl_M_22 d_M_hint_21 rfl ?_
          refine j_iload_n (q := 25) C 1 rfl d_M_hint_24 rfl ?_
          refine j_iald (q := 26) C 5 0 rfl rfl (by decide) (by omega) d_M_hint_25 rfl ?_
          have h25 := hKp i.toNat
          refine j_if_ne C 109 29 d_M_hint_26 rfl rfl (by omega) (fun c3 => ?_) (fun c3 => ?_)
          · refine j_iinc (q := 112) C 1 [(0, .ref (x 0)), (1, .int (iI (i + 1)))] rfl rfl (by decide) d_M_hint_109 rfl ?_
            refine j_goto C 7 d_M_hint_112 rfl ?_
            refine j_lv [0, 1] rfl ?_
            exact ih7 (i + 1) (by omega) (fun j h1 h2 => by rcases (show j < i ∨ j = i by omega) with h | h; exact i1 j h1 h; rw [h]; exact (by first | exact (fun z => absurd z.1.1 (by omega)) | exact (fun z => ki z.1.2) | exact (fun z => j3 (by omega) (fun k h1 h2 => z.2 k h1 (by omega))))) (by omega)
          · refine j_aload_n (q := 30) C 0 rfl d_M_hint_29 rfl ?_
            refine j_iload_n (q := 31) C 1 rfl d_M_hint_30 rfl ?_
            have e31 := bI_r (inM Cd sn i)
            refine j_callV (q := 34) (wr := []) C [.int (iI (i))] [] (c_M_isIn kI kZ x 0 co Rw nw Le Lt sn Cd Kp We mn Bg Sz Td Mp ts nr Fo np Pl Fw hsn hCd i (by omega)) ml_M_86 mk_M_isIn in_M_isIn se_M_isIn rfl rfl rfl [0, 1, 2, 3, 4, 5, 6, 7, 8, 9, 10, 11, 12, 13] [] [0, 1, 2, 3, 4, 5, 6, 7, 8, 9, 10, 11, 12, 13] rfl (by decide) rfl (by decide) (by decide) (wM kI kZ x 0 co Rw nw Le Lt sn Cd Kp We mn Bg Sz Td Mp ts nr Fo np Pl Fw) rfl (by decide) rfl rfl rfl (Nat.le_of_ble_eq_true rfl) ⟨Nat.le_of_ble_eq_true rfl, Nat.le_of_ble_eq_true rfl⟩ ⟨Nat.le_of_ble_eq_true rfl, Nat.le_of_ble_eq_true rfl⟩ d_M_hint_31 rfl ?_
            refine j_if_ne C 40 37 d_M_hint_34 rfl rfl (by omega) (fun c4 => ?_) (fun c4 => ?_)
            · have c4 := bI_n c4
              have ki := c4
              refine j_iconst (q := 41) C d_M_hint_40 rfl ?_
              refine j_istore_n (q := 42) C [(0, .ref (x 0)), (1, .int (iI (i))), (2, .int (iI (1)))] rfl (by decide) d_M_hint_41 rfl ?_
              refine j_iconst (q := 43) C d_M_hint_42 rfl ?_
              refine j_istore_n (q := 44) C [(0, .ref (x 0)), (1, .int (iI (i))), (2, .int (iI (1))), (3, .int (iI (1)))] rfl (by decide) d_M_hint_43 rfl ?_
              have lp44 : ∀ (N : Nat) (k0 y0 : Int), (1 ≤ k0 ∧ k0 ≤ 201 ∧ (k0 ≤ nr ∨ k0 = 1)) → (y0 = 0 ∨ y0 = 1) → (y0 = 1 → ∀ k : Int, 1 ≤ k → k < k0 → Fo (26 * k + i).toNat = Fo i.toNat) → (y0 = 0 → ¬ ∀ k : Int, 1 ≤ k → k < k0 → Fo (26 * k + i).toNat = Fo i.toNat) → (201 - k0).toNat < N → JJ p l e { frames := 1, cells := 0, slots := 0, locals := 22 } s m args below meth c D A 4 (MQ below (QD D (some (.int (iI (if 0 < nr ∧ hiM Kp Cd sn Fo nr < 26 then hiM Kp Cd sn Fo nr else -1)))) (wM kI kZ x 0 co Rw nw Le Lt sn Cd (if 0 < nr ∧ hiM Kp Cd sn Fo nr < 26 then uI Kp (hiM Kp Cd sn Fo nr).toNat (Fo (hiM Kp Cd sn Fo nr).toNat) else Kp) We mn Bg Sz Td Mp ts nr Fo np Pl Fw) A) args s 0 0 A) 0 0 44 [(0, .ref (x 0)), (1, .int (iI (i))), (2, .int (iI (y0))), (3, .int (iI (k0)))] [] (wM kI kZ x 0 co Rw nw Le Lt sn Cd Kp We mn Bg Sz Td Mp ts nr Fo np Pl Fw) := by
                intro N
                induction N with
                | zero =>
                  intro k0 y0 j0 j1 j2 j3 hN
                  omega
                | succ N ih44 =>
                  intro k0 y0 j0 j1 j2 j3 hN
                  refine j_iload_n (q := 45) C 3 rfl d_M_hint_44 rfl ?_
                  refine j_aload_n (q := 46) C 0 rfl d_M_hint_45 rfl ?_
                  refine j_get (q := 49) C i_M rfl 0 rfl 16 (by decide) rfl rfl fl_M_77 d_M_hint_46 rfl ?_
                  refine j_icmp_ge C 88 52 d_M_hint_49 rfl rfl (by omega) (by omega) (fun c5 => ?_) (fun c5 => ?_)
                  · refine j_iload_n (q := 89) C 2 rfl d_M_hint_88 rfl ?_
                    refine j_if_ne C 95 92 d_M_hint_89 rfl rfl (by omega) (fun c6 => ?_) (fun c6 => ?_)
                    · refine j_aload_n (q := 96) C 0 rfl d_M_hint_95 rfl ?_
                      refine j_get (q := 99) C i_M rfl 0 rfl 8 (by decide) rfl rfl fl_M_22 d_M_hint_96 rfl ?_
                      refine j_iload_n (q := 100) C 1 rfl d_M_hint_99 rfl ?_
                      refine j_aload_n (q := 101) C 0 rfl d_M_hint_100 rfl ?_
                      refine j_get (q := 104) C i_M rfl 0 rfl 17 (by decide) rfl rfl fl_M_40 d_M_hint_101 rfl ?_
                      refine j_iload_n (q := 105) C 1 rfl d_M_hint_104 rfl ?_
                      refine j_iald (q := 106) C 11 0 rfl rfl (by decide) (by omega) d_M_hint_105 rfl ?_
                      have h105 := hFo i.toNat
                      refine j_iast (q := 107) C 5 0 rfl rfl (by decide) (by omega) (wM kI kZ x 0 co Rw nw Le Lt sn Cd (uI Kp i.toNat (Fo i.toNat)) We mn Bg Sz Td Mp ts nr Fo np Pl Fw) rfl d_M_hint_106 rfl ?_
                      have f107 : hiM Kp Cd sn Fo nr = i := lst_at i0.1 (by omega) ⟨⟨by omega, ki⟩, fun k h1 h2 => (j2 (by omega)) k h1 (by omega)⟩ i1
                      refine j_iload_n (q := 108) C 1 rfl d_M_hint_107 rfl ?_
                      first | (exfalso; omega) | exact j_iret C hr hlk d_M_hint_108 (congrArg (fun z => some (Value.int (iI z))) (show (if 0 < nr ∧ hiM Kp Cd sn Fo nr < 26 then hiM Kp Cd sn Fo nr else -1) = (i) from by rw [f107, if_pos (by omega)])) (by rw [f107, if_pos (by omega)])
                    · refine j_goto C 109 d_M_hint_92 rfl ?_
                      refine j_iinc (q := 112) C 1 [(0, .ref (x 0)), (1, .int (iI (i + 1))), (2, .int (iI (y0))), (3, .int (iI (k0)))] rfl rfl (by decide) d_M_hint_109 rfl ?_
                      refine j_goto C 7 d_M_hint_112 rfl ?_
                      refine j_lv [0, 1] rfl ?_
                      exact ih7 (i + 1) (by omega) (fun j h1 h2 => by rcases (show j < i ∨ j = i by omega) with h | h; exact i1 j h1 h; rw [h]; exact (by first | exact (fun z => absurd z.1.1 (by omega)) | exact (fun z => ki z.1.2) | exact (fun z => j3 (by omega) (fun k h1 h2 => z.2 k h1 (by omega))))) (by omega)
                  · refine j_iload_n (q := 53) C 2 rfl d_M_hint_52 rfl ?_
                    refine j_if_eq C 80 56 d_M_hint_53 rfl rfl (by omega) (fun c7 => ?_) (fun c7 => ?_)
                    · refine j_iconst (q := 81) C d_M_hint_80 rfl ?_
                      refine j_istore_n (q := 82) C [(0, .ref (x 0)), (1, .int (iI (i))), (2, .int (iI (0))), (3, .int (iI (k0)))] rfl (by decide) d_M_hint_81 rfl ?_
                      refine j_iinc (q := 85) C 3 [(0, .ref (x 0)), (1, .int (iI (i))), (2, .int (iI (0))), (3, .int (iI (k0 + 1)))] rfl rfl (by decide) d_M_hint_82 rfl ?_
                      refine j_goto C 44 d_M_hint_85 rfl ?_
                      exact ih44 (k0 + 1) _ (by omega) (by omega) (fun h k h1 h2 => by first | (exfalso; omega) | (rcases (show k < k0 ∨ k = k0 by omega) with q | q; exact j2 (by omega) k h1 q; rw [q]; omega)) (fun h => by first | (exfalso; omega) | exact (fun z => j3 (by omega) (fun k h1 h2 => z k h1 (by omega))) | exact (fun z => absurd (z k0 (by omega) (by omega)) (by omega))) (by omega)
                    · refine j_aload_n (q := 57) C 0 rfl d_M_hint_56 rfl ?_
                      refine j_get (q := 60) C i_M rfl 0 rfl 17 (by decide) rfl rfl fl_M_40 d_M_hint_57 rfl ?_
                      refine j_bipush (q := 62) C d_M_hint_60 rfl rfl ?_
                      refine j_iload_n (q := 63) C 3 rfl d_M_hint_62 rfl ?_
                      refine j_imul (q := 64) C d_M_hint_63 rfl ?_
                      refine j_iload_n (q := 65) C 1 rfl d_M_hint_64 rfl ?_
                      refine j_iadd (q := 66) C d_M_hint_65 rfl ?_
                      refine j_iald (q := 67) C 11 0 rfl rfl (by decide) (by omega) d_M_hint_66 rfl ?_
                      have h66 := hFo ((26 * k0) + i).toNat
                      refine j_aload_n (q := 68) C 0 rfl d_M_hint_67 rfl ?_
                      refine j_get (q := 71) C i_M rfl 0 rfl 17 (by decide) rfl rfl fl_M_40 d_M_hint_68 rfl ?_
                      refine j_iload_n (q := 72) C 1 rfl d_M_hint_71 rfl ?_
                      refine j_iald (q := 73) C 11 0 rfl rfl (by decide) (by omega) d_M_hint_72 rfl ?_
                      have h72 := hFo i.toNat
                      refine j_icmp_ne C 80 76 d_M_hint_73 rfl rfl (by omega) (by omega) (fun c8 => ?_) (fun c8 => ?_)
                      · refine j_iconst (q := 81) C d_M_hint_80 rfl ?_
                        refine j_istore_n (q := 82) C [(0, .ref (x 0)), (1, .int (iI (i))), (2, .int (iI (0))), (3, .int (iI (k0)))] rfl (by decide) d_M_hint_81 rfl ?_
                        refine j_iinc (q := 85) C 3 [(0, .ref (x 0)), (1, .int (iI (i))), (2, .int (iI (0))), (3, .int (iI (k0 + 1)))] rfl rfl (by decide) d_M_hint_82 rfl ?_
                        refine j_goto C 44 d_M_hint_85 rfl ?_
                        exact ih44 (k0 + 1) _ (by omega) (by omega) (fun h k h1 h2 => by first | (exfalso; omega) | (rcases (show k < k0 ∨ k = k0 by omega) with q | q; exact j2 (by omega) k h1 q; rw [q]; omega)) (fun h => by first | (exfalso; omega) | exact (fun z => j3 (by omega) (fun k h1 h2 => z k h1 (by omega))) | exact (fun z => absurd (z k0 (by omega) (by omega)) (by omega))) (by omega)
                      · refine j_iconst (q := 77) C d_M_hint_76 rfl ?_
                        refine j_goto C 81 d_M_hint_77 rfl ?_
                        refine j_istore_n (q := 82) C [(0, .ref (x 0)), (1, .int (iI (i))), (2, .int (iI (1))), (3, .int (iI (k0)))] rfl (by decide) d_M_hint_81 rfl ?_
                        refine j_iinc (q := 85) C 3 [(0, .ref (x 0)), (1, .int (iI (i))), (2, .int (iI (1))), (3, .int (iI (k0 + 1)))] rfl rfl (by decide) d_M_hint_82 rfl ?_
                        refine j_goto C 44 d_M_hint_85 rfl ?_
                        exact ih44 (k0 + 1) _ (by omega) (by omega) (fun h k h1 h2 => by first | (exfalso; omega) | (rcases (show k < k0 ∨ k = k0 by omega) with q | q; exact j2 (by omega) k h1 q; rw [q]; omega)) (fun h => by first | (exfalso; omega) | exact (fun z => j3 (by omega) (fun k h1 h2 => z k h1 (by omega))) | exact (fun z => absurd (z k0 (by omega) (by omega)) (by omega))) (by omega)
              exact lp44 201 1 1 (by omega) (by omega) (fun _ k h1 h2 => by omega) (fun h => by omega) (by omega)
            · have c4 := bI_z c4
              have ki := c4
              refine j_goto C 109 d_M_hint_37 rfl ?_
              refine j_iinc (q := 112) C 1 [(0, .ref (x 0)), (1, .int (iI (i + 1)))] rfl rfl (by decide) d_M_hint_109 rfl ?_
              refine j_goto C 7 d_M_hint_112 rfl ?_
              refine j_lv [0, 1] rfl ?_
              exact ih7 (i + 1) (by omega) (fun j h1 h2 => by rcases (show j < i ∨ j = i by omega) with h | h; exact i1 j h1 h; rw [h]; exact (by first | exact (fun z => absurd z.1.1 (by omega)) | exact (fun z => ki z.1.2) | exact (fun z => j3 (by omega) (fun k h1 h2 => z.2 k h1 (by omega))))) (by omega)
  exact lp7 27 0 (by omega) (fun j h1 h2 => by omega) (by omega)
set_option maxRecDepth 100000 in
set_option maxHeartbeats 4000000 in
theorem c_M_bestShift {l : Launch} {D : va_G} (kI kZ : ClassId) (x : Nat → Nat) (th co : Int) (Rw : Nat → Int) (nw : Int) (Le Lt : Nat → Int) (sn : Int) (Cd Kp We : Nat → Int) (mn : Int) (Bg Sz Td Mp : Nat → Int) (ts nr : Int) (Fo : Nat → Int) (np : Int) (Pl Fw : Nat → Int) (hWe : ∀ j, -1000 ≤ We j ∧ We j ≤ 1000) (hnp : 0 ≤ np ∧ np ≤ 60) (hPl : ∀ j, 0 ≤ Pl j ∧ Pl j ≤ 122) (hPq : ∀ i : Int, 0 ≤ i → i < np → 97 ≤ Pl i.toNat) : Dt l D (ty2 kI kZ) y_M_bestShift w_M_bestShift { frames := 1, cells := 0, slots := 0, locals := 22 } [.ref (x 0)] (wM kI kZ x th co Rw nw Le Lt sn Cd Kp We mn Bg Sz Td Mp ts nr Fo np Pl Fw) (some (.int (iI ((bsI (shC We (fun j => Pl j - 97) np) 26).1)))) (wM kI kZ x 0 co Rw nw Le Lt sn Cd Kp We mn Bg Sz Td Mp ts nr Fo np Pl Fw) := by
  refine Met.toJ (own := R_M) (QD D (some (.int (iI ((bsI (shC We (fun j => Pl j - 97) np) 26).1)))) (wM kI kZ x 0 co Rw nw Le Lt sn Cd Kp We mn Bg Sz Td Mp ts nr Fo np Pl Fw)) mk_M_bestShift rfl (Nat.le_of_ble_eq_true rfl) ?_
  intro p e s m args below meth c A C hr hlk hnm
  show JJ p l e { frames := 1, cells := 0, slots := 0, locals := 22 } s m args below meth c D A 8 (MQ below (QD D (some (.int (iI ((bsI (shC We (fun j => Pl j - 97) np) 26).1)))) (wM kI kZ x 0 co Rw nw Le Lt sn Cd Kp We mn Bg Sz Td Mp ts nr Fo np Pl Fw) A) args s 0 0 A) 0 0 0 [(0, .ref (x 0))] [] (wM kI kZ x th co Rw nw Le Lt sn Cd Kp We mn Bg Sz Td Mp ts nr Fo np Pl Fw)
  have hsr := fun t => shC_r (XP := (fun j => Pl j - 97)) (PW := We) hWe hnp t
  refine j_aload_n (q := 1) C 0 rfl d_M_bestShift_0 rfl ?_
  refine j_iconst (q := 2) C d_M_bestShift_1 rfl ?_
  refine j_put (q := 5) (ty := .int) C i_M rfl t_M t_M_ok n_M 0 rfl 0 (by decide) rfl fl_M_49 rfl (by decide +kernel) rfl rfl (Nat.le_of_ble_eq_true rfl) (wM kI kZ x 0 co Rw nw Le Lt sn Cd Kp We mn Bg Sz Td Mp ts nr Fo np Pl Fw) rfl d_M_bestShift_2 rfl ?_
  refine j_iconst (q := 6) C d_M_bestShift_5 rfl ?_
  refine j_istore_n (q := 7) C [(0, .ref (x 0)), (1, .int (iI (0)))] rfl (by decide) d_M_bestShift_6 rfl ?_
  refine j_lconst0 (q := 8) C d_M_bestShift_7 rfl ?_
  refine j_lstore_n (q := 9) C [(0, .ref (x 0)), (1, .int (iI (0))), (2, .long (lI (0)))] rfl (by decide) d_M_bestShift_8 rfl ?_
  refine j_iconst (q := 10) C d_M_bestShift_9 rfl ?_
  refine j_istore (q := 12) C [(0, .ref (x 0)), (1, .int (iI (0))), (2, .long (lI (0))), (4, .int (iI (0)))] rfl (by decide) d_M_bestShift_10 rfl ?_
  have lp12 : ∀ (N : Nat) (i b t : Int), (0 ≤ i ∧ i ≤ 26) → (((i = 0 ∧ b = 0) ∧ t = 0) ∨ (0 < i ∧ (b, t) = bsI (shC We (fun j => Pl j - 97) np) i.toNat)) → ((0 ≤ b ∧ b ≤ i) ∧ (-100000 ≤ t ∧ t ≤ 100000)) → (26 - i).toNat < N → JJ p l e { frames := 1, cells := 0, slots := 0, locals := 22 } s m args below meth c D A 8 (MQ below (QD D (some (.int (iI ((bsI (shC We (fun j => Pl j - 97) np) 26).1)))) (wM kI kZ x 0 co Rw nw Le Lt sn Cd Kp We mn Bg Sz Td Mp ts nr Fo np Pl Fw) A) args s 0 0 A) 0 0 12 [(0, .ref (x 0)), (1, .int (iI (b))), (2, .long (lI (t))), (4, .int (iI (i)))] [] (wM kI kZ x 0 co Rw nw Le Lt sn Cd Kp We mn Bg Sz Td Mp ts nr Fo np Pl Fw) := by
    intro N
    induction N with
    | zero =>
      intro i b t i0 i1 i2 hN
      omega
    | succ N ih12 =>
      intro i b t i0 i1 i2 hN
      refine j_iload (q := 14) C 3 rfl d_M_bestShift_12 rfl ?_
      refine j_bipush (q := 16) C d_M_bestShift_14 rfl rfl ?_
      refine j_icmp_ge C 103 19 d_M_bestShift_16 rfl rfl (by omega) (by omega) (fun c1 => ?_) (fun c1 => ?_)
      · refine j_iload_n (q := 104) C 1 rfl d_M_bestShift_103 rfl ?_
        exact j_iret C hr hlk d_M_bestShift_104 (congrArg (fun z => some (Value.int (iI z))) (show ((bsI (shC We (fun j => Pl j - 97) np) 26).1) = (b) from by rcases i1 with q | q; exfalso; omega; rw [show (26 : Nat) = i.toNat from by omega, ← q.2])) rfl
      · refine j_lconst0 (q := 20) C d_M_bestShift_19 rfl ?_
        refine j_lstore (q := 22) C [(0, .ref (x 0)), (1, .int (iI (b))), (2, .long (lI (t))), (4, .int (iI (i))), (5, .long (lI (0)))] rfl (by decide) d_M_bestShift_20 rfl ?_
        refine j_iconst (q := 23) C d_M_bestShift_22 rfl ?_
        refine j_istore (q := 25) C [(0, .ref (x 0)), (1, .int (iI (b))), (2, .long (lI (t))), (4, .int (iI (i))), (5, .long (lI (0))), (7, .int (iI (1)))] rfl (by decide) d_M_bestShift_23 rfl ?_
        have lp25 : ∀ (N : Nat) (n u : Int), (1 ≤ n ∧ n ≤ 61 ∧ (n ≤ np ∨ n = 1)) → (u = smI (shG We (fun j => Pl j - 97) np i) (n - 1).toNat) → (-100000 ≤ u ∧ u ≤ 100000) → (61 - n).toNat < N → JJ p l e { frames := 1, cells := 0, slots := 0, locals := 22 } s m args below meth c D A 8 (MQ below (QD D (some (.int (iI ((bsI (shC We (fun j => Pl j - 97) np) 26).1)))) (wM kI kZ x 0 co Rw nw Le Lt sn Cd Kp We mn Bg Sz Td Mp ts nr Fo np Pl Fw) A) args s 0 0 A) 0 0 25 [(0, .ref (x 0)), (1, .int (iI (b))), (2, .long (lI (t))), (4, .int (iI (i))), (5, .long (lI (u))), (7, .int (iI (n)))] [] (wM kI kZ x 0 co Rw nw Le Lt sn Cd Kp We mn Bg Sz Td Mp ts nr Fo np Pl Fw) := by
          intro N
          induction N with
          | zero =>
            intro n u j0 j1 j2 hN
            omega
          | succ N ih25 =>
            intro n u j0 j1 j2 hN
            refine j_iload (q := 27) C 5 rfl d_M_bestShift_25 rfl ?_
            refine j_aload_n (q := 28) C 0 rfl d_M_bestShift_27 rfl ?_
            refine j_get (q := 31) C i_M rfl 0 rfl 18 (by decide) rfl rfl fl_M_113 d_M_bestShift_28 rfl ?_
            refine j_icmp_ge C 76 34 d_M_bestShift_31 rfl rfl (by omega) (by omega) (fun c2 => ?_) (fun c2 => ?_)
            · have s76 : u = shC We (fun j => Pl j - 97) np i := by unfold shC; rw [j1]; congr 1; omega
              have r76 := hsr i
              refine j_iload (q := 78) C 3 rfl d_M_bestShift_76 rfl ?_
              refine j_if_le C 91 81 d_M_bestShift_78 rfl rfl (by omega) (fun c3 => ?_) (fun c3 => ?_)
              · refine j_iload (q := 93) C 3 rfl d_M_bestShift_91 rfl ?_
                refine j_istore_n (q := 94) C [(0, .ref (x 0)), (1, .int (iI (i))), (2, .long (lI (t))), (4, .int (iI (i))), (5, .long (lI (u))), (7, .int (iI (n)))] rfl (by decide) d_M_bestShift_93 rfl ?_
                refine j_lload (q := 96) C 4 rfl d_M_bestShift_94 rfl ?_
                refine j_lstore_n (q := 97) C [(0, .ref (x 0)), (1, .int (iI (i))), (2, .long (lI (u))), (4, .int (iI (i))), (5, .long (lI (u))), (7, .int (iI (n)))] rfl (by decide) d_M_bestShift_96 rfl ?_
                refine j_iinc (q := 100) C 3 [(0, .ref (x 0)), (1, .int (iI (i))), (2, .long (lI (u))), (4, .int (iI (i + 1))), (5, .long (lI (u))), (7, .int (iI (n)))] rfl rfl (by decide) d_M_bestShift_97 rfl ?_
                refine j_goto C 12 d_M_bestShift_100 rfl ?_
                refine j_lv [0, 1, 2, 3] rfl ?_
                exact ih12 (i + 1) _ _ (by omega) (Or.inr ⟨by omega, (by rw [bsI_s _ i0.1]; rcases i1 with q | q; rw [q.1.1]; (first | (exfalso; omega) | (rw [s76, q.1.1]; rfl)); rw [← q.2]; first | (exfalso; omega) | (rw [if_pos (by dsimp only; omega), s76]) | rw [if_neg (by dsimp only; omega)])⟩) (by omega) (by omega)
              · refine j_lload (q := 83) C 4 rfl d_M_bestShift_81 rfl ?_
                refine j_lload_n (q := 84) C 2 rfl d_M_bestShift_83 rfl ?_
                have r85 : -1 ≤ (if t < u then (1 : Int) else if u = t then 0 else -1) ∧ (if t < u then (1 : Int) else if u = t then 0 else -1) ≤ 1 := by split <;> (try split) <;> omega
                refine j_lcmp (q := 85) C (by omega) (by omega) d_M_bestShift_84 rfl ?_
                refine j_if_gt C 91 88 d_M_bestShift_85 rfl rfl (by omega) (fun c4 => ?_) (fun c4 => ?_)
                · have c4 : t < u := by split at c4 <;> (try split at c4) <;> omega
                  refine j_iload (q := 93) C 3 rfl d_M_bestShift_91 rfl ?_
                  refine j_istore_n (q := 94) C [(0, .ref (x 0)), (1, .int (iI (i))), (2, .long (lI (t))), (4, .int (iI (i))), (5, .long (lI (u))), (7, .int (iI (n)))] rfl (by decide) d_M_bestShift_93 rfl ?_
                  refine j_lload (q := 96) C 4 rfl d_M_bestShift_94 rfl ?_
                  refine j_lstore_n (q := 97) C [(0, .ref (x 0)), (1, .int (iI (i))), (2, .long (lI (u))), (4, .int (iI (i))), (5, .long (lI (u))), (7, .int (iI (n)))] rfl (by decide) d_M_bestShift_96 rfl ?_
                  refine j_iinc (q := 100) C 3 [(0, .ref (x 0)), (1, .int (iI (i))), (2, .long (lI (u))), (4, .int (iI (i + 1))), (5, .long (lI (u))), (7, .int (iI (n)))] rfl rfl (by decide) d_M_bestShift_97 rfl ?_
                  refine j_goto C 12 d_M_bestShift_100 rfl ?_
                  refine j_lv [0, 1, 2, 3] rfl ?_
                  exact ih12 (i + 1) _ _ (by omega) (Or.inr ⟨by omega, (by rw [bsI_s _ i0.1]; rcases i1 with q | q; rw [q.1.1]; (first | (exfalso; omega) | (rw [s76, q.1.1]; rfl)); rw [← q.2]; first | (exfalso; omega) | (rw [if_pos (by dsimp only; omega), s76]) | rw [if_neg (by dsimp only; omega)])⟩) (by omega) (by omega)
                · have c4 : u ≤ t := by split at c4 <;> (try split at c4) <;> omega
                  refine j_goto C 97 d_M_bestShift_88 rfl ?_
                  refine j_iinc (q := 100) C 3 [(0, .ref (x 0)), (1, .int (iI (b))), (2, .long (lI (t))), (4, .int (iI (i + 1))), (5, .long (lI (u))), (7, .int (iI (n)))] rfl rfl (by decide) d_M_bestShift_97 rfl ?_
                  refine j_goto C 12 d_M_bestShift_100 rfl ?_
                  refine j_lv [0, 1, 2, 3] rfl ?_
                  exact ih12 (i + 1) _ _ (by omega) (Or.inr ⟨by omega, (by rw [bsI_s _ i0.1]; rcases i1 with q | q; rw [q.1.1]; (first | (exfalso; omega) | (rw [s76, q.1.1]; rfl)); rw [← q.2]; first | (exfalso; omega) | (rw [if_pos (by dsimp only; omega), s76]) | rw [if_neg (by dsimp only; omega)])⟩) (by omega) (by omega)
            · refine j_lload (q := 36) C 4 rfl d_M_bestShift_34 rfl ?_
              refine j_aload_n (q := 37) C 0 rfl d_M_bestShift_36 rfl ?_
              refine j_aload_n (q := 38) C 0 rfl d_M_bestShift_37 rfl ?_
              refine j_get (q := 41) C i_M rfl 0 rfl 19 (by decide) rfl rfl fl_M_43 d_M_bestShift_38 rfl ?_
              refine j_iload (q := 43) C 5 rfl d_M_bestShift_41 rfl ?_
              refine j_iconst (q := 44) C d_M_bestShift_43 rfl ?_
              refine j_isub (q := 45) C d_M_bestShift_44 rfl ?_
              refine j_iald (q := 46) C 12 0 rfl rfl (by decide) (by omega) d_M_bestShift_45 rfl ?_
              have h45 := hPl (n - 1).toNat
              refine j_iload (q := 48) C 3 rfl d_M_bestShift_46 rfl ?_
              have q48 := hPq (n - 1) (by omega) (by omega)
              have e48 : 97 ≤ 97 + ((Pl (n - 1).toNat) - 97 + i) % 26 ∧ 97 + ((Pl (n - 1).toNat) - 97 + i) % 26 ≤ 122 := by omega
              refine j_callS (q := 51) (wr := wM kI kZ x 0 co Rw nw Le Lt sn Cd Kp We mn Bg Sz Td Mp ts nr Fo np Pl Fw) C [.int (iI (Pl (n - 1).toNat)), .int (iI (i))] [.ref (x 0), .long (lI (u))] (c_M_shift kI kZ x (Pl (n - 1).toNat) i (by omega) (by omega)) ml_M_116 mk_M_shift st_M_shift [] [0, 1, 2, 3, 4, 5, 6, 7, 8, 9, 10, 11, 12, 13] [0, 1, 2, 3, 4, 5, 6, 7, 8, 9, 10, 11, 12, 13] rfl (by decide) rfl (by decide) (by decide) (wM kI kZ x 0 co Rw nw Le Lt sn Cd Kp We mn Bg Sz Td Mp ts nr Fo np Pl Fw) rfl (by decide) rfl rfl rfl (Nat.le_of_ble_eq_true rfl) ⟨Nat.le_of_ble_eq_true rfl, Nat.le_of_ble_eq_true rfl⟩ ⟨Nat.le_of_ble_eq_true rfl, Nat.le_of_ble_eq_true rfl⟩ d_M_bestShift_48 rfl ?_
              refine j_aload_n (q := 52) C 0 rfl d_M_bestShift_51 rfl ?_
              refine j_get (q := 55) C i_M rfl 0 rfl 19 (by decide) rfl rfl fl_M_43 d_M_bestShift_52 rfl ?_
              refine j_iload (q := 57) C 5 rfl d_M_bestShift_55 rfl ?_
              refine j_iald (q := 58) C 12 0 rfl rfl (by decide) (by omega) d_M_bestShift_57 rfl ?_
              have h57 := hPl n.toNat
              refine j_iload (q := 60) C 3 rfl d_M_bestShift_58 rfl ?_
              have q60 := hPq n (by omega) (by omega)
              have e60 : 97 ≤ 97 + ((Pl n.toNat) - 97 + i) % 26 ∧ 97 + ((Pl n.toNat) - 97 + i) % 26 ≤ 122 := by omega
              refine j_callS (q := 63) (wr := wM kI kZ x 0 co Rw nw Le Lt sn Cd Kp We mn Bg Sz Td Mp ts nr Fo np Pl Fw) C [.int (iI (Pl n.toNat)), .int (iI (i))] [.int (iI (97 + ((Pl (n - 1).toNat) - 97 + i) % 26)), .ref (x 0), .long (lI (u))] (c_M_shift kI kZ x (Pl n.toNat) i (by omega) (by omega)) ml_M_116 mk_M_shift st_M_shift [] [0, 1, 2, 3, 4, 5, 6, 7, 8, 9, 10, 11, 12, 13] [0, 1, 2, 3, 4, 5, 6, 7, 8, 9, 10, 11, 12, 13] rfl (by decide) rfl (by decide) (by decide) (wM kI kZ x 0 co Rw nw Le Lt sn Cd Kp We mn Bg Sz Td Mp ts nr Fo np Pl Fw) rfl (by decide) rfl rfl rfl (Nat.le_of_ble_eq_true rfl) ⟨Nat.le_of_ble_eq_true rfl, Nat.le_of_ble_eq_true rfl⟩ ⟨Nat.le_of_ble_eq_true rfl, Nat.le_of_ble_eq_true rfl⟩ d_M_bestShift_60 rfl ?_
              have e63 := hWe (26 * ((97 + ((Pl (n - 1).toNat) - 97 + i) % 26) - 97) + (97 + ((Pl n.toNat) - 97 + i) % 26) - 97).toNat
              refine j_callV (q := 66) (wr := []) C [.int (iI (97 + ((Pl (n - 1).toNat) - 97 + i) % 26)), .int (iI (97 + ((Pl n.toNat) - 97 + i) % 26))] [.long (lI (u))] (c_M_weight kI kZ x 0 co Rw nw Le Lt sn Cd Kp We mn Bg Sz Td Mp ts nr Fo np Pl Fw hWe (97 + ((Pl (n - 1).toNat) - 97 + i) % 26) (97 + ((Pl n.toNat) - 97 + i) % 26) (by omega) (by omega)) ml_M_106 mk_M_weight in_M_weight se_M_weight rfl rfl rfl [0, 1, 2, 3, 4, 5, 6, 7, 8, 9, 10, 11, 12, 13] [] [0, 1, 2, 3, 4, 5, 6, 7, 8, 9, 10, 11, 12, 13] rfl (by decide) rfl (by decide) (by decide) (wM kI kZ x 0 co Rw nw Le Lt sn Cd Kp We mn Bg Sz Td Mp ts nr Fo np Pl Fw) rfl (by decide) rfl rfl rfl (Nat.le_of_ble_eq_true rfl) ⟨Nat.le_of_ble_eq_true rfl, Nat.le_of_ble_eq_true rfl⟩ ⟨Nat.le_of_ble_eq_true rfl, Nat.le_of_ble_eq_true rfl⟩ d_M_bestShift_63 rfl ?_
              have g66 : We (26 * (97 + (Pl (n - 1).toNat - 97 + i) % 26 - 97) + (97 + (Pl n.toNat - 97 + i) % 26) - 97).toNat = shG We (fun j => Pl j - 97) np i n := by unfold shG wtOf sgAt; rw [if_pos (by omega), if_pos (by omega), if_pos (by omega)]; congr 1; dsimp only; omega
              refine j_i2l (q := 67) C (by omega) d_M_bestShift_66 rfl ?_
              refine j_ladd (q := 68) C d_M_bestShift_67 rfl ?_
              refine j_lstore (q := 70) C [(0, .ref (x 0)), (1, .int (iI (b))), (2, .long (lI (t))), (4, .int (iI (i))), (5, .long (lI (u + (We (26 * ((97 + ((Pl (n - 1).toNat) - 97 + i) % 26) - 97) + (97 + ((Pl n.toNat) - 97 + i) % 26) - 97).toNat)))), (7, .int (iI (n)))] rfl (by decide) d_M_bestShift_68 rfl ?_
              refine j_iinc (q := 73) C 5 [(0, .ref (x 0)), (1, .int (iI (b))), (2, .long (lI (t))), (4, .int (iI (i))), (5, .long (lI (u + (We (26 * ((97 + ((Pl (n - 1).toNat) - 97 + i) % 26) - 97) + (97 + ((Pl n.toNat) - 97 + i) % 26) - 97).toNat)))), (7, .int (iI (n + 1)))] rfl rfl (by decide) d_M_bestShift_70 rfl ?_
              refine j_goto C 25 d_M_bestShift_73 rfl ?_
              have n0 : smI (shG We (fun j => Pl j - 97) np i) n.toNat = smI (shG We (fun j => Pl j - 97) np i) (n - 1).toNat + shG We (fun j => Pl j - 97) np i n := smI_s _ j0.1
              have n1 := smI_r (g := shG We (fun j => Pl j - 97) np i) (fun z => wtOf_r hWe _ _) n.toNat
              rw [g66, ← show smI (shG We (fun j => Pl j - 97) np i) n.toNat = u + shG We (fun j => Pl j - 97) np i n from by rw [n0, ← j1]]
              exact ih25 (n + 1) _ (by omega) (by rw [show n + 1 - 1 = n from by omega]) (by omega) (by omega)
        exact lp25 61 1 0 (by omega) rfl (by omega) (by omega)
  exact lp12 27 0 0 0 (by omega) (Or.inl ⟨⟨rfl, rfl⟩, rfl⟩) (by omega) (by omega)
