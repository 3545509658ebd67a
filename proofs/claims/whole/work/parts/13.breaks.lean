def IB (BF : Nat → Int) : Prop := ∀ j, -1 ≤ BF j ∧ BF j ≤ 60
/-- the word a stands in the plain at the place p -/
def stB (WP WL : Nat → Int) (wn : Int) (XP : Nat → Int) (xn a p : Int) : Prop := 0 ≤ p ∧ p + lnOf WL wn a ≤ xn ∧ ∀ i, p ≤ i → i < p + lnOf WL wn a → sgAt XP xn i = plAt WP WL wn a (i - p)
noncomputable def fbB (BF WP WL : Nat → Int) (wn : Int) (XP : Nat → Int) (xn a p : Int) : Int := ifP (stB WP WL wn XP xn a p) (BF (p + lnOf WL wn a).toNat) (-1)
theorem fbB_r {BF : Nat → Int} (h : IB BF) (WP WL : Nat → Int) (wn : Int) (XP : Nat → Int) (xn a p : Int) : -1 ≤ fbB BF WP WL wn XP xn a p ∧ fbB BF WP WL wn XP xn a p ≤ 60 := by
  have := h (p + lnOf WL wn a).toNat
  by_cases c : stB WP WL wn XP xn a p
  · unfold fbB; rw [ifP_t c]; exact this
  · unfold fbB; rw [ifP_f c]; omega
/-- the least of what the words 0 .. n - 1 give, and one more; -1 when none gives anything -/
def mnB (g : Int → Int) : Nat → Int
  | 0 => -1
  | n + 1 => if ¬ g n = -1 ∧ (mnB g n = -1 ∨ g n + 1 < mnB g n) then g n + 1 else mnB g n
theorem mnB_r {g : Int → Int} {b : Int} (hb : -1 ≤ b) (h : ∀ i, -1 ≤ g i ∧ g i ≤ b) (n : Nat) : -1 ≤ mnB g n ∧ mnB g n ≤ b + 1 := by
  induction n with
  | zero => unfold mnB; omega
  | succ n ih =>
    have := h n
    unfold mnB
    split <;> omega
theorem mnB_s (g : Int → Int) {i : Int} (h : 0 ≤ i) : mnB g (i + 1).toNat = if ¬ g i = -1 ∧ (mnB g i.toNat = -1 ∨ g i + 1 < mnB g i.toNat) then g i + 1 else mnB g i.toNat := by
  obtain ⟨n, rfl⟩ := Int.eq_ofNat_of_zero_le h
  rfl

set_option maxRecDepth 100000 in
set_option maxHeartbeats 4000000 in
theorem c_B_fewestBehind {l : Launch} {D : va_G} (kI kZ : ClassId) (x : Nat → Nat) (BF : Nat → Int) (hB : IB BF) (WP WL WC : Nat → Int) (wn wk : Int) (hW : IW WP WL WC wn wk) (XP : Nat → Int) (xn : Int) (hX : IX XP xn) (a p0 : Int) (ha : (-2147483648 ≤ a ∧ a < 2147483648)) (hp : 0 ≤ p0 ∧ p0 ≤ 60) : Dt l D (ty2 kI kZ) y_B_fewestBehind w_B_fewestBehind { frames := 2, cells := 0, slots := 0, locals := 43 } [.ref (x 22), .int (iI (a)), .int (iI (p0))] (wB kI kZ x BF ++ wW kI kZ x WP WL WC wn wk ++ wX kI kZ x XP xn) (some (.int (iI (fbB BF WP WL wn XP xn a p0)))) (wB kI kZ x BF ++ wW kI kZ x WP WL WC wn wk ++ wX kI kZ x XP xn) := by
  refine Met.toJ (own := R_B) (QD D (some (.int (iI (fbB BF WP WL wn XP xn a p0)))) (wB kI kZ x BF ++ wW kI kZ x WP WL WC wn wk ++ wX kI kZ x XP xn)) mk_B_fewestBehind rfl (Nat.le_of_ble_eq_true rfl) ?_
  intro p e s m args below meth c A C hr hlk hnm
  show JJ p l e { frames := 2, cells := 0, slots := 0, locals := 43 } s m args below meth c D A 5 (MQ below (QD D (some (.int (iI (fbB BF WP WL wn XP xn a p0)))) (wB kI kZ x BF ++ wW kI kZ x WP WL WC wn wk ++ wX kI kZ x XP xn) A) args s 0 0 A) 0 0 0 [(0, .ref (x 22)), (1, .int (iI (a))), (2, .int (iI (p0)))] [] (wB kI kZ x BF ++ wW kI kZ x WP WL WC wn wk ++ wX kI kZ x XP xn)
  obtain ⟨hwn, hwk, hWL, hWP, hWC⟩ := id hW
  obtain ⟨hxn, hXP⟩ := id hX
  refine j_iload_n (q := 1) C 2 rfl d_B_fewestBehind_0 rfl ?_
  refine j_aload_n (q := 2) C 0 rfl d_B_fewestBehind_1 rfl ?_
  refine j_get (q := 5) C i_B rfl 0 rfl 0 (by decide) rfl rfl fl_B_15 d_B_fewestBehind_2 rfl ?_
  refine j_iload_n (q := 6) C 1 rfl d_B_fewestBehind_5 rfl ?_
  have e6 := lnOf_r hW a
  refine j_callV (q := 9) (wr := wB kI kZ x BF ++ wX kI kZ x XP xn) C [.int (iI (a))] [.int (iI (p0))] (c_W_lengthOf kI kZ x WP WL WC wn wk hW a (by omega)) ml_B_39 mk_W_lengthOf in_W_lengthOf se_W_lengthOf rfl rfl rfl [2, 3, 4, 5] [0, 1, 6, 7] [0, 1, 4, 5, 6, 7, 2, 3] rfl (by decide) rfl (by decide) (by decide) (wB kI kZ x BF ++ wW kI kZ x WP WL WC wn wk ++ wX kI kZ x XP xn) rfl (by decide) rfl rfl rfl (Nat.le_of_ble_eq_true rfl) ⟨Nat.le_of_ble_eq_true rfl, Nat.le_of_ble_eq_true rfl⟩ ⟨Nat.le_of_ble_eq_true rfl, Nat.le_of_ble_eq_true rfl⟩ d_B_fewestBehind_6 rfl ?_
  refine j_iadd (q := 10) C d_B_fewestBehind_9 rfl ?_
  refine j_istore_n (q := 11) C [(0, .ref (x 22)), (1, .int (iI (a))), (2, .int (iI (p0))), (3, .int (iI (p0 + (lnOf WL wn a))))] rfl (by decide) d_B_fewestBehind_10 rfl ?_
  refine j_iload_n (q := 12) C 2 rfl d_B_fewestBehind_11 rfl ?_
  refine j_if_lt C 26 15 d_B_fewestBehind_12 rfl rfl (by omega) (fun c1 => ?_) (fun c1 => ?_)
  · refine j_iconst (q := 27) C d_B_fewestBehind_26 rfl ?_
    exact j_iret C hr hlk d_B_fewestBehind_27 (congrArg (fun z => some (Value.int (iI z))) (show (fbB BF WP WL wn XP xn a p0) = (-1) from by unfold fbB; rw [ifP_f (fun h => by have := h.2.1; omega)])) rfl
  · refine j_iload_n (q := 16) C 3 rfl d_B_fewestBehind_15 rfl ?_
    refine j_aload_n (q := 17) C 0 rfl d_B_fewestBehind_16 rfl ?_
    refine j_get (q := 20) C i_B rfl 0 rfl 1 (by decide) rfl rfl fl_B_19 d_B_fewestBehind_17 rfl ?_
    refine j_callV (q := 23) (wr := wB kI kZ x BF ++ wW kI kZ x WP WL WC wn wk) C [] [.int (iI (p0 + (lnOf WL wn a)))] (c_X_size kI kZ x XP xn hX) ml_B_23 mk_X_size in_X_size se_X_size rfl rfl rfl [6, 7] [0, 1, 2, 3, 4, 5] [0, 1, 2, 3, 4, 5, 6, 7] rfl (by decide) rfl (by decide) (by decide) (wB kI kZ x BF ++ wW kI kZ x WP WL WC wn wk ++ wX kI kZ x XP xn) rfl (by decide) rfl rfl rfl (Nat.le_of_ble_eq_true rfl) ⟨Nat.le_of_ble_eq_true rfl, Nat.le_of_ble_eq_true rfl⟩ ⟨Nat.le_of_ble_eq_true rfl, Nat.le_of_ble_eq_true rfl⟩ d_B_fewestBehind_20 rfl ?_
    refine j_icmp_le C 28 26 d_B_fewestBehind_23 rfl rfl (by omega) (by omega) (fun c2 => ?_) (fun c2 => ?_)
    · refine j_iload_n (q := 29) C 2 rfl d_B_fewestBehind_28 rfl ?_
      refine j_istore (q := 31) C [(0, .ref (x 22)), (1, .int (iI (a))), (2, .int (iI (p0))), (3, .int (iI (p0 + (lnOf WL wn a)))), (4, .int (iI (p0)))] rfl (by decide) d_B_fewestBehind_29 rfl ?_
      have lp31 : ∀ (N : Nat) (i : Int), (p0 ≤ i ∧ i ≤ p0 + lnOf WL wn a) → (∀ j : Int, p0 ≤ j → j < i → sgAt XP xn j = plAt WP WL wn a (j - p0)) → (p0 + lnOf WL wn a - i).toNat < N → JJ p l e { frames := 2, cells := 0, slots := 0, locals := 43 } s m args below meth c D A 5 (MQ below (QD D (some (.int (iI (fbB BF WP WL wn XP xn a p0)))) (wB kI kZ x BF ++ wW kI kZ x WP WL WC wn wk ++ wX kI kZ x XP xn) A) args s 0 0 A) 0 0 31 [(0, .ref (x 22)), (1, .int (iI (a))), (2, .int (iI (p0))), (3, .int (iI (p0 + (lnOf WL wn a)))), (4, .int (iI (i)))] [] (wB kI kZ x BF ++ wW kI kZ x WP WL WC wn wk ++ wX kI kZ x XP xn) := by
        intro N
        induction N with
        | zero =>
          intro i i0 i1 hN
          omega
        | succ N ih31 =>
          intro i i0 i1 hN
          refine j_iload (q := 33) C 4 rfl d_B_fewestBehind_31 rfl ?_
          refine j_iload_n (q := 34) C 3 rfl d_B_fewestBehind_33 rfl ?_
          refine j_icmp_ge C 69 37 d_B_fewestBehind_34 rfl rfl (by omega) (by omega) (fun c3 => ?_) (fun c3 => ?_)
          · refine j_aload_n (q := 70) C 0 rfl d_B_fewestBehind_69 rfl ?_
            refine j_get (q := 73) C i_B rfl 0 rfl 2 (by decide) rfl rfl fl_B_9 d_B_fewestBehind_70 rfl ?_
            refine j_iload_n (q := 74) C 3 rfl d_B_fewestBehind_73 rfl ?_
            refine j_iald (q := 75) C 1 0 rfl rfl (by decide) (by omega) d_B_fewestBehind_74 rfl ?_
            have h74 := hB (p0 + (lnOf WL wn a)).toNat
            first | (exfalso; omega) | exact j_iret C hr hlk d_B_fewestBehind_75 (congrArg (fun z => some (Value.int (iI z))) (show (fbB BF WP WL wn XP xn a p0) = (BF (p0 + (lnOf WL wn a)).toNat) from by unfold fbB; rw [ifP_t ⟨by omega, by omega, fun j h1 h2 => i1 j h1 (by omega)⟩])) rfl
          · refine j_aload_n (q := 38) C 0 rfl d_B_fewestBehind_37 rfl ?_
            refine j_get (q := 41) C i_B rfl 0 rfl 1 (by decide) rfl rfl fl_B_19 d_B_fewestBehind_38 rfl ?_
            refine j_iload (q := 43) C 4 rfl d_B_fewestBehind_41 rfl ?_
            have e43 := sgAt_r hX.b xn i
            refine j_callV (q := 46) (wr := wB kI kZ x BF ++ wW kI kZ x WP WL WC wn wk) C [.int (iI (i))] [] (c_X_placeAt kI kZ x XP xn hX i (by omega)) ml_B_49 mk_X_placeAt in_X_placeAt se_X_placeAt rfl rfl rfl [6, 7] [0, 1, 2, 3, 4, 5] [0, 1, 2, 3, 4, 5, 6, 7] rfl (by decide) rfl (by decide) (by decide) (wB kI kZ x BF ++ wW kI kZ x WP WL WC wn wk ++ wX kI kZ x XP xn) rfl (by decide) rfl rfl rfl (Nat.le_of_ble_eq_true rfl) ⟨Nat.le_of_ble_eq_true rfl, Nat.le_of_ble_eq_true rfl⟩ ⟨Nat.le_of_ble_eq_true rfl, Nat.le_of_ble_eq_true rfl⟩ d_B_fewestBehind_43 rfl ?_
            refine j_aload_n (q := 47) C 0 rfl d_B_fewestBehind_46 rfl ?_
            refine j_get (q := 50) C i_B rfl 0 rfl 0 (by decide) rfl rfl fl_B_15 d_B_fewestBehind_47 rfl ?_
            refine j_iload_n (q := 51) C 1 rfl d_B_fewestBehind_50 rfl ?_
            refine j_iload (q := 53) C 4 rfl d_B_fewestBehind_51 rfl ?_
            refine j_iload_n (q := 54) C 2 rfl d_B_fewestBehind_53 rfl ?_
            refine j_isub (q := 55) C d_B_fewestBehind_54 rfl ?_
            have e55 := plAt_r hW a (i - p0)
            refine j_callV (q := 58) (wr := wB kI kZ x BF ++ wX kI kZ x XP xn) C [.int (iI (a)), .int (iI (i - p0))] [.int (iI (sgAt XP xn i))] (c_W_placeAt kI kZ x WP WL WC wn wk hW a (i - p0) (by omega) (by omega)) ml_B_52 mk_W_placeAt in_W_placeAt se_W_placeAt rfl rfl rfl [2, 3, 4, 5] [0, 1, 6, 7] [0, 1, 4, 5, 6, 7, 2, 3] rfl (by decide) rfl (by decide) (by decide) (wB kI kZ x BF ++ wW kI kZ x WP WL WC wn wk ++ wX kI kZ x XP xn) rfl (by decide) rfl rfl rfl (Nat.le_of_ble_eq_true rfl) ⟨Nat.le_of_ble_eq_true rfl, Nat.le_of_ble_eq_true rfl⟩ ⟨Nat.le_of_ble_eq_true rfl, Nat.le_of_ble_eq_true rfl⟩ d_B_fewestBehind_55 rfl ?_
            refine j_icmp_eq C 63 61 d_B_fewestBehind_58 rfl rfl (by omega) (by omega) (fun c4 => ?_) (fun c4 => ?_)
            · refine j_iinc (q := 66) C 4 [(0, .ref (x 22)), (1, .int (iI (a))), (2, .int (iI (p0))), (3, .int (iI (p0 + (lnOf WL wn a)))), (4, .int (iI (i + 1)))] rfl rfl (by decide) d_B_fewestBehind_63 rfl ?_
              refine j_goto C 31 d_B_fewestBehind_66 rfl ?_
              exact ih31 (i + 1) (by omega) (fun j h1 h2 => by rcases (show j < i ∨ j = i by omega) with h | h; exact i1 j h1 h; rw [h]; omega) (by omega)
            · refine j_iconst (q := 62) C d_B_fewestBehind_61 rfl ?_
              first | (exfalso; omega) | exact j_iret C hr hlk d_B_fewestBehind_62 (congrArg (fun z => some (Value.int (iI z))) (show (fbB BF WP WL wn XP xn a p0) = (-1) from by unfold fbB; rw [ifP_f (fun h => by have := h.2.2 i (by omega) (by omega); omega)])) rfl
      exact lp31 ((lnOf WL wn a).toNat + 1) p0 (by omega) (fun j h1 h2 => by omega) (by omega)
    · refine j_iconst (q := 27) C d_B_fewestBehind_26 rfl ?_
      first | (exfalso; omega) | exact j_iret C hr hlk d_B_fewestBehind_27 (congrArg (fun z => some (Value.int (iI z))) (show (fbB BF WP WL wn XP xn a p0) = (-1) from by unfold fbB; rw [ifP_f (fun h => by have := h.2.1; omega)])) rfl
set_option maxRecDepth 100000 in
set_option maxHeartbeats 4000000 in
theorem c_B_fewestAt {l : Launch} {D : va_G} (kI kZ : ClassId) (x : Nat → Nat) (BF : Nat → Int) (hB : IB BF) (WP WL WC : Nat → Int) (wn wk : Int) (hW : IW WP WL WC wn wk) (XP : Nat → Int) (xn : Int) (hX : IX XP xn) (p0 : Int) (hp : 0 ≤ p0 ∧ p0 ≤ 60) : Dt l D (ty2 kI kZ) y_B_fewestAt w_B_fewestAt { frames := 3, cells := 0, slots := 0, locals := 67 } [.ref (x 22), .int (iI (p0))] (wB kI kZ x BF ++ wW kI kZ x WP WL WC wn wk ++ wX kI kZ x XP xn) (some (.int (iI (mnB (fun w => fbB BF WP WL wn XP xn w p0) wn.toNat)))) (wB kI kZ x BF ++ wW kI kZ x WP WL WC wn wk ++ wX kI kZ x XP xn) := by
  refine Met.toJ (own := R_B) (QD D (some (.int (iI (mnB (fun w => fbB BF WP WL wn XP xn w p0) wn.toNat)))) (wB kI kZ x BF ++ wW kI kZ x WP WL WC wn wk ++ wX kI kZ x XP xn)) mk_B_fewestAt rfl (Nat.le_of_ble_eq_true rfl) ?_
  intro p e s m args below meth c A C hr hlk hnm
  show JJ p l e { frames := 3, cells := 0, slots := 0, locals := 67 } s m args below meth c D A 5 (MQ below (QD D (some (.int (iI (mnB (fun w => fbB BF WP WL wn XP xn w p0) wn.toNat)))) (wB kI kZ x BF ++ wW kI kZ x WP WL WC wn wk ++ wX kI kZ x XP xn) A) args s 0 0 A) 0 0 0 [(0, .ref (x 22)), (1, .int (iI (p0)))] [] (wB kI kZ x BF ++ wW kI kZ x WP WL WC wn wk ++ wX kI kZ x XP xn)
  obtain ⟨hwn, hwk, hWL, hWP, hWC⟩ := id hW
  obtain ⟨hxn, hXP⟩ := id hX
  refine j_iconst (q := 1) C d_B_fewestAt_0 rfl ?_
  refine j_istore_n (q := 2) C [(0, .ref (x 22)), (1, .int (iI (p0))), (2, .int (iI (-1)))] rfl (by decide) d_B_fewestAt_1 rfl ?_
  refine j_iconst (q := 3) C d_B_fewestAt_2 rfl ?_
  refine j_istore_n (q := 4) C [(0, .ref (x 22)), (1, .int (iI (p0))), (2, .int (iI (-1))), (3, .int (iI (0)))] rfl (by decide) d_B_fewestAt_3 rfl ?_
  have lp4 : ∀ (N : Nat) (i t : Int), (0 ≤ i ∧ i ≤ wn) → (t = mnB (fun w => fbB BF WP WL wn XP xn w p0) i.toNat) → (-1 ≤ t ∧ t ≤ 61) → (wn - i).toNat < N → JJ p l e { frames := 3, cells := 0, slots := 0, locals := 67 } s m args below meth c D A 5 (MQ below (QD D (some (.int (iI (mnB (fun w => fbB BF WP WL wn XP xn w p0) wn.toNat)))) (wB kI kZ x BF ++ wW kI kZ x WP WL WC wn wk ++ wX kI kZ x XP xn) A) args s 0 0 A) 0 0 4 [(0, .ref (x 22)), (1, .int (iI (p0))), (2, .int (iI (t))), (3, .int (iI (i)))] [] (wB kI kZ x BF ++ wW kI kZ x WP WL WC wn wk ++ wX kI kZ x XP xn) := by
    intro N
    induction N with
    | zero =>
      intro i t i0 i1 i2 hN
      omega
    | succ N ih4 =>
      intro i t i0 i1 i2 hN
      refine j_iload_n (q := 5) C 3 rfl d_B_fewestAt_4 rfl ?_
      refine j_aload_n (q := 6) C 0 rfl d_B_fewestAt_5 rfl ?_
      refine j_get (q := 9) C i_B rfl 0 rfl 0 (by decide) rfl rfl fl_B_15 d_B_fewestAt_6 rfl ?_
      refine j_callV (q := 12) (wr := wB kI kZ x BF ++ wX kI kZ x XP xn) C [] [.int (iI (i))] (c_W_size kI kZ x WP WL WC wn wk hW) ml_B_44 mk_W_size in_W_size se_W_size rfl rfl rfl [2, 3, 4, 5] [0, 1, 6, 7] [0, 1, 4, 5, 6, 7, 2, 3] rfl (by decide) rfl (by decide) (by decide) (wB kI kZ x BF ++ wW kI kZ x WP WL WC wn wk ++ wX kI kZ x XP xn) rfl (by decide) rfl rfl rfl (Nat.le_of_ble_eq_true rfl) ⟨Nat.le_of_ble_eq_true rfl, Nat.le_of_ble_eq_true rfl⟩ ⟨Nat.le_of_ble_eq_true rfl, Nat.le_of_ble_eq_true rfl⟩ d_B_fewestAt_9 rfl ?_
      refine j_icmp_ge C 53 15 d_B_fewestAt_12 rfl rfl (by omega) (by omega) (fun c1 => ?_) (fun c1 => ?_)
      · refine j_iload_n (q := 54) C 2 rfl d_B_fewestAt_53 rfl ?_
        exact j_iret C hr hlk d_B_fewestAt_54 (congrArg (fun z => some (Value.int (iI z))) (show (mnB (fun w => fbB BF WP WL wn XP xn w p0) wn.toNat) = (t) from by rw [i1, show wn = i from by omega])) rfl
      · refine j_aload_n (q := 16) C 0 rfl d_B_fewestAt_15 rfl ?_
        refine j_iload_n (q := 17) C 3 rfl d_B_fewestAt_16 rfl ?_
        refine j_iload_n (q := 18) C 1 rfl d_B_fewestAt_17 rfl ?_
        have e18 := fbB_r hB WP WL wn XP xn i p0
        refine j_callV (q := 21) (wr := []) C [.int (iI (i)), .int (iI (p0))] [] (c_B_fewestBehind kI kZ x BF hB WP WL WC wn wk hW XP xn hX i p0 (by omega) (by omega)) ml_B_45 mk_B_fewestBehind in_B_fewestBehind se_B_fewestBehind rfl rfl rfl [0, 1, 2, 3, 4, 5, 6, 7] [] [0, 1, 2, 3, 4, 5, 6, 7] rfl (by decide) rfl (by decide) (by decide) (wB kI kZ x BF ++ wW kI kZ x WP WL WC wn wk ++ wX kI kZ x XP xn) rfl (by decide) rfl rfl rfl (Nat.le_of_ble_eq_true rfl) ⟨Nat.le_of_ble_eq_true rfl, Nat.le_of_ble_eq_true rfl⟩ ⟨Nat.le_of_ble_eq_true rfl, Nat.le_of_ble_eq_true rfl⟩ d_B_fewestAt_18 rfl ?_
        refine j_istore (q := 23) C [(0, .ref (x 22)), (1, .int (iI (p0))), (2, .int (iI (t))), (3, .int (iI (i))), (4, .int (iI (fbB BF WP WL wn XP xn i p0)))] rfl (by decide) d_B_fewestAt_21 rfl ?_
        refine j_iload (q := 25) C 4 rfl d_B_fewestAt_23 rfl ?_
        refine j_iconst (q := 26) C d_B_fewestAt_25 rfl ?_
        refine j_icmp_eq C 47 29 d_B_fewestAt_26 rfl rfl (by omega) (by omega) (fun c2 => ?_) (fun c2 => ?_)
        · refine j_iinc (q := 50) C 3 [(0, .ref (x 22)), (1, .int (iI (p0))), (2, .int (iI (t))), (3, .int (iI (i + 1))), (4, .int (iI (fbB BF WP WL wn XP xn i p0)))] rfl rfl (by decide) d_B_fewestAt_47 rfl ?_
          refine j_goto C 4 d_B_fewestAt_50 rfl ?_
          refine j_lv [0, 1, 2, 3] rfl ?_
          exact ih4 (i + 1) _ (by omega) (by rw [mnB_s _ i0.1, ← i1]; first | rw [if_neg (by omega)] | rw [if_pos (by omega)]) (by omega) (by omega)
        · refine j_iload_n (q := 30) C 2 rfl d_B_fewestAt_29 rfl ?_
          refine j_iconst (q := 31) C d_B_fewestAt_30 rfl ?_
          refine j_icmp_eq C 42 34 d_B_fewestAt_31 rfl rfl (by omega) (by omega) (fun c3 => ?_) (fun c3 => ?_)
          · refine j_iload (q := 44) C 4 rfl d_B_fewestAt_42 rfl ?_
            refine j_iconst (q := 45) C d_B_fewestAt_44 rfl ?_
            refine j_iadd (q := 46) C d_B_fewestAt_45 rfl ?_
            refine j_istore_n (q := 47) C [(0, .ref (x 22)), (1, .int (iI (p0))), (2, .int (iI ((fbB BF WP WL wn XP xn i p0) + 1))), (3, .int (iI (i))), (4, .int (iI (fbB BF WP WL wn XP xn i p0)))] rfl (by decide) d_B_fewestAt_46 rfl ?_
            refine j_iinc (q := 50) C 3 [(0, .ref (x 22)), (1, .int (iI (p0))), (2, .int (iI ((fbB BF WP WL wn XP xn i p0) + 1))), (3, .int (iI (i + 1))), (4, .int (iI (fbB BF WP WL wn XP xn i p0)))] rfl rfl (by decide) d_B_fewestAt_47 rfl ?_
            refine j_goto C 4 d_B_fewestAt_50 rfl ?_
            refine j_lv [0, 1, 2, 3] rfl ?_
            exact ih4 (i + 1) _ (by omega) (by rw [mnB_s _ i0.1, ← i1]; first | rw [if_neg (by omega)] | rw [if_pos (by omega)]) (by omega) (by omega)
          · refine j_iload (q := 36) C 4 rfl d_B_fewestAt_34 rfl ?_
            refine j_iconst (q := 37) C d_B_fewestAt_36 rfl ?_
            refine j_iadd (q := 38) C d_B_fewestAt_37 rfl ?_
            refine j_iload_n (q := 39) C 2 rfl d_B_fewestAt_38 rfl ?_
            refine j_icmp_ge C 47 42 d_B_fewestAt_39 rfl rfl (by omega) (by omega) (fun c4 => ?_) (fun c4 => ?_)
            · refine j_iinc (q := 50) C 3 [(0, .ref (x 22)), (1, .int (iI (p0))), (2, .int (iI (t))), (3, .int (iI (i + 1))), (4, .int (iI (fbB BF WP WL wn XP xn i p0)))] rfl rfl (by decide) d_B_fewestAt_47 rfl ?_
              refine j_goto C 4 d_B_fewestAt_50 rfl ?_
              refine j_lv [0, 1, 2, 3] rfl ?_
              exact ih4 (i + 1) _ (by omega) (by rw [mnB_s _ i0.1, ← i1]; first | rw [if_neg (by omega)] | rw [if_pos (by omega)]) (by omega) (by omega)
            · refine j_iload (q := 44) C 4 rfl d_B_fewestAt_42 rfl ?_
              refine j_iconst (q := 45) C d_B_fewestAt_44 rfl ?_
              refine j_iadd (q := 46) C d_B_fewestAt_45 rfl ?_
              refine j_istore_n (q := 47) C [(0, .ref (x 22)), (1, .int (iI (p0))), (2, .int (iI ((fbB BF WP WL wn XP xn i p0) + 1))), (3, .int (iI (i))), (4, .int (iI (fbB BF WP WL wn XP xn i p0)))] rfl (by decide) d_B_fewestAt_46 rfl ?_
              refine j_iinc (q := 50) C 3 [(0, .ref (x 22)), (1, .int (iI (p0))), (2, .int (iI ((fbB BF WP WL wn XP xn i p0) + 1))), (3, .int (iI (i + 1))), (4, .int (iI (fbB BF WP WL wn XP xn i p0)))] rfl rfl (by decide) d_B_fewestAt_47 rfl ?_
              refine j_goto C 4 d_B_fewestAt_50 rfl ?_
              refine j_lv [0, 1, 2, 3] rfl ?_
              exact ih4 (i + 1) _ (by omega) (by rw [mnB_s _ i0.1, ← i1]; first | rw [if_neg (by omega)] | rw [if_pos (by omega)]) (by omega) (by omega)
  exact lp4 (wn.toNat + 1) 0 (-1) (by omega) rfl (by omega) (by omega)
noncomputable def lwQ (BF WP WL : Nat → Int) (wn : Int) (XP : Nat → Int) (xn p : Int) : Int := lst (fun w => ¬ fbB BF WP WL wn XP xn w p = -1 ∧ fbB BF WP WL wn XP xn w p + 1 = BF p.toNat) wn
/-- the least word with which a way of the fewest goes on at p; -1 when there is none -/
noncomputable def lwB (BF WP WL : Nat → Int) (wn : Int) (XP : Nat → Int) (xn p : Int) : Int := if lwQ BF WP WL wn XP xn p < wn then lwQ BF WP WL wn XP xn p else -1
theorem lwB_r (BF WP WL : Nat → Int) (wn : Int) (XP : Nat → Int) (xn p : Int) : -1 ≤ lwB BF WP WL wn XP xn p ∧ (lwB BF WP WL wn XP xn p < wn ∨ lwB BF WP WL wn XP xn p = -1) := by
  unfold lwB
  split
  · unfold lwQ at *
    rcases lst_sp (fun w => ¬ fbB BF WP WL wn XP xn w p = -1 ∧ fbB BF WP WL wn XP xn w p + 1 = BF p.toNat) wn with ⟨h1, h2, -, -⟩ | ⟨h1, -⟩ <;> omega
  · omega
theorem lwB_s {BF WP WL : Nat → Int} {wn : Int} {XP : Nat → Int} {xn p : Int} (h : 0 ≤ lwB BF WP WL wn XP xn p) : stB WP WL wn XP xn (lwB BF WP WL wn XP xn p) p ∧ fbB BF WP WL wn XP xn (lwB BF WP WL wn XP xn p) p + 1 = BF p.toNat := by
  unfold lwB at *
  split at h
  · rename_i c
    rw [if_pos c]
    unfold lwQ at *
    rcases lst_sp (fun w => ¬ fbB BF WP WL wn XP xn w p = -1 ∧ fbB BF WP WL wn XP xn w p + 1 = BF p.toNat) wn with ⟨-, -, h3, -⟩ | ⟨h1, -⟩
    · refine ⟨Classical.byContradiction fun hs => h3.1 ?_, h3.2⟩
      exact ifP_f hs
    · omega
  · omega

set_option maxRecDepth 100000 in
set_option maxHeartbeats 4000000 in
theorem c_B_leastWordAt {l : Launch} {D : va_G} (kI kZ : ClassId) (x : Nat → Nat) (BF : Nat → Int) (hB : IB BF) (WP WL WC : Nat → Int) (wn wk : Int) (hW : IW WP WL WC wn wk) (XP : Nat → Int) (xn : Int) (hX : IX XP xn) (p0 : Int) (hp : 0 ≤ p0 ∧ p0 ≤ 60) : Dt l D (ty2 kI kZ) y_B_leastWordAt w_B_leastWordAt { frames := 3, cells := 0, slots := 0, locals := 67 } [.ref (x 22), .int (iI (p0))] (wB kI kZ x BF ++ wW kI kZ x WP WL WC wn wk ++ wX kI kZ x XP xn) (some (.int (iI (lwB BF WP WL wn XP xn p0)))) (wB kI kZ x BF ++ wW kI kZ x WP WL WC wn wk ++ wX kI kZ x XP xn) := by
  refine Met.toJ (own := R_B) (QD D (some (.int (iI (lwB BF WP WL wn XP xn p0)))) (wB kI kZ x BF ++ wW kI kZ x WP WL WC wn wk ++ wX kI kZ x XP xn)) mk_B_leastWordAt rfl (Nat.le_of_ble_eq_true rfl) ?_
  intro p e s m args below meth c A C hr hlk hnm
  show JJ p l e { frames := 3, cells := 0, slots := 0, locals := 67 } s m args below meth c D A 4 (MQ below (QD D (some (.int (iI (lwB BF WP WL wn XP xn p0)))) (wB kI kZ x BF ++ wW kI kZ x WP WL WC wn wk ++ wX kI kZ x XP xn) A) args s 0 0 A) 0 0 0 [(0, .ref (x 22)), (1, .int (iI (p0)))] [] (wB kI kZ x BF ++ wW kI kZ x WP WL WC wn wk ++ wX kI kZ x XP xn)
  obtain ⟨hwn, hwk, hWL, hWP, hWC⟩ := id hW
  obtain ⟨hxn, hXP⟩ := id hX
  refine j_iconst (q := 1) C d_B_leastWordAt_0 rfl ?_
  refine j_istore_n (q := 2) C [(0, .ref (x 22)), (1, .int (iI (p0))), (2, .int (iI (0)))] rfl (by decide) d_B_leastWordAt_1 rfl ?_
  have lp2 : ∀ (N : Nat) (i : Int), (0 ≤ i ∧ i ≤ wn) → (∀ j : Int, 0 ≤ j → j < i → ¬ (¬ fbB BF WP WL wn XP xn j p0 = -1 ∧ fbB BF WP WL wn XP xn j p0 + 1 = BF p0.toNat)) → (wn - i).toNat < N → JJ p l e { frames := 3, cells := 0, slots := 0, locals := 67 } s m args below meth c D A 4 (MQ below (QD D (some (.int (iI (lwB BF WP WL wn XP xn p0)))) (wB kI kZ x BF ++ wW kI kZ x WP WL WC wn wk ++ wX kI kZ x XP xn) A) args s 0 0 A) 0 0 2 [(0, .ref (x 22)), (1, .int (iI (p0))), (2, .int (iI (i)))] [] (wB kI kZ x BF ++ wW kI kZ x WP WL WC wn wk ++ wX kI kZ x XP xn) := by
    intro N
    induction N with
    | zero =>
      intro i i0 i1 hN
      omega
    | succ N ih2 =>
      intro i i0 i1 hN
      refine j_iload_n (q := 3) C 2 rfl d_B_leastWordAt_2 rfl ?_
      refine j_aload_n (q := 4) C 0 rfl d_B_leastWordAt_3 rfl ?_
      refine j_get (q := 7) C i_B rfl 0 rfl 0 (by decide) rfl rfl fl_B_15 d_B_leastWordAt_4 rfl ?_
      refine j_callV (q := 10) (wr := wB kI kZ x BF ++ wX kI kZ x XP xn) C [] [.int (iI (i))] (c_W_size kI kZ x WP WL WC wn wk hW) ml_B_44 mk_W_size in_W_size se_W_size rfl rfl rfl [2, 3, 4, 5] [0, 1, 6, 7] [0, 1, 4, 5, 6, 7, 2, 3] rfl (by decide) rfl (by decide) (by decide) (wB kI kZ x BF ++ wW kI kZ x WP WL WC wn wk ++ wX kI kZ x XP xn) rfl (by decide) rfl rfl rfl (Nat.le_of_ble_eq_true rfl) ⟨Nat.le_of_ble_eq_true rfl, Nat.le_of_ble_eq_true rfl⟩ ⟨Nat.le_of_ble_eq_true rfl, Nat.le_of_ble_eq_true rfl⟩ d_B_leastWordAt_7 rfl ?_
      refine j_icmp_ge C 45 13 d_B_leastWordAt_10 rfl rfl (by omega) (by omega) (fun c1 => ?_) (fun c1 => ?_)
      · refine j_iconst (q := 46) C d_B_leastWordAt_45 rfl ?_
        exact j_iret C hr hlk d_B_leastWordAt_46 (congrArg (fun z => some (Value.int (iI z))) (show (lwB BF WP WL wn XP xn p0) = (-1) from by have f46 : lwQ BF WP WL wn XP xn p0 = wn := lst_no (fun j h1 h2 => i1 j h1 (by omega)); unfold lwB; rw [f46, if_neg (by omega)])) rfl
      · refine j_aload_n (q := 14) C 0 rfl d_B_leastWordAt_13 rfl ?_
        refine j_iload_n (q := 15) C 2 rfl d_B_leastWordAt_14 rfl ?_
        refine j_iload_n (q := 16) C 1 rfl d_B_leastWordAt_15 rfl ?_
        have e16 := fbB_r hB WP WL wn XP xn i p0
        refine j_callV (q := 19) (wr := []) C [.int (iI (i)), .int (iI (p0))] [] (c_B_fewestBehind kI kZ x BF hB WP WL WC wn wk hW XP xn hX i p0 (by omega) (by omega)) ml_B_45 mk_B_fewestBehind in_B_fewestBehind se_B_fewestBehind rfl rfl rfl [0, 1, 2, 3, 4, 5, 6, 7] [] [0, 1, 2, 3, 4, 5, 6, 7] rfl (by decide) rfl (by decide) (by decide) (wB kI kZ x BF ++ wW kI kZ x WP WL WC wn wk ++ wX kI kZ x XP xn) rfl (by decide) rfl rfl rfl (Nat.le_of_ble_eq_true rfl) ⟨Nat.le_of_ble_eq_true rfl, Nat.le_of_ble_eq_true rfl⟩ ⟨Nat.le_of_ble_eq_true rfl, Nat.le_of_ble_eq_true rfl⟩ d_B_leastWordAt_16 rfl ?_
        refine j_istore_n (q := 20) C [(0, .ref (x 22)), (1, .int (iI (p0))), (2, .int (iI (i))), (3, .int (iI (fbB BF WP WL wn XP xn i p0)))] rfl (by decide) d_B_leastWordAt_19 rfl ?_
        refine j_iload_n (q := 21) C 3 rfl d_B_leastWordAt_20 rfl ?_
        refine j_iconst (q := 22) C d_B_leastWordAt_21 rfl ?_
        refine j_icmp_eq C 39 25 d_B_leastWordAt_22 rfl rfl (by omega) (by omega) (fun c2 => ?_) (fun c2 => ?_)
        · refine j_iinc (q := 42) C 2 [(0, .ref (x 22)), (1, .int (iI (p0))), (2, .int (iI (i + 1))), (3, .int (iI (fbB BF WP WL wn XP xn i p0)))] rfl rfl (by decide) d_B_leastWordAt_39 rfl ?_
          refine j_goto C 2 d_B_leastWordAt_42 rfl ?_
          refine j_lv [0, 1, 2] rfl ?_
          exact ih2 (i + 1) (by omega) (fun j h1 h2 => by rcases (show j < i ∨ j = i by omega) with h | h; exact i1 j h1 h; rw [h]; omega) (by omega)
        · refine j_iload_n (q := 26) C 3 rfl d_B_leastWordAt_25 rfl ?_
          refine j_iconst (q := 27) C d_B_leastWordAt_26 rfl ?_
          refine j_iadd (q := 28) C d_B_leastWordAt_27 rfl ?_
          refine j_aload_n (q := 29) C 0 rfl d_B_leastWordAt_28 rfl ?_
          refine j_get (q := 32) C i_B rfl 0 rfl 2 (by decide) rfl rfl fl_B_9 d_B_leastWordAt_29 rfl ?_
          refine j_iload_n (q := 33) C 1 rfl d_B_leastWordAt_32 rfl ?_
          refine j_iald (q := 34) C 1 0 rfl rfl (by decide) (by omega) d_B_leastWordAt_33 rfl ?_
          have h33 := hB p0.toNat
          refine j_icmp_ne C 39 37 d_B_leastWordAt_34 rfl rfl (by omega) (by omega) (fun c3 => ?_) (fun c3 => ?_)
          · refine j_iinc (q := 42) C 2 [(0, .ref (x 22)), (1, .int (iI (p0))), (2, .int (iI (i + 1))), (3, .int (iI (fbB BF WP WL wn XP xn i p0)))] rfl rfl (by decide) d_B_leastWordAt_39 rfl ?_
            refine j_goto C 2 d_B_leastWordAt_42 rfl ?_
            refine j_lv [0, 1, 2] rfl ?_
            exact ih2 (i + 1) (by omega) (fun j h1 h2 => by rcases (show j < i ∨ j = i by omega) with h | h; exact i1 j h1 h; rw [h]; omega) (by omega)
          · refine j_iload_n (q := 38) C 2 rfl d_B_leastWordAt_37 rfl ?_
            first | (exfalso; omega) | exact j_iret C hr hlk d_B_leastWordAt_38 (congrArg (fun z => some (Value.int (iI z))) (show (lwB BF WP WL wn XP xn p0) = (i) from by have f38 : lwQ BF WP WL wn XP xn p0 = i := lst_at i0.1 (by omega) ⟨by omega, by omega⟩ i1; unfold lwB; rw [f38, if_pos (by omega)])) rfl
  exact lp2 (wn.toNat + 1) 0 (by omega) (fun j h1 h2 => by omega) (by omega)
/-- the row of the fewest words, m places done from the end on -/
noncomputable def fwA (BF WP WL : Nat → Int) (wn : Int) (XP : Nat → Int) (xn : Int) : Nat → Nat → Int
  | 0 => uI BF xn.toNat 0
  | m + 1 => uI (fwA BF WP WL wn XP xn m) (xn - 1 - m).toNat (mnB (fun w => fbB (fwA BF WP WL wn XP xn m) WP WL wn XP xn w (xn - 1 - m)) wn.toNat)
theorem fbB_le {BF WP WL : Nat → Int} {wn : Int} {XP : Nat → Int} {xn p : Int} (hp : 0 ≤ p) (hL1 : ∀ a, 0 ≤ a → a < wn → 1 ≤ lnOf WL wn a) (hx : ∀ j : Nat, p < j → (j : Int) ≤ xn → -1 ≤ BF j ∧ BF j ≤ xn - j) (hpx : p < xn) (w : Int) (hw : 0 ≤ w ∧ w < wn) : -1 ≤ fbB BF WP WL wn XP xn w p ∧ fbB BF WP WL wn XP xn w p ≤ xn - p - 1 := by
  have h1 := hL1 w hw.1 hw.2
  by_cases c : stB WP WL wn XP xn w p
  · unfold fbB; rw [ifP_t c]
    have := hx (p + lnOf WL wn w).toNat (by omega) (by have := c.2.1; omega)
    omega
  · unfold fbB; rw [ifP_f c]; omega
theorem mnB_le {g : Int → Int} {b : Int} (hb : -1 ≤ b) {n : Nat} (h : ∀ i : Int, 0 ≤ i → i < n → -1 ≤ g i ∧ g i ≤ b) : -1 ≤ mnB g n ∧ mnB g n ≤ b + 1 := by
  induction n with
  | zero => unfold mnB; omega
  | succ n ih =>
    have h1 := h n (by omega) (by omega)
    have h2 := ih (fun i h1 h2 => h i h1 (by omega))
    unfold mnB
    split <;> omega
theorem fwA_r {BF WP WL : Nat → Int} {wn : Int} {XP : Nat → Int} {xn : Int} (hB : IB BF) (hwn : 0 ≤ wn) (hxn : 0 ≤ xn ∧ xn ≤ 60) (hL1 : ∀ a, 0 ≤ a → a < wn → 1 ≤ lnOf WL wn a) (m : Nat) : (m : Int) ≤ xn → IB (fwA BF WP WL wn XP xn m) ∧ ∀ j : Nat, xn - m ≤ j → (j : Int) ≤ xn → -1 ≤ fwA BF WP WL wn XP xn m j ∧ fwA BF WP WL wn XP xn m j ≤ xn - j := by
  induction m with
  | zero =>
    intro _
    refine ⟨fun j => ?_, fun j h1 h2 => ?_⟩
    · have := hB j
      unfold fwA uI
      split <;> omega
    · unfold fwA uI
      rw [if_pos (by omega)]
      omega
  | succ m ih =>
    intro hm
    obtain ⟨i1, i2⟩ := ih (by omega)
    have e := mnB_le (g := fun w => fbB (fwA BF WP WL wn XP xn m) WP WL wn XP xn w (xn - 1 - m)) (b := xn - (xn - 1 - m) - 1) (by omega) (n := wn.toNat) (fun i h1 h2 => fbB_le (by omega) hL1 (fun j h3 h4 => i2 j (by omega) h4) (by omega) i (by omega))
    refine ⟨fun j => ?_, fun j h1 h2 => ?_⟩
    · have := i1 j
      unfold fwA uI
      split <;> omega
    · unfold fwA uI
      split
      · omega
      · exact i2 j (by omega) h2
/-- the row of the fewest words, as breaks() leaves it -/
noncomputable def fwZ (BF WP WL : Nat → Int) (wn : Int) (XP : Nat → Int) (xn : Int) : Nat → Int := fwA BF WP WL wn XP xn xn.toNat
theorem fwZ_r {BF WP WL : Nat → Int} {wn : Int} {XP : Nat → Int} {xn : Int} (hB : IB BF) (hwn : 0 ≤ wn) (hxn : 0 ≤ xn ∧ xn ≤ 60) (hL1 : ∀ a, 0 ≤ a → a < wn → 1 ≤ lnOf WL wn a) : IB (fwZ BF WP WL wn XP xn) := (fwA_r hB hwn hxn hL1 xn.toNat (by omega)).1

set_option maxRecDepth 100000 in
set_option maxHeartbeats 4000000 in
theorem c_B_fewestWords {l : Launch} {D : va_G} (kI kZ : ClassId) (x : Nat → Nat) (BF : Nat → Int) (hB : IB BF) (WP WL WC : Nat → Int) (wn wk : Int) (hW : IW WP WL WC wn wk) (XP : Nat → Int) (xn : Int) (hX : IX XP xn) (hL1 : ∀ a, 0 ≤ a → a < wn → 1 ≤ lnOf WL wn a) : Dt l D (ty2 kI kZ) y_B_fewestWords w_B_fewestWords { frames := 4, cells := 0, slots := 0, locals := 91 } [.ref (x 22)] (wB kI kZ x BF ++ wW kI kZ x WP WL WC wn wk ++ wX kI kZ x XP xn) (some (.int (iI (fwZ BF WP WL wn XP xn (0 : Int).toNat)))) (wB kI kZ x (fwZ BF WP WL wn XP xn) ++ wW kI kZ x WP WL WC wn wk ++ wX kI kZ x XP xn) := by
  refine Met.toJ (own := R_B) (QD D (some (.int (iI (fwZ BF WP WL wn XP xn (0 : Int).toNat)))) (wB kI kZ x (fwZ BF WP WL wn XP xn) ++ wW kI kZ x WP WL WC wn wk ++ wX kI kZ x XP xn)) mk_B_fewestWords rfl (Nat.le_of_ble_eq_true rfl) ?_
  intro p e s m args below meth c A C hr hlk hnm
  show JJ p l e { frames := 4, cells := 0, slots := 0, locals := 91 } s m args below meth c D A 3 (MQ below (QD D (some (.int (iI (fwZ BF WP WL wn XP xn (0 : Int).toNat)))) (wB kI kZ x (fwZ BF WP WL wn XP xn) ++ wW kI kZ x WP WL WC wn wk ++ wX kI kZ x XP xn) A) args s 0 0 A) 0 0 0 [(0, .ref (x 22))] [] (wB kI kZ x BF ++ wW kI kZ x WP WL WC wn wk ++ wX kI kZ x XP xn)
  obtain ⟨hwn, hwk, hWL, hWP, hWC⟩ := id hW
  obtain ⟨hxn, hXP⟩ := id hX
  refine j_aload_n (q := 1) C 0 rfl d_B_fewestWords_0 rfl ?_
  refine j_get (q := 4) C i_B rfl 0 rfl 1 (by decide) rfl rfl fl_B_19 d_B_fewestWords_1 rfl ?_
  refine j_callV (q := 7) (wr := wB kI kZ x BF ++ wW kI kZ x WP WL WC wn wk) C [] [] (c_X_size kI kZ x XP xn hX) ml_B_23 mk_X_size in_X_size se_X_size rfl rfl rfl [6, 7] [0, 1, 2, 3, 4, 5] [0, 1, 2, 3, 4, 5, 6, 7] rfl (by decide) rfl (by decide) (by decide) (wB kI kZ x BF ++ wW kI kZ x WP WL WC wn wk ++ wX kI kZ x XP xn) rfl (by decide) rfl rfl rfl (Nat.le_of_ble_eq_true rfl) ⟨Nat.le_of_ble_eq_true rfl, Nat.le_of_ble_eq_true rfl⟩ ⟨Nat.le_of_ble_eq_true rfl, Nat.le_of_ble_eq_true rfl⟩ d_B_fewestWords_4 rfl ?_
  refine j_istore_n (q := 8) C [(0, .ref (x 22)), (1, .int (iI (xn)))] rfl (by decide) d_B_fewestWords_7 rfl ?_
  refine j_aload_n (q := 9) C 0 rfl d_B_fewestWords_8 rfl ?_
  refine j_get (q := 12) C i_B rfl 0 rfl 2 (by decide) rfl rfl fl_B_9 d_B_fewestWords_9 rfl ?_
  refine j_iload_n (q := 13) C 1 rfl d_B_fewestWords_12 rfl ?_
  refine j_iconst (q := 14) C d_B_fewestWords_13 rfl ?_
  refine j_iast (q := 15) C 1 0 rfl rfl (by decide) (by omega) (wB kI kZ x (uI BF xn.toNat 0) ++ wW kI kZ x WP WL WC wn wk ++ wX kI kZ x XP xn) rfl d_B_fewestWords_14 rfl ?_
  refine j_iload_n (q := 16) C 1 rfl d_B_fewestWords_15 rfl ?_
  refine j_iconst (q := 17) C d_B_fewestWords_16 rfl ?_
  refine j_isub (q := 18) C d_B_fewestWords_17 rfl ?_
  refine j_istore_n (q := 19) C [(0, .ref (x 22)), (1, .int (iI (xn))), (2, .int (iI (xn - 1)))] rfl (by decide) d_B_fewestWords_18 rfl ?_
  have lp19 : ∀ (N : Nat) (mm : Nat), ((mm : Int) ≤ xn) → (xn - mm).toNat < N → JJ p l e { frames := 4, cells := 0, slots := 0, locals := 91 } s m args below meth c D A 3 (MQ below (QD D (some (.int (iI (fwZ BF WP WL wn XP xn (0 : Int).toNat)))) (wB kI kZ x (fwZ BF WP WL wn XP xn) ++ wW kI kZ x WP WL WC wn wk ++ wX kI kZ x XP xn) A) args s 0 0 A) 0 0 19 [(0, .ref (x 22)), (1, .int (iI (xn))), (2, .int (iI (xn - 1 - mm)))] [] (wB kI kZ x (fwA BF WP WL wn XP xn mm) ++ wW kI kZ x WP WL WC wn wk ++ wX kI kZ x XP xn) := by
    intro N
    induction N with
    | zero =>
      intro mm i0 hN
      omega
    | succ N ih19 =>
      intro mm i0 hN
      have b0 := (fwA_r (WP := WP) (XP := XP) hB hwn.1 hxn hL1 mm i0).1
      have b1 := b0 (0 : Int).toNat
      refine j_iload_n (q := 20) C 2 rfl d_B_fewestWords_19 rfl ?_
      refine j_if_lt C 40 23 d_B_fewestWords_20 rfl rfl (by omega) (fun c1 => ?_) (fun c1 => ?_)
      · refine j_aload_n (q := 41) C 0 rfl d_B_fewestWords_40 rfl ?_
        refine j_get (q := 44) C i_B rfl 0 rfl 2 (by decide) rfl rfl fl_B_9 d_B_fewestWords_41 rfl ?_
        refine j_iconst (q := 45) C d_B_fewestWords_44 rfl ?_
        refine j_iald (q := 46) C 1 0 rfl rfl (by decide) (by omega) d_B_fewestWords_45 rfl ?_
        exact j_iret C hr hlk d_B_fewestWords_46 (congrArg (fun z => some (Value.int (iI z))) (show (fwZ BF WP WL wn XP xn (0 : Int).toNat) = ((fwA BF WP WL wn XP xn mm) (0 : Int).toNat) from by unfold fwZ; rw [show xn.toNat = mm from by omega])) (by unfold fwZ; rw [show xn.toNat = mm from by omega])
      · refine j_aload_n (q := 24) C 0 rfl d_B_fewestWords_23 rfl ?_
        refine j_get (q := 27) C i_B rfl 0 rfl 2 (by decide) rfl rfl fl_B_9 d_B_fewestWords_24 rfl ?_
        refine j_iload_n (q := 28) C 2 rfl d_B_fewestWords_27 rfl ?_
        refine j_aload_n (q := 29) C 0 rfl d_B_fewestWords_28 rfl ?_
        refine j_iload_n (q := 30) C 2 rfl d_B_fewestWords_29 rfl ?_
        have e30 := mnB_r (b := 60) (by omega) (fun j => fbB_r b0 WP WL wn XP xn j (xn - 1 - mm)) wn.toNat
        refine j_callV (q := 33) (wr := []) C [.int (iI (xn - 1 - mm))] [.int (iI (xn - 1 - mm)), .ref (x 23)] (c_B_fewestAt kI kZ x (fwA BF WP WL wn XP xn mm) b0 WP WL WC wn wk hW XP xn hX (xn - 1 - mm) (by omega)) ml_B_29 mk_B_fewestAt in_B_fewestAt se_B_fewestAt rfl rfl rfl [0, 1, 2, 3, 4, 5, 6, 7] [] [0, 1, 2, 3, 4, 5, 6, 7] rfl (by decide) rfl (by decide) (by decide) (wB kI kZ x (fwA BF WP WL wn XP xn mm) ++ wW kI kZ x WP WL WC wn wk ++ wX kI kZ x XP xn) rfl (by decide) rfl rfl rfl (Nat.le_of_ble_eq_true rfl) ⟨Nat.le_of_ble_eq_true rfl, Nat.le_of_ble_eq_true rfl⟩ ⟨Nat.le_of_ble_eq_true rfl, Nat.le_of_ble_eq_true rfl⟩ d_B_fewestWords_30 rfl ?_
        refine j_iast (q := 34) C 1 0 rfl rfl (by decide) (by omega) (wB kI kZ x (uI (fwA BF WP WL wn XP xn mm) (xn - 1 - mm).toNat (mnB (fun w => fbB (fwA BF WP WL wn XP xn mm) WP WL wn XP xn w (xn - 1 - mm)) wn.toNat)) ++ wW kI kZ x WP WL WC wn wk ++ wX kI kZ x XP xn) rfl d_B_fewestWords_33 rfl ?_
        refine j_iinc (q := 37) C 2 [(0, .ref (x 22)), (1, .int (iI (xn))), (2, .int (iI ((xn - 1 - mm) + (-1))))] rfl rfl (by decide) d_B_fewestWords_34 rfl ?_
        refine j_goto C 19 d_B_fewestWords_37 rfl ?_
        rw [show xn - 1 - (mm : Int) + -1 = xn - 1 - ((mm + 1 : Nat) : Int) from by omega]
        exact ih19 (mm + 1) (by omega) (by omega)
  have z0 : (xn - 1 : Int) = xn - 1 - ((0 : Nat) : Int) := by omega
  rw [z0]
  exact lp19 (xn.toNat + 1) 0 (by omega) (by omega)
/-- where the i-th word begins -/
noncomputable def poB (BF WP WL : Nat → Int) (wn : Int) (XP : Nat → Int) (xn : Int) : Nat → Int
  | 0 => 0
  | i + 1 => poB BF WP WL wn XP xn i + lnOf WL wn (lwB BF WP WL wn XP xn (poB BF WP WL wn XP xn i))
theorem poB_s (BF WP WL : Nat → Int) (wn : Int) (XP : Nat → Int) (xn : Int) {i : Int} (h : 0 ≤ i) : poB BF WP WL wn XP xn (i + 1).toNat = poB BF WP WL wn XP xn i.toNat + lnOf WL wn (lwB BF WP WL wn XP xn (poB BF WP WL wn XP xn i.toNat)) := by
  obtain ⟨n, rfl⟩ := Int.eq_ofNat_of_zero_le h
  rfl
theorem poB_r {WP WL WC : Nat → Int} {wn wk : Int} (hW : IW WP WL WC wn wk) (BF XP : Nat → Int) {xn : Int} (hxn : 0 ≤ xn ∧ xn ≤ 60) (i : Nat) : 0 ≤ poB BF WP WL wn XP xn i ∧ poB BF WP WL wn XP xn i ≤ xn := by
  induction i with
  | zero => unfold poB; omega
  | succ i ih =>
    have h1 := lnOf_r hW (lwB BF WP WL wn XP xn (poB BF WP WL wn XP xn i))
    have h2 := lwB_r BF WP WL wn XP xn (poB BF WP WL wn XP xn i)
    unfold poB
    by_cases c : 0 ≤ lwB BF WP WL wn XP xn (poB BF WP WL wn XP xn i)
    · have := (lwB_s c).1.2.1
      omega
    · have : lnOf WL wn (lwB BF WP WL wn XP xn (poB BF WP WL wn XP xn i)) = 0 := by unfold lnOf; rw [if_neg (by omega)]
      omega
noncomputable def wdB (BF WP WL : Nat → Int) (wn : Int) (XP : Nat → Int) (xn k : Int) : Int := if 0 ≤ k ∧ k < fwZ BF WP WL wn XP xn (0 : Int).toNat then lwB (fwZ BF WP WL wn XP xn) WP WL wn XP xn (poB (fwZ BF WP WL wn XP xn) WP WL wn XP xn k.toNat) else -1

set_option maxRecDepth 100000 in
set_option maxHeartbeats 4000000 in
theorem c_B_wordOf {l : Launch} {D : va_G} (kI kZ : ClassId) (x : Nat → Nat) (BF : Nat → Int) (hB : IB BF) (WP WL WC : Nat → Int) (wn wk : Int) (hW : IW WP WL WC wn wk) (XP : Nat → Int) (xn : Int) (hX : IX XP xn) (hL1 : ∀ a, 0 ≤ a → a < wn → 1 ≤ lnOf WL wn a) (k : Int) (hk : (-2147483648 ≤ k ∧ k < 2147483648)) : Dt l D (ty2 kI kZ) y_B_wordOf w_B_wordOf { frames := 5, cells := 0, slots := 0, locals := 113 } [.ref (x 22), .int (iI (k))] (wB kI kZ x BF ++ wW kI kZ x WP WL WC wn wk ++ wX kI kZ x XP xn) (some (.int (iI (wdB BF WP WL wn XP xn k)))) (wB kI kZ x (if k < 0 then BF else fwZ BF WP WL wn XP xn) ++ wW kI kZ x WP WL WC wn wk ++ wX kI kZ x XP xn) := by
  refine Met.toJ (own := R_B) (QD D (some (.int (iI (wdB BF WP WL wn XP xn k)))) (wB kI kZ x (if k < 0 then BF else fwZ BF WP WL wn XP xn) ++ wW kI kZ x WP WL WC wn wk ++ wX kI kZ x XP xn)) mk_B_wordOf rfl (Nat.le_of_ble_eq_true rfl) ?_
  intro p e s m args below meth c A C hr hlk hnm
  show JJ p l e { frames := 5, cells := 0, slots := 0, locals := 113 } s m args below meth c D A 4 (MQ below (QD D (some (.int (iI (wdB BF WP WL wn XP xn k)))) (wB kI kZ x (if k < 0 then BF else fwZ BF WP WL wn XP xn) ++ wW kI kZ x WP WL WC wn wk ++ wX kI kZ x XP xn) A) args s 0 0 A) 0 0 0 [(0, .ref (x 22)), (1, .int (iI (k)))] [] (wB kI kZ x BF ++ wW kI kZ x WP WL WC wn wk ++ wX kI kZ x XP xn)
  obtain ⟨hwn, hwk, hWL, hWP, hWC⟩ := id hW
  obtain ⟨hxn, hXP⟩ := id hX
  refine j_iload_n (q := 1) C 1 rfl d_B_wordOf_0 rfl ?_
  refine j_if_lt C 12 4 d_B_wordOf_1 rfl rfl (by omega) (fun c1 => ?_) (fun c1 => ?_)
  · refine j_iconst (q := 13) C d_B_wordOf_12 rfl ?_
    exact j_iret C hr hlk d_B_wordOf_13 (congrArg (fun z => some (Value.int (iI z))) (show (wdB BF WP WL wn XP xn k) = (-1) from by unfold wdB; rw [if_neg (by omega)])) (by repeat (first | rfl | (rw [if_pos (by omega)]) | (rw [if_neg (by omega)])))
  · refine j_iload_n (q := 5) C 1 rfl d_B_wordOf_4 rfl ?_
    refine j_aload_n (q := 6) C 0 rfl d_B_wordOf_5 rfl ?_
    have b6 := fwZ_r (XP := XP) (WP := WP) hB hwn.1 hxn hL1
    have e6 := b6 (0 : Int).toNat
    refine j_callV (q := 9) (wr := []) C [] [.int (iI (k))] (c_B_fewestWords kI kZ x BF hB WP WL WC wn wk hW XP xn hX hL1) ml_B_33 mk_B_fewestWords in_B_fewestWords se_B_fewestWords rfl rfl rfl [0, 1, 2, 3, 4, 5, 6, 7] [] [0, 1, 2, 3, 4, 5, 6, 7] rfl (by decide) rfl (by decide) (by decide) (wB kI kZ x (fwZ BF WP WL wn XP xn) ++ wW kI kZ x WP WL WC wn wk ++ wX kI kZ x XP xn) rfl (by decide) rfl rfl rfl (Nat.le_of_ble_eq_true rfl) ⟨Nat.le_of_ble_eq_true rfl, Nat.le_of_ble_eq_true rfl⟩ ⟨Nat.le_of_ble_eq_true rfl, Nat.le_of_ble_eq_true rfl⟩ d_B_wordOf_6 rfl ?_
    refine j_icmp_lt C 14 12 d_B_wordOf_9 rfl rfl (by omega) (by omega) (fun c2 => ?_) (fun c2 => ?_)
    · refine j_iconst (q := 15) C d_B_wordOf_14 rfl ?_
      refine j_istore_n (q := 16) C [(0, .ref (x 22)), (1, .int (iI (k))), (2, .int (iI (0)))] rfl (by decide) d_B_wordOf_15 rfl ?_
      refine j_iconst (q := 17) C d_B_wordOf_16 rfl ?_
      refine j_istore_n (q := 18) C [(0, .ref (x 22)), (1, .int (iI (k))), (2, .int (iI (0))), (3, .int (iI (0)))] rfl (by decide) d_B_wordOf_17 rfl ?_
      have lp18 : ∀ (N : Nat) (i p0 : Int), (0 ≤ i ∧ i ≤ k) → (p0 = poB (fwZ BF WP WL wn XP xn) WP WL wn XP xn i.toNat) → (0 ≤ p0 ∧ p0 ≤ 60) → (k - i).toNat < N → JJ p l e { frames := 5, cells := 0, slots := 0, locals := 113 } s m args below meth c D A 4 (MQ below (QD D (some (.int (iI (wdB BF WP WL wn XP xn k)))) (wB kI kZ x (if k < 0 then BF else fwZ BF WP WL wn XP xn) ++ wW kI kZ x WP WL WC wn wk ++ wX kI kZ x XP xn) A) args s 0 0 A) 0 0 18 [(0, .ref (x 22)), (1, .int (iI (k))), (2, .int (iI (p0))), (3, .int (iI (i)))] [] (wB kI kZ x (fwZ BF WP WL wn XP xn) ++ wW kI kZ x WP WL WC wn wk ++ wX kI kZ x XP xn) := by
        intro N
        induction N with
        | zero =>
          intro i p0 i0 i1 i2 hN
          omega
        | succ N ih18 =>
          intro i p0 i0 i1 i2 hN
          refine j_iload_n (q := 19) C 3 rfl d_B_wordOf_18 rfl ?_
          refine j_iload_n (q := 20) C 1 rfl d_B_wordOf_19 rfl ?_
          refine j_icmp_ge C 44 23 d_B_wordOf_20 rfl rfl (by omega) (by omega) (fun c3 => ?_) (fun c3 => ?_)
          · refine j_aload_n (q := 45) C 0 rfl d_B_wordOf_44 rfl ?_
            refine j_iload_n (q := 46) C 2 rfl d_B_wordOf_45 rfl ?_
            have e46 := lwB_r (fwZ BF WP WL wn XP xn) WP WL wn XP xn p0
            refine j_callV (q := 49) (wr := []) C [.int (iI (p0))] [] (c_B_leastWordAt kI kZ x (fwZ BF WP WL wn XP xn) b6 WP WL WC wn wk hW XP xn hX p0 (by omega)) ml_B_36 mk_B_leastWordAt in_B_leastWordAt se_B_leastWordAt rfl rfl rfl [0, 1, 2, 3, 4, 5, 6, 7] [] [0, 1, 2, 3, 4, 5, 6, 7] rfl (by decide) rfl (by decide) (by decide) (wB kI kZ x (fwZ BF WP WL wn XP xn) ++ wW kI kZ x WP WL WC wn wk ++ wX kI kZ x XP xn) rfl (by decide) rfl rfl rfl (Nat.le_of_ble_eq_true rfl) ⟨Nat.le_of_ble_eq_true rfl, Nat.le_of_ble_eq_true rfl⟩ ⟨Nat.le_of_ble_eq_true rfl, Nat.le_of_ble_eq_true rfl⟩ d_B_wordOf_46 rfl ?_
            first | (exfalso; omega) | exact j_iret C hr hlk d_B_wordOf_49 (congrArg (fun z => some (Value.int (iI z))) (show (wdB BF WP WL wn XP xn k) = (lwB (fwZ BF WP WL wn XP xn) WP WL wn XP xn p0) from by unfold wdB; rw [if_pos (by omega), i1, show k = i from by omega])) (by repeat (first | rfl | (rw [if_pos (by omega)]) | (rw [if_neg (by omega)])))
          · refine j_iload_n (q := 24) C 2 rfl d_B_wordOf_23 rfl ?_
            refine j_aload_n (q := 25) C 0 rfl d_B_wordOf_24 rfl ?_
            refine j_get (q := 28) C i_B rfl 0 rfl 0 (by decide) rfl rfl fl_B_15 d_B_wordOf_25 rfl ?_
            refine j_aload_n (q := 29) C 0 rfl d_B_wordOf_28 rfl ?_
            refine j_iload_n (q := 30) C 2 rfl d_B_wordOf_29 rfl ?_
            have e30 := lwB_r (fwZ BF WP WL wn XP xn) WP WL wn XP xn p0
            refine j_callV (q := 33) (wr := []) C [.int (iI (p0))] [.ref (x 1), .int (iI (p0))] (c_B_leastWordAt kI kZ x (fwZ BF WP WL wn XP xn) b6 WP WL WC wn wk hW XP xn hX p0 (by omega)) ml_B_36 mk_B_leastWordAt in_B_leastWordAt se_B_leastWordAt rfl rfl rfl [0, 1, 2, 3, 4, 5, 6, 7] [] [0, 1, 2, 3, 4, 5, 6, 7] rfl (by decide) rfl (by decide) (by decide) (wB kI kZ x (fwZ BF WP WL wn XP xn) ++ wW kI kZ x WP WL WC wn wk ++ wX kI kZ x XP xn) rfl (by decide) rfl rfl rfl (Nat.le_of_ble_eq_true rfl) ⟨Nat.le_of_ble_eq_true rfl, Nat.le_of_ble_eq_true rfl⟩ ⟨Nat.le_of_ble_eq_true rfl, Nat.le_of_ble_eq_true rfl⟩ d_B_wordOf_30 rfl ?_
            have e33 := lnOf_r hW (lwB (fwZ BF WP WL wn XP xn) WP WL wn XP xn p0)
            refine j_callV (q := 36) (wr := wB kI kZ x (fwZ BF WP WL wn XP xn) ++ wX kI kZ x XP xn) C [.int (iI (lwB (fwZ BF WP WL wn XP xn) WP WL wn XP xn p0))] [.int (iI (p0))] (c_W_lengthOf kI kZ x WP WL WC wn wk hW (lwB (fwZ BF WP WL wn XP xn) WP WL wn XP xn p0) (by omega)) ml_B_39 mk_W_lengthOf in_W_lengthOf se_W_lengthOf rfl rfl rfl [2, 3, 4, 5] [0, 1, 6, 7] [0, 1, 4, 5, 6, 7, 2, 3] rfl (by decide) rfl (by decide) (by decide) (wB kI kZ x (fwZ BF WP WL wn XP xn) ++ wW kI kZ x WP WL WC wn wk ++ wX kI kZ x XP xn) rfl (by decide) rfl rfl rfl (Nat.le_of_ble_eq_true rfl) ⟨Nat.le_of_ble_eq_true rfl, Nat.le_of_ble_eq_true rfl⟩ ⟨Nat.le_of_ble_eq_true rfl, Nat.le_of_ble_eq_true rfl⟩ d_B_wordOf_33 rfl ?_
            refine j_iadd (q := 37) C d_B_wordOf_36 rfl ?_
            refine j_istore_n (q := 38) C [(0, .ref (x 22)), (1, .int (iI (k))), (2, .int (iI (p0 + (lnOf WL wn (lwB (fwZ BF WP WL wn XP xn) WP WL wn XP xn p0))))), (3, .int (iI (i)))] rfl (by decide) d_B_wordOf_37 rfl ?_
            refine j_iinc (q := 41) C 3 [(0, .ref (x 22)), (1, .int (iI (k))), (2, .int (iI (p0 + (lnOf WL wn (lwB (fwZ BF WP WL wn XP xn) WP WL wn XP xn p0))))), (3, .int (iI (i + 1)))] rfl rfl (by decide) d_B_wordOf_38 rfl ?_
            refine j_goto C 18 d_B_wordOf_41 rfl ?_
            have q0 := poB_r hW (fwZ BF WP WL wn XP xn) XP hxn (i + 1).toNat
            have q1 := poB_s (fwZ BF WP WL wn XP xn) WP WL wn XP xn i0.1
            rw [← i1] at q1
            exact ih18 (i + 1) _ (by omega) q1.symm (by omega) (by omega)
      exact lp18 (k.toNat + 1) 0 0 (by omega) rfl (by omega) (by omega)
    · refine j_iconst (q := 13) C d_B_wordOf_12 rfl ?_
      first | (exfalso; omega) | exact j_iret C hr hlk d_B_wordOf_13 (congrArg (fun z => some (Value.int (iI z))) (show (wdB BF WP WL wn XP xn k) = (-1) from by unfold wdB; rw [if_neg (by omega)])) (by repeat (first | rfl | (rw [if_pos (by omega)]) | (rw [if_neg (by omega)])))
