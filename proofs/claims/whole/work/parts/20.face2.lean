set_option maxRecDepth 100000 in
set_option maxHeartbeats 4000000 in
theorem c_H_floorMod {l : Launch} {D : va_G} (kI kZ : ClassId) (x : Nat → Nat) (a : Int) (ha : (-2147483648 ≤ a ∧ a < 2147483648)) : Dt l D (ty2 kI kZ) y_H_floorMod w_H_floorMod { frames := 0, cells := 0, slots := 0, locals := 0 } [.int (iI (a)), .int (iI (26))] ([]) (some (.int (iI (a % 26)))) ([]) := by
  refine Met.toJ (own := R_H) (QD D (some (.int (iI (a % 26)))) ([])) mk_H_floorMod rfl (Nat.le_of_ble_eq_true rfl) ?_
  intro p e s m args below meth c A C hr hlk hnm
  show JJ p l e { frames := 0, cells := 0, slots := 0, locals := 0 } s m args below meth c D A 3 (MQ below (QD D (some (.int (iI (a % 26)))) ([]) A) args s 0 0 A) 0 0 0 [(0, .int (iI (a))), (1, .int (iI (26)))] [] ([])
  have t0 : (0 ≤ a ∧ tm a 26 = a % 26) ∨ (a < 0 ∧ tm a 26 = -((-a) % 26)) := by unfold tm; split <;> omega
  have x0 := xr_r a 26
  have x1 := xr_s (b := 26) ha (by omega)
  refine j_iload_n (q := 1) C 0 rfl d_H_floorMod_0 rfl ?_
  refine j_iload_n (q := 2) C 1 rfl d_H_floorMod_1 rfl ?_
  refine j_iremT (q := 3) C (by omega) (by omega) d_H_floorMod_2 rfl ?_
  refine j_istore_n (q := 4) C [(0, .int (iI (a))), (1, .int (iI (26))), (2, .int (iI (tm a 26)))] rfl (by decide) d_H_floorMod_3 rfl ?_
  refine j_iload_n (q := 5) C 0 rfl d_H_floorMod_4 rfl ?_
  refine j_iload_n (q := 6) C 1 rfl d_H_floorMod_5 rfl ?_
  refine j_ixor (q := 7) C d_H_floorMod_6 rfl ?_
  refine j_if_ge C 18 10 d_H_floorMod_7 rfl rfl (by omega) (fun c1 => ?_) (fun c1 => ?_)
  · have c1 : 0 ≤ a := by omega
    refine j_iload_n (q := 19) C 2 rfl d_H_floorMod_18 rfl ?_
    exact j_iret C hr hlk d_H_floorMod_19 (congrArg (fun z => some (Value.int (iI z))) (show (a % 26) = (tm a 26) from by omega)) rfl
  · have c1 : a < 0 := by omega
    refine j_iload_n (q := 11) C 2 rfl d_H_floorMod_10 rfl ?_
    refine j_if_eq C 18 14 d_H_floorMod_11 rfl rfl (by omega) (fun c2 => ?_) (fun c2 => ?_)
    · refine j_iload_n (q := 19) C 2 rfl d_H_floorMod_18 rfl ?_
      first | (exfalso; omega) | exact j_iret C hr hlk d_H_floorMod_19 (congrArg (fun z => some (Value.int (iI z))) (show (a % 26) = (tm a 26) from by omega)) rfl
    · refine j_iload_n (q := 15) C 2 rfl d_H_floorMod_14 rfl ?_
      refine j_iload_n (q := 16) C 1 rfl d_H_floorMod_15 rfl ?_
      refine j_iadd (q := 17) C d_H_floorMod_16 rfl ?_
      first | (exfalso; omega) | exact j_iret C hr hlk d_H_floorMod_17 (congrArg (fun z => some (Value.int (iI z))) (show (a % 26) = ((tm a 26) + 26) from by omega)) rfl
set_option maxRecDepth 100000 in
set_option maxHeartbeats 4000000 in
theorem c_C_shifted {l : Launch} {D : va_G} (kI kZ : ClassId) (x : Nat → Nat) (XP : Nat → Int) (xn : Int) (hX : IX XP xn) (a i : Int) (ha : (-2147483648 ≤ a ∧ a < 2147483648)) (hi : (-2147483648 ≤ i ∧ i < 2147483648)) : Dt l D (ty2 kI kZ) y_C_shifted w_C_shifted { frames := 3, cells := 0, slots := 0, locals := 61 } [.ref (x 0), .int (iI (a)), .int (iI (i))] (wC kI kZ x ++ wX kI kZ x XP xn) (some (.int (iI (shL (sgAt XP xn i) (a % 26))))) (wC kI kZ x ++ wX kI kZ x XP xn) := by
  refine Met.toJ (own := R_C) (QD D (some (.int (iI (shL (sgAt XP xn i) (a % 26))))) (wC kI kZ x ++ wX kI kZ x XP xn)) mk_C_shifted rfl (Nat.le_of_ble_eq_true rfl) ?_
  intro p e s m args below meth c A C hr hlk hnm
  show JJ p l e { frames := 3, cells := 0, slots := 0, locals := 61 } s m args below meth c D A 3 (MQ below (QD D (some (.int (iI (shL (sgAt XP xn i) (a % 26))))) (wC kI kZ x ++ wX kI kZ x XP xn) A) args s 0 0 A) 0 0 0 [(0, .ref (x 0)), (1, .int (iI (a))), (2, .int (iI (i)))] [] (wC kI kZ x ++ wX kI kZ x XP xn)
  refine j_aload_n (q := 1) C 0 rfl d_C_shifted_0 rfl ?_
  refine j_get (q := 4) C i_C rfl 0 rfl 5 (by decide) rfl rfl fl_C_49 d_C_shifted_1 rfl ?_
  refine j_iload_n (q := 5) C 2 rfl d_C_shifted_4 rfl ?_
  have e5 := sgAt_r hX.b xn i
  refine j_callV (q := 8) (wr := wC kI kZ x) C [.int (iI (i))] [] (c_X_placeAt kI kZ x XP xn hX i (by omega)) ml_C_128 mk_X_placeAt in_X_placeAt se_X_placeAt rfl rfl rfl [1, 2] [0] [0, 1, 2] rfl (by decide) rfl (by decide) (by decide) (wC kI kZ x ++ wX kI kZ x XP xn) rfl (by decide) rfl rfl rfl (Nat.le_of_ble_eq_true rfl) ⟨Nat.le_of_ble_eq_true rfl, Nat.le_of_ble_eq_true rfl⟩ ⟨Nat.le_of_ble_eq_true rfl, Nat.le_of_ble_eq_true rfl⟩ d_C_shifted_5 rfl ?_
  refine j_iload_n (q := 9) C 1 rfl d_C_shifted_8 rfl ?_
  refine j_bipush (q := 11) C d_C_shifted_9 rfl rfl ?_
  have e11 : 0 ≤ a % 26 ∧ a % 26 < 26 := by omega
  refine j_callS (q := 14) (wr := wC kI kZ x ++ wX kI kZ x XP xn) C [.int (iI (a)), .int (iI (26))] [.int (iI (sgAt XP xn i))] (c_H_floorMod kI kZ x a (by omega)) ml_C_131 mk_H_floorMod st_H_floorMod [] [0, 1, 2] [0, 1, 2] rfl (by decide) rfl (by decide) (by decide) (wC kI kZ x ++ wX kI kZ x XP xn) rfl (by decide) rfl rfl rfl (Nat.le_of_ble_eq_true rfl) ⟨Nat.le_of_ble_eq_true rfl, Nat.le_of_ble_eq_true rfl⟩ ⟨Nat.le_of_ble_eq_true rfl, Nat.le_of_ble_eq_true rfl⟩ d_C_shifted_11 rfl ?_
  refine j_callS (q := 17) (wr := wC kI kZ x ++ wX kI kZ x XP xn) C [.int (iI (sgAt XP xn i)), .int (iI (a % 26))] [] (c_C_shiftedLetter kI kZ x (sgAt XP xn i) (a % 26) (by omega) (by omega)) ml_C_136 mk_C_shiftedLetter st_C_shiftedLetter [] [0, 1, 2] [0, 1, 2] rfl (by decide) rfl (by decide) (by decide) (wC kI kZ x ++ wX kI kZ x XP xn) rfl (by decide) rfl rfl rfl (Nat.le_of_ble_eq_true rfl) ⟨Nat.le_of_ble_eq_true rfl, Nat.le_of_ble_eq_true rfl⟩ ⟨Nat.le_of_ble_eq_true rfl, Nat.le_of_ble_eq_true rfl⟩ d_C_shifted_14 rfl ?_
  exact j_iret C hr hlk d_C_shifted_17 rfl rfl
set_option maxRecDepth 100000 in
set_option maxHeartbeats 4000000 in
theorem c_C_steps {l : Launch} {D : va_G} (kI kZ : ClassId) (x : Nat → Nat) (σ : T4) (hσ : I4 σ) (sa sm sf ss : Int) : Dt l D (ty2 kI kZ) y_C_steps w_C_steps { frames := 1, cells := 0, slots := 0, locals := 20 } [.ref (x 0)] (wC kI kZ x ++ wS kI kZ x σ.2.1 σ.2.2.1 σ.2.2.2 sa sm sf ss ++ wY kI kZ x σ.1) (some (.int (iI (sm)))) (wC kI kZ x ++ wS kI kZ x σ.2.1 σ.2.2.1 σ.2.2.2 sa sm sf ss ++ wY kI kZ x σ.1) := by
  refine Met.toJ (own := R_C) (QD D (some (.int (iI (sm)))) (wC kI kZ x ++ wS kI kZ x σ.2.1 σ.2.2.1 σ.2.2.2 sa sm sf ss ++ wY kI kZ x σ.1)) mk_C_steps rfl (Nat.le_of_ble_eq_true rfl) ?_
  intro p e s m args below meth c A C hr hlk hnm
  show JJ p l e { frames := 1, cells := 0, slots := 0, locals := 20 } s m args below meth c D A 1 (MQ below (QD D (some (.int (iI (sm)))) (wC kI kZ x ++ wS kI kZ x σ.2.1 σ.2.2.1 σ.2.2.2 sa sm sf ss ++ wY kI kZ x σ.1) A) args s 0 0 A) 0 0 0 [(0, .ref (x 0))] [] (wC kI kZ x ++ wS kI kZ x σ.2.1 σ.2.2.1 σ.2.2.2 sa sm sf ss ++ wY kI kZ x σ.1)
  refine j_aload_n (q := 1) C 0 rfl d_C_steps_0 rfl ?_
  refine j_get (q := 4) C i_C rfl 0 rfl 4 (by decide) rfl rfl fl_C_42 d_C_steps_1 rfl ?_
  refine j_callV (q := 7) (wr := wC kI kZ x) C [] [] (c_S_stepsMade kI kZ x σ hσ sa sm sf ss) ml_C_95 mk_S_stepsMade in_S_stepsMade se_S_stepsMade rfl rfl rfl [1, 2, 3, 4] [0] [0, 1, 2, 3, 4] rfl (by decide) rfl (by decide) (by decide) (wC kI kZ x ++ wS kI kZ x σ.2.1 σ.2.2.1 σ.2.2.2 sa sm sf ss ++ wY kI kZ x σ.1) rfl (by decide) rfl rfl rfl (Nat.le_of_ble_eq_true rfl) ⟨Nat.le_of_ble_eq_true rfl, Nat.le_of_ble_eq_true rfl⟩ ⟨Nat.le_of_ble_eq_true rfl, Nat.le_of_ble_eq_true rfl⟩ d_C_steps_4 rfl ?_
  exact j_iret C hr hlk d_C_steps_7 rfl rfl
set_option maxRecDepth 100000 in
set_option maxHeartbeats 4000000 in
theorem c_C_run_no {l : Launch} {D : va_G} (kI kZ : ClassId) (x : Nat → Nat) (sa : Int) (hr0 : (-2147483648 ≤ sa ∧ sa < 2147483648)) (hsa : ¬ (0 ≤ sa ∧ sa ≤ 100000)) : Dt l D (ty2 kI kZ) y_C_run w_C_run { frames := 81, cells := 0, slots := 0, locals := 2240 } [.ref (x 0), .int (iI (sa))] (wC kI kZ x) (some (.int (iI (-2)))) (wC kI kZ x) := by
  refine Met.toJ (own := R_C) (QD D (some (.int (iI (-2)))) (wC kI kZ x)) mk_C_run rfl (Nat.le_of_ble_eq_true rfl) ?_
  intro p e s m args below meth c A C hr hlk hnm
  show JJ p l e { frames := 81, cells := 0, slots := 0, locals := 2240 } s m args below meth c D A 2 (MQ below (QD D (some (.int (iI (-2)))) (wC kI kZ x) A) args s 0 0 A) 0 0 0 [(0, .ref (x 0)), (1, .int (iI (sa)))] [] (wC kI kZ x)
  refine j_iload_n (q := 1) C 1 rfl d_C_run_0 rfl ?_
  refine j_if_lt C 10 4 d_C_run_1 rfl rfl (by omega) (fun c1 => ?_) (fun c1 => ?_)
  · refine j_bipush (q := 12) C d_C_run_10 rfl rfl ?_
    exact j_iret C hr hlk d_C_run_12 rfl rfl
  · refine j_iload_n (q := 5) C 1 rfl d_C_run_4 rfl ?_
    refine j_ldc (q := 7) C d_C_run_5 rfl co_C_91 ?_
    refine j_icmp_le C 13 10 d_C_run_7 rfl rfl (by omega) (by omega) (fun c2 => ?_) (fun c2 => ?_)
    · exfalso; omega
    · refine j_bipush (q := 12) C d_C_run_10 rfl rfl ?_
      first | (exfalso; omega) | exact j_iret C hr hlk d_C_run_12 rfl rfl
set_option maxRecDepth 100000 in
set_option maxHeartbeats 4000000 in
theorem c_C_run_ok {l : Launch} {D : va_G} (kI kZ : ClassId) (x : Nat → Nat) (WP WL WC : Nat → Int) (wn wk : Int) (hW : IW WP WL WC wn wk) (KS KB KE KZ KV : Nat → Int) (kn kw : Int) (hK : IK KS KB KE KZ KV kn kw) (hPl : ∀ a j, 0 ≤ j → j < lnOf WL wn a → 0 ≤ plAt WP WL wn a j) (hNm : ∀ a j, 0 ≤ a → a < kw → 0 ≤ j → j < lnOf KE kw a → 0 ≤ nmAt KS KB KE kn kw a j) (σ : T4) (hσ : I4 σ) (sa0 sm sf ss : Int) (RP RS : Nat → Int) (rn : Int) (hR : IR RP RS rn) (sa : Int) (hsa : 0 ≤ sa ∧ sa ≤ 100000) : Dx l D (ty2 kI kZ) y_C_run w_C_run { frames := 81, cells := 0, slots := 0, locals := 2240 } [.ref (x 0), .int (iI (sa))] (wC kI kZ x ++ wS kI kZ x σ.2.1 σ.2.2.1 σ.2.2.2 sa0 sm sf ss ++ wY kI kZ x σ.1 ++ wW kI kZ x WP WL WC wn wk ++ wK kI kZ x KS KB KE KZ KV kn kw ++ wR kI kZ x RP RS rn) (some (.int (iI (if (rnC WP WL wn KS KB KE KZ KV kn kw sa σ.1 σ.2.1 RP RS).2.1 = 0 then (rnC WP WL wn KS KB KE KZ KV kn kw sa σ.1 σ.2.1 RP RS).2.2.1 else -1)))) (fun σ2 : { σ2 : T4 // I4 σ2 } => wC kI kZ x ++ wS kI kZ x σ2.1.2.1 σ2.1.2.2.1 σ2.1.2.2.2 sa ((rnC WP WL wn KS KB KE KZ KV kn kw sa σ.1 σ.2.1 RP RS).1) ((rnC WP WL wn KS KB KE KZ KV kn kw sa σ.1 σ.2.1 RP RS).2.2.1) ((rnC WP WL wn KS KB KE KZ KV kn kw sa σ.1 σ.2.1 RP RS).2.1) ++ wY kI kZ x σ2.1.1 ++ wW kI kZ x WP WL WC wn wk ++ wK kI kZ x KS KB KE KZ KV kn kw ++ wR kI kZ x ((rnC WP WL wn KS KB KE KZ KV kn kw sa σ.1 σ.2.1 RP RS).2.2.2.1) ((rnC WP WL wn KS KB KE KZ KV kn kw sa σ.1 σ.2.1 RP RS).2.2.2.2.1) (if (rnC WP WL wn KS KB KE KZ KV kn kw sa σ.1 σ.2.1 RP RS).2.1 = 0 then (rnC WP WL wn KS KB KE KZ KV kn kw sa σ.1 σ.2.1 RP RS).2.2.2.2.2 else 0)) := by
  refine Met.toJ (own := R_C) (QX D (some (.int (iI (if (rnC WP WL wn KS KB KE KZ KV kn kw sa σ.1 σ.2.1 RP RS).2.1 = 0 then (rnC WP WL wn KS KB KE KZ KV kn kw sa σ.1 σ.2.1 RP RS).2.2.1 else -1)))) (fun σ2 : { σ2 : T4 // I4 σ2 } => wC kI kZ x ++ wS kI kZ x σ2.1.2.1 σ2.1.2.2.1 σ2.1.2.2.2 sa ((rnC WP WL wn KS KB KE KZ KV kn kw sa σ.1 σ.2.1 RP RS).1) ((rnC WP WL wn KS KB KE KZ KV kn kw sa σ.1 σ.2.1 RP RS).2.2.1) ((rnC WP WL wn KS KB KE KZ KV kn kw sa σ.1 σ.2.1 RP RS).2.1) ++ wY kI kZ x σ2.1.1 ++ wW kI kZ x WP WL WC wn wk ++ wK kI kZ x KS KB KE KZ KV kn kw ++ wR kI kZ x ((rnC WP WL wn KS KB KE KZ KV kn kw sa σ.1 σ.2.1 RP RS).2.2.2.1) ((rnC WP WL wn KS KB KE KZ KV kn kw sa σ.1 σ.2.1 RP RS).2.2.2.2.1) (if (rnC WP WL wn KS KB KE KZ KV kn kw sa σ.1 σ.2.1 RP RS).2.1 = 0 then (rnC WP WL wn KS KB KE KZ KV kn kw sa σ.1 σ.2.1 RP RS).2.2.2.2.2 else 0))) mk_C_run rfl (Nat.le_of_ble_eq_true rfl) ?_
  intro p e s m args below meth c A C hr hlk hnm
  show JJ p l e { frames := 81, cells := 0, slots := 0, locals := 2240 } s m args below meth c D A 2 (MQ below (QX D (some (.int (iI (if (rnC WP WL wn KS KB KE KZ KV kn kw sa σ.1 σ.2.1 RP RS).2.1 = 0 then (rnC WP WL wn KS KB KE KZ KV kn kw sa σ.1 σ.2.1 RP RS).2.2.1 else -1)))) (fun σ2 : { σ2 : T4 // I4 σ2 } => wC kI kZ x ++ wS kI kZ x σ2.1.2.1 σ2.1.2.2.1 σ2.1.2.2.2 sa ((rnC WP WL wn KS KB KE KZ KV kn kw sa σ.1 σ.2.1 RP RS).1) ((rnC WP WL wn KS KB KE KZ KV kn kw sa σ.1 σ.2.1 RP RS).2.2.1) ((rnC WP WL wn KS KB KE KZ KV kn kw sa σ.1 σ.2.1 RP RS).2.1) ++ wY kI kZ x σ2.1.1 ++ wW kI kZ x WP WL WC wn wk ++ wK kI kZ x KS KB KE KZ KV kn kw ++ wR kI kZ x ((rnC WP WL wn KS KB KE KZ KV kn kw sa σ.1 σ.2.1 RP RS).2.2.2.1) ((rnC WP WL wn KS KB KE KZ KV kn kw sa σ.1 σ.2.1 RP RS).2.2.2.2.1) (if (rnC WP WL wn KS KB KE KZ KV kn kw sa σ.1 σ.2.1 RP RS).2.1 = 0 then (rnC WP WL wn KS KB KE KZ KV kn kw sa σ.1 σ.2.1 RP RS).2.2.2.2.2 else 0)) A) args s 0 0 A) 0 0 0 [(0, .ref (x 0)), (1, .int (iI (sa)))] [] (wC kI kZ x ++ wS kI kZ x σ.2.1 σ.2.2.1 σ.2.2.2 sa0 sm sf ss ++ wY kI kZ x σ.1 ++ wW kI kZ x WP WL WC wn wk ++ wK kI kZ x KS KB KE KZ KV kn kw ++ wR kI kZ x RP RS rn)
  refine j_iload_n (q := 1) C 1 rfl d_C_run_0 rfl ?_
  refine j_if_lt C 10 4 d_C_run_1 rfl rfl (by omega) (fun c1 => ?_) (fun c1 => ?_)
  · exfalso; omega
  · refine j_iload_n (q := 5) C 1 rfl d_C_run_4 rfl ?_
    refine j_ldc (q := 7) C d_C_run_5 rfl co_C_91 ?_
    refine j_icmp_le C 13 10 d_C_run_7 rfl rfl (by omega) (by omega) (fun c2 => ?_) (fun c2 => ?_)
    · refine j_aload_n (q := 14) C 0 rfl d_C_run_13 rfl ?_
      refine j_get (q := 17) C i_C rfl 0 rfl 4 (by decide) rfl rfl fl_C_42 d_C_run_14 rfl ?_
      refine j_iload_n (q := 18) C 1 rfl d_C_run_17 rfl ?_
      refine j_callVX (q := 21) (wr := wC kI kZ x) C [.int (iI (sa))] [] (c_S_seekAll kI kZ x WP WL WC wn wk hW KS KB KE KZ KV kn kw hK hPl hNm sa hsa σ hσ sa0 sm sf ss RP RS rn hR) ml_C_92 mk_S_seekAll in_S_seekAll se_S_seekAll rfl rfl rfl [1, 2, 3, 4, 5, 6, 7, 8, 9, 10, 11, 12, 13, 14, 15, 16, 17] [0] [0, 1, 2, 3, 4, 5, 6, 7, 8, 9, 10, 11, 12, 13, 14, 15, 16, 17] rfl (by decide) rfl (by decide) (by decide) (fun σ2 : { σ2 : T4 // I4 σ2 } => wC kI kZ x ++ wS kI kZ x σ2.1.2.1 σ2.1.2.2.1 σ2.1.2.2.2 sa ((rnC WP WL wn KS KB KE KZ KV kn kw sa σ.1 σ.2.1 RP RS).1) ((rnC WP WL wn KS KB KE KZ KV kn kw sa σ.1 σ.2.1 RP RS).2.2.1) ((rnC WP WL wn KS KB KE KZ KV kn kw sa σ.1 σ.2.1 RP RS).2.1) ++ wY kI kZ x σ2.1.1 ++ wW kI kZ x WP WL WC wn wk ++ wK kI kZ x KS KB KE KZ KV kn kw ++ wR kI kZ x ((rnC WP WL wn KS KB KE KZ KV kn kw sa σ.1 σ.2.1 RP RS).2.2.2.1) ((rnC WP WL wn KS KB KE KZ KV kn kw sa σ.1 σ.2.1 RP RS).2.2.2.2.1) (if (rnC WP WL wn KS KB KE KZ KV kn kw sa σ.1 σ.2.1 RP RS).2.1 = 0 then (rnC WP WL wn KS KB KE KZ KV kn kw sa σ.1 σ.2.1 RP RS).2.2.2.2.2 else 0)) (fun _ => rfl) (by decide) rfl rfl rfl (Nat.le_of_ble_eq_true rfl) ⟨Nat.le_of_ble_eq_true rfl, Nat.le_of_ble_eq_true rfl⟩ ⟨Nat.le_of_ble_eq_true rfl, Nat.le_of_ble_eq_true rfl⟩ d_C_run_18 rfl (fun σ2 => ?_)
      first | (exfalso; omega) | exact j_iretX C hr hlk σ2 d_C_run_21 rfl rfl
    · exfalso; omega
