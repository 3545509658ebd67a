set_option maxRecDepth 100000 in
set_option maxHeartbeats 4000000 in
theorem c_W_init {l : Launch} {D : va_G} (kI kZ : ClassId) (h  : Nat) : Dx l D (ty2 kI kZ) y_W_init w_W_init { frames := 1, cells := 3, slots := 548, locals := 20 } [.ref h] ([(h, .inr (6, [.null, .null, .null, .int (iI (0)), .int (iI (0))]))]) none (fun a : Nat × Nat × Nat => [(h, .inr (6, [.ref a.1, .ref a.2.1, .ref a.2.2, .int (iI (0)), .int (iI (0))])), (a.1, aI kI 480 (fun _ => 0)), (a.2.1, aI kI 60 (fun _ => 0)), (a.2.2, aI kI 8 (fun _ => 0))]) := by
  refine Met.toJ (own := R_W) (QX D none (fun a : Nat × Nat × Nat => [(h, .inr (6, [.ref a.1, .ref a.2.1, .ref a.2.2, .int (iI (0)), .int (iI (0))])), (a.1, aI kI 480 (fun _ => 0)), (a.2.1, aI kI 60 (fun _ => 0)), (a.2.2, aI kI 8 (fun _ => 0))])) mk_W_init rfl (Nat.le_of_ble_eq_true rfl) ?_
  intro p e s m args below meth c A C hr hlk hnm
  show JJ p l e { frames := 1, cells := 3, slots := 548, locals := 20 } s m args below meth c D A 1 (MQ below (QX D none (fun a : Nat × Nat × Nat => [(h, .inr (6, [.ref a.1, .ref a.2.1, .ref a.2.2, .int (iI (0)), .int (iI (0))])), (a.1, aI kI 480 (fun _ => 0)), (a.2.1, aI kI 60 (fun _ => 0)), (a.2.2, aI kI 8 (fun _ => 0))]) A) args s 3 548 A) 0 0 0 [(0, .ref h)] [] ([(h, .inr (6, [.null, .null, .null, .int (iI (0)), .int (iI (0))]))])
  refine j_aload_n (q := 1) C 0 rfl d_W_init_0 rfl ?_
  refine j_oinit (q := 4) C ml_W_3 (Nat.le_of_ble_eq_true rfl) (Nat.le_of_ble_eq_true rfl) d_W_init_1 rfl ?_
  refine j_aload_n (q := 5) C 0 rfl d_W_init_4 rfl ?_
  refine j_sipush (q := 8) C d_W_init_5 rfl rfl ?_
  refine j_newI (q := 10) (N := 480) C 0 rfl rfl (by decide) (Nat.le_of_ble_eq_true rfl) (Nat.le_of_ble_eq_true rfl) d_W_init_8 rfl (fun a8 => ?_)
  refine j_putF (q := 13) (ty := .array .int) C i_W rfl t_W t_W_ok n_W hnm 0 rfl 0 (by decide) rfl rfl fl_W_9 rfl (by decide +kernel) rfl rfl (Nat.le_of_ble_eq_true rfl) ([(h, .inr (6, [.ref a8, .null, .null, .int (iI (0)), .int (iI (0))])), (a8, aI kI 480 (fun _ => 0))]) rfl d_W_init_10 rfl ?_
  refine j_aload_n (q := 14) C 0 rfl d_W_init_13 rfl ?_
  refine j_bipush (q := 16) C d_W_init_14 rfl rfl ?_
  refine j_newI (q := 18) (N := 60) C 0 rfl rfl (by decide) (Nat.le_of_ble_eq_true rfl) (Nat.le_of_ble_eq_true rfl) d_W_init_16 rfl (fun a16 => ?_)
  refine j_putF (q := 21) (ty := .array .int) C i_W rfl t_W t_W_ok n_W hnm 0 rfl 1 (by decide) rfl rfl fl_W_15 rfl (by decide +kernel) rfl rfl (Nat.le_of_ble_eq_true rfl) ([(h, .inr (6, [.ref a8, .ref a16, .null, .int (iI (0)), .int (iI (0))])), (a8, aI kI 480 (fun _ => 0)), (a16, aI kI 60 (fun _ => 0))]) rfl d_W_init_18 rfl ?_
  refine j_aload_n (q := 22) C 0 rfl d_W_init_21 rfl ?_
  refine j_bipush (q := 24) C d_W_init_22 rfl rfl ?_
  refine j_newI (q := 26) (N := 8) C 0 rfl rfl (by decide) (Nat.le_of_ble_eq_true rfl) (Nat.le_of_ble_eq_true rfl) d_W_init_24 rfl (fun a24 => ?_)
  refine j_putF (q := 29) (ty := .array .int) C i_W rfl t_W t_W_ok n_W hnm 0 rfl 2 (by decide) rfl rfl fl_W_18 rfl (by decide +kernel) rfl rfl (Nat.le_of_ble_eq_true rfl) ([(h, .inr (6, [.ref a8, .ref a16, .ref a24, .int (iI (0)), .int (iI (0))])), (a8, aI kI 480 (fun _ => 0)), (a16, aI kI 60 (fun _ => 0)), (a24, aI kI 8 (fun _ => 0))]) rfl d_W_init_26 rfl ?_
  refine j_aload_n (q := 30) C 0 rfl d_W_init_29 rfl ?_
  refine j_iconst (q := 31) C d_W_init_30 rfl ?_
  refine j_put (q := 34) (ty := .int) C i_W rfl t_W t_W_ok n_W 0 rfl 3 (by decide) rfl fl_W_21 rfl (by decide +kernel) rfl rfl (Nat.le_of_ble_eq_true rfl) ([(h, .inr (6, [.ref a8, .ref a16, .ref a24, .int (iI (0)), .int (iI (0))])), (a8, aI kI 480 (fun _ => 0)), (a16, aI kI 60 (fun _ => 0)), (a24, aI kI 8 (fun _ => 0))]) rfl d_W_init_31 rfl ?_
  refine j_aload_n (q := 35) C 0 rfl d_W_init_34 rfl ?_
  refine j_iconst (q := 36) C d_W_init_35 rfl ?_
  refine j_put (q := 39) (ty := .int) C i_W rfl t_W t_W_ok n_W 0 rfl 4 (by decide) rfl fl_W_25 rfl (by decide +kernel) rfl rfl (Nat.le_of_ble_eq_true rfl) ([(h, .inr (6, [.ref a8, .ref a16, .ref a24, .int (iI (0)), .int (iI (0))])), (a8, aI kI 480 (fun _ => 0)), (a16, aI kI 60 (fun _ => 0)), (a24, aI kI 8 (fun _ => 0))]) rfl d_W_init_36 rfl ?_
  exact j_vretX C hr hlk (a8, a16, a24) d_W_init_39 rfl
set_option maxRecDepth 100000 in
set_option maxHeartbeats 4000000 in
theorem c_K_init {l : Launch} {D : va_G} (kI kZ : ClassId) (h  : Nat) : Dx l D (ty2 kI kZ) y_K_init w_K_init { frames := 2, cells := 5, slots := 172, locals := 60 } [.ref h] ([(h, .inr (0, [.null, .null, .null, .null, .null, .int (iI (0)), .int (iI (0))]))]) none (fun a : Nat × Nat × Nat × Nat × Nat => [(h, .inr (0, [.ref a.1, .ref a.2.1, .ref a.2.2.1, .ref a.2.2.2.1, .ref a.2.2.2.2, .int (iI (0)), .int (iI (0))])), (a.1, aI kI 60 (fun _ => 0)), (a.2.1, aI kI 30 (fun _ => 0)), (a.2.2.1, aI kI 30 (fun _ => 0)), (a.2.2.2.1, aI kZ 26 (fun _ => 0)), (a.2.2.2.2, aI kI 26 (zrB (fun _ => 0) (-1)))]) := by
  refine Met.toJ (own := R_K) (QX D none (fun a : Nat × Nat × Nat × Nat × Nat => [(h, .inr (0, [.ref a.1, .ref a.2.1, .ref a.2.2.1, .ref a.2.2.2.1, .ref a.2.2.2.2, .int (iI (0)), .int (iI (0))])), (a.1, aI kI 60 (fun _ => 0)), (a.2.1, aI kI 30 (fun _ => 0)), (a.2.2.1, aI kI 30 (fun _ => 0)), (a.2.2.2.1, aI kZ 26 (fun _ => 0)), (a.2.2.2.2, aI kI 26 (zrB (fun _ => 0) (-1)))])) mk_K_init rfl (Nat.le_of_ble_eq_true rfl) ?_
  intro p e s m args below meth c A C hr hlk hnm
  show JJ p l e { frames := 2, cells := 5, slots := 172, locals := 60 } s m args below meth c D A 1 (MQ below (QX D none (fun a : Nat × Nat × Nat × Nat × Nat => [(h, .inr (0, [.ref a.1, .ref a.2.1, .ref a.2.2.1, .ref a.2.2.2.1, .ref a.2.2.2.2, .int (iI (0)), .int (iI (0))])), (a.1, aI kI 60 (fun _ => 0)), (a.2.1, aI kI 30 (fun _ => 0)), (a.2.2.1, aI kI 30 (fun _ => 0)), (a.2.2.2.1, aI kZ 26 (fun _ => 0)), (a.2.2.2.2, aI kI 26 (zrB (fun _ => 0) (-1)))]) A) args s 5 172 A) 0 0 0 [(0, .ref h)] [] ([(h, .inr (0, [.null, .null, .null, .null, .null, .int (iI (0)), .int (iI (0))]))])
  refine j_aload_n (q := 1) C 0 rfl d_K_init_0 rfl ?_
  refine j_oinit (q := 4) C ml_K_3 (Nat.le_of_ble_eq_true rfl) (Nat.le_of_ble_eq_true rfl) d_K_init_1 rfl ?_
  refine j_aload_n (q := 5) C 0 rfl d_K_init_4 rfl ?_
  refine j_bipush (q := 7) C d_K_init_5 rfl rfl ?_
  refine j_newI (q := 9) (N := 60) C 0 rfl rfl (by decide) (Nat.le_of_ble_eq_true rfl) (Nat.le_of_ble_eq_true rfl) d_K_init_7 rfl (fun a7 => ?_)
  refine j_putF (q := 12) (ty := .array .int) C i_K rfl t_K t_K_ok n_K hnm 0 rfl 0 (by decide) rfl rfl fl_K_9 rfl (by decide +kernel) rfl rfl (Nat.le_of_ble_eq_true rfl) ([(h, .inr (0, [.ref a7, .null, .null, .null, .null, .int (iI (0)), .int (iI (0))])), (a7, aI kI 60 (fun _ => 0))]) rfl d_K_init_9 rfl ?_
  refine j_aload_n (q := 13) C 0 rfl d_K_init_12 rfl ?_
  refine j_bipush (q := 15) C d_K_init_13 rfl rfl ?_
  refine j_newI (q := 17) (N := 30) C 0 rfl rfl (by decide) (Nat.le_of_ble_eq_true rfl) (Nat.le_of_ble_eq_true rfl) d_K_init_15 rfl (fun a15 => ?_)
  refine j_putF (q := 20) (ty := .array .int) C i_K rfl t_K t_K_ok n_K hnm 0 rfl 1 (by decide) rfl rfl fl_K_15 rfl (by decide +kernel) rfl rfl (Nat.le_of_ble_eq_true rfl) ([(h, .inr (0, [.ref a7, .ref a15, .null, .null, .null, .int (iI (0)), .int (iI (0))])), (a7, aI kI 60 (fun _ => 0)), (a15, aI kI 30 (fun _ => 0))]) rfl d_K_init_17 rfl ?_
  refine j_aload_n (q := 21) C 0 rfl d_K_init_20 rfl ?_
  refine j_bipush (q := 23) C d_K_init_21 rfl rfl ?_
  refine j_newI (q := 25) (N := 30) C 0 rfl rfl (by decide) (Nat.le_of_ble_eq_true rfl) (Nat.le_of_ble_eq_true rfl) d_K_init_23 rfl (fun a23 => ?_)
  refine j_putF (q := 28) (ty := .array .int) C i_K rfl t_K t_K_ok n_K hnm 0 rfl 2 (by decide) rfl rfl fl_K_18 rfl (by decide +kernel) rfl rfl (Nat.le_of_ble_eq_true rfl) ([(h, .inr (0, [.ref a7, .ref a15, .ref a23, .null, .null, .int (iI (0)), .int (iI (0))])), (a7, aI kI 60 (fun _ => 0)), (a15, aI kI 30 (fun _ => 0)), (a23, aI kI 30 (fun _ => 0))]) rfl d_K_init_25 rfl ?_
  refine j_aload_n (q := 29) C 0 rfl d_K_init_28 rfl ?_
  refine j_bipush (q := 31) C d_K_init_29 rfl rfl ?_
  refine j_newZ (q := 33) (N := 26) C 1 rfl rfl (by decide) (Nat.le_of_ble_eq_true rfl) (Nat.le_of_ble_eq_true rfl) d_K_init_31 rfl (fun a31 => ?_)
  refine j_putF (q := 36) (ty := .array .boolean) C i_K rfl t_K t_K_ok n_K hnm 0 rfl 3 (by decide) rfl rfl fl_K_21 rfl (by decide +kernel) rfl rfl (Nat.le_of_ble_eq_true rfl) ([(h, .inr (0, [.ref a7, .ref a15, .ref a23, .ref a31, .null, .int (iI (0)), .int (iI (0))])), (a7, aI kI 60 (fun _ => 0)), (a15, aI kI 30 (fun _ => 0)), (a23, aI kI 30 (fun _ => 0)), (a31, aI kZ 26 (fun _ => 0))]) rfl d_K_init_33 rfl ?_
  refine j_aload_n (q := 37) C 0 rfl d_K_init_36 rfl ?_
  refine j_bipush (q := 39) C d_K_init_37 rfl rfl ?_
  refine j_newI (q := 41) (N := 26) C 0 rfl rfl (by decide) (Nat.le_of_ble_eq_true rfl) (Nat.le_of_ble_eq_true rfl) d_K_init_39 rfl (fun a39 => ?_)
  refine j_putF (q := 44) (ty := .array .int) C i_K rfl t_K t_K_ok n_K hnm 0 rfl 4 (by decide) rfl rfl fl_K_25 rfl (by decide +kernel) rfl rfl (Nat.le_of_ble_eq_true rfl) ([(h, .inr (0, [.ref a7, .ref a15, .ref a23, .ref a31, .ref a39, .int (iI (0)), .int (iI (0))])), (a7, aI kI 60 (fun _ => 0)), (a15, aI kI 30 (fun _ => 0)), (a23, aI kI 30 (fun _ => 0)), (a31, aI kZ 26 (fun _ => 0)), (a39, aI kI 26 (fun _ => 0))]) rfl d_K_init_41 rfl ?_
  refine j_aload_n (q := 45) C 0 rfl d_K_init_44 rfl ?_
  refine j_iconst (q := 46) C d_K_init_45 rfl ?_
  refine j_put (q := 49) (ty := .int) C i_K rfl t_K t_K_ok n_K 0 rfl 5 (by decide) rfl fl_K_28 rfl (by decide +kernel) rfl rfl (Nat.le_of_ble_eq_true rfl) ([(h, .inr (0, [.ref a7, .ref a15, .ref a23, .ref a31, .ref a39, .int (iI (0)), .int (iI (0))])), (a7, aI kI 60 (fun _ => 0)), (a15, aI kI 30 (fun _ => 0)), (a23, aI kI 30 (fun _ => 0)), (a31, aI kZ 26 (fun _ => 0)), (a39, aI kI 26 (fun _ => 0))]) rfl d_K_init_46 rfl ?_
  refine j_aload_n (q := 50) C 0 rfl d_K_init_49 rfl ?_
  refine j_iconst (q := 51) C d_K_init_50 rfl ?_
  refine j_put (q := 54) (ty := .int) C i_K rfl t_K t_K_ok n_K 0 rfl 6 (by decide) rfl fl_K_32 rfl (by decide +kernel) rfl rfl (Nat.le_of_ble_eq_true rfl) ([(h, .inr (0, [.ref a7, .ref a15, .ref a23, .ref a31, .ref a39, .int (iI (0)), .int (iI (0))])), (a7, aI kI 60 (fun _ => 0)), (a15, aI kI 30 (fun _ => 0)), (a23, aI kI 30 (fun _ => 0)), (a31, aI kZ 26 (fun _ => 0)), (a39, aI kI 26 (fun _ => 0))]) rfl d_K_init_51 rfl ?_
  refine j_aload_n (q := 55) C 0 rfl d_K_init_54 rfl ?_
  refine j_get (q := 58) C i_K rfl 0 rfl 4 (by decide) rfl rfl fl_K_25 d_K_init_55 rfl ?_
  refine j_iconst (q := 59) C d_K_init_58 rfl ?_
  refine j_callS (q := 62) (wr := [(h, .inr (0, [.ref a7, .ref a15, .ref a23, .ref a31, .ref a39, .int (iI (0)), .int (iI (0))])), (a7, aI kI 60 (fun _ => 0)), (a15, aI kI 30 (fun _ => 0)), (a23, aI kI 30 (fun _ => 0)), (a31, aI kZ 26 (fun _ => 0))]) C [.ref a39, .int (iI (-1))] [] (c_A_fill kI kZ (fun _ => a39) (fun _ => 0) (-1)) ml_K_35 mk_A_fill st_A_fill [5] [0, 1, 2, 3, 4] [0, 1, 2, 3, 4, 5] rfl (by decide) rfl (by decide) (by decide) ([(h, .inr (0, [.ref a7, .ref a15, .ref a23, .ref a31, .ref a39, .int (iI (0)), .int (iI (0))])), (a7, aI kI 60 (fun _ => 0)), (a15, aI kI 30 (fun _ => 0)), (a23, aI kI 30 (fun _ => 0)), (a31, aI kZ 26 (fun _ => 0)), (a39, aI kI 26 (zrB (fun _ => 0) (-1)))]) rfl (by decide) rfl rfl rfl (Nat.le_of_ble_eq_true rfl) ⟨Nat.le_of_ble_eq_true rfl, Nat.le_of_ble_eq_true rfl⟩ ⟨Nat.le_of_ble_eq_true rfl, Nat.le_of_ble_eq_true rfl⟩ d_K_init_59 rfl ?_
  exact j_vretX C hr hlk (a7, a15, a23, a31, a39) d_K_init_62 rfl
set_option maxRecDepth 100000 in
set_option maxHeartbeats 4000000 in
theorem c_P_init {l : Launch} {D : va_G} (kI kZ : ClassId) (h  : Nat) : Dx l D (ty2 kI kZ) y_P_init w_P_init { frames := 1, cells := 1, slots := 676, locals := 20 } [.ref h] ([(h, .inr (1, [.null]))]) none (fun a : Nat => [(h, .inr (1, [.ref a])), (a, aI kI 676 (fun _ => 0))]) := by
  refine Met.toJ (own := R_P) (QX D none (fun a : Nat => [(h, .inr (1, [.ref a])), (a, aI kI 676 (fun _ => 0))])) mk_P_init rfl (Nat.le_of_ble_eq_true rfl) ?_
  intro p e s m args below meth c A C hr hlk hnm
  show JJ p l e { frames := 1, cells := 1, slots := 676, locals := 20 } s m args below meth c D A 1 (MQ below (QX D none (fun a : Nat => [(h, .inr (1, [.ref a])), (a, aI kI 676 (fun _ => 0))]) A) args s 1 676 A) 0 0 0 [(0, .ref h)] [] ([(h, .inr (1, [.null]))])
  refine j_aload_n (q := 1) C 0 rfl d_P_init_0 rfl ?_
  refine j_oinit (q := 4) C ml_P_3 (Nat.le_of_ble_eq_true rfl) (Nat.le_of_ble_eq_true rfl) d_P_init_1 rfl ?_
  refine j_aload_n (q := 5) C 0 rfl d_P_init_4 rfl ?_
  refine j_sipush (q := 8) C d_P_init_5 rfl rfl ?_
  refine j_newI (q := 10) (N := 676) C 0 rfl rfl (by decide) (Nat.le_of_ble_eq_true rfl) (Nat.le_of_ble_eq_true rfl) d_P_init_8 rfl (fun a8 => ?_)
  refine j_putF (q := 13) (ty := .array .int) C i_P rfl t_P t_P_ok n_P hnm 0 rfl 0 (by decide) rfl rfl fl_P_9 rfl (by decide +kernel) rfl rfl (Nat.le_of_ble_eq_true rfl) ([(h, .inr (1, [.ref a8])), (a8, aI kI 676 (fun _ => 0))]) rfl d_P_init_10 rfl ?_
  exact j_vretX C hr hlk a8 d_P_init_13 rfl
set_option maxRecDepth 100000 in
set_option maxHeartbeats 4000000 in
theorem c_X_init {l : Launch} {D : va_G} (kI kZ : ClassId) (h  : Nat) : Dx l D (ty2 kI kZ) y_X_init w_X_init { frames := 1, cells := 1, slots := 60, locals := 20 } [.ref h] ([(h, .inr (2, [.null, .int (iI (0))]))]) none (fun a : Nat => [(h, .inr (2, [.ref a, .int (iI (0))])), (a, aI kI 60 (fun _ => 0))]) := by
  refine Met.toJ (own := R_X) (QX D none (fun a : Nat => [(h, .inr (2, [.ref a, .int (iI (0))])), (a, aI kI 60 (fun _ => 0))])) mk_X_init rfl (Nat.le_of_ble_eq_true rfl) ?_
  intro p e s m args below meth c A C hr hlk hnm
  show JJ p l e { frames := 1, cells := 1, slots := 60, locals := 20 } s m args below meth c D A 1 (MQ below (QX D none (fun a : Nat => [(h, .inr (2, [.ref a, .int (iI (0))])), (a, aI kI 60 (fun _ => 0))]) A) args s 1 60 A) 0 0 0 [(0, .ref h)] [] ([(h, .inr (2, [.null, .int (iI (0))]))])
  refine j_aload_n (q := 1) C 0 rfl d_X_init_0 rfl ?_
  refine j_oinit (q := 4) C ml_X_3 (Nat.le_of_ble_eq_true rfl) (Nat.le_of_ble_eq_true rfl) d_X_init_1 rfl ?_
  refine j_aload_n (q := 5) C 0 rfl d_X_init_4 rfl ?_
  refine j_bipush (q := 7) C d_X_init_5 rfl rfl ?_
  refine j_newI (q := 9) (N := 60) C 0 rfl rfl (by decide) (Nat.le_of_ble_eq_true rfl) (Nat.le_of_ble_eq_true rfl) d_X_init_7 rfl (fun a7 => ?_)
  refine j_putF (q := 12) (ty := .array .int) C i_X rfl t_X t_X_ok n_X hnm 0 rfl 0 (by decide) rfl rfl fl_X_9 rfl (by decide +kernel) rfl rfl (Nat.le_of_ble_eq_true rfl) ([(h, .inr (2, [.ref a7, .int (iI (0))])), (a7, aI kI 60 (fun _ => 0))]) rfl d_X_init_9 rfl ?_
  refine j_aload_n (q := 13) C 0 rfl d_X_init_12 rfl ?_
  refine j_iconst (q := 14) C d_X_init_13 rfl ?_
  refine j_put (q := 17) (ty := .int) C i_X rfl t_X t_X_ok n_X 0 rfl 1 (by decide) rfl fl_X_15 rfl (by decide +kernel) rfl rfl (Nat.le_of_ble_eq_true rfl) ([(h, .inr (2, [.ref a7, .int (iI (0))])), (a7, aI kI 60 (fun _ => 0))]) rfl d_X_init_14 rfl ?_
  exact j_vretX C hr hlk a7 d_X_init_17 rfl
set_option maxRecDepth 100000 in
set_option maxHeartbeats 4000000 in
theorem c_R_init {l : Launch} {D : va_G} (kI kZ : ClassId) (h  : Nat) : Dx l D (ty2 kI kZ) y_R_init w_R_init { frames := 1, cells := 2, slots := 5400, locals := 20 } [.ref h] ([(h, .inr (3, [.null, .null, .int (iI (0))]))]) none (fun a : Nat × Nat => [(h, .inr (3, [.ref a.1, .ref a.2, .int (iI (0))])), (a.1, aI kI 5200 (fun _ => 0)), (a.2, aI kI 200 (fun _ => 0))]) := by
  refine Met.toJ (own := R_R) (QX D none (fun a : Nat × Nat => [(h, .inr (3, [.ref a.1, .ref a.2, .int (iI (0))])), (a.1, aI kI 5200 (fun _ => 0)), (a.2, aI kI 200 (fun _ => 0))])) mk_R_init rfl (Nat.le_of_ble_eq_true rfl) ?_
  intro p e s m args below meth c A C hr hlk hnm
  show JJ p l e { frames := 1, cells := 2, slots := 5400, locals := 20 } s m args below meth c D A 1 (MQ below (QX D none (fun a : Nat × Nat => [(h, .inr (3, [.ref a.1, .ref a.2, .int (iI (0))])), (a.1, aI kI 5200 (fun _ => 0)), (a.2, aI kI 200 (fun _ => 0))]) A) args s 2 5400 A) 0 0 0 [(0, .ref h)] [] ([(h, .inr (3, [.null, .null, .int (iI (0))]))])
  refine j_aload_n (q := 1) C 0 rfl d_R_init_0 rfl ?_
  refine j_oinit (q := 4) C ml_R_3 (Nat.le_of_ble_eq_true rfl) (Nat.le_of_ble_eq_true rfl) d_R_init_1 rfl ?_
  refine j_aload_n (q := 5) C 0 rfl d_R_init_4 rfl ?_
  refine j_sipush (q := 8) C d_R_init_5 rfl rfl ?_
  refine j_newI (q := 10) (N := 5200) C 0 rfl rfl (by decide) (Nat.le_of_ble_eq_true rfl) (Nat.le_of_ble_eq_true rfl) d_R_init_8 rfl (fun a8 => ?_)
  refine j_putF (q := 13) (ty := .array .int) C i_R rfl t_R t_R_ok n_R hnm 0 rfl 0 (by decide) rfl rfl fl_R_9 rfl (by decide +kernel) rfl rfl (Nat.le_of_ble_eq_true rfl) ([(h, .inr (3, [.ref a8, .null, .int (iI (0))])), (a8, aI kI 5200 (fun _ => 0))]) rfl d_R_init_10 rfl ?_
  refine j_aload_n (q := 14) C 0 rfl d_R_init_13 rfl ?_
  refine j_sipush (q := 17) C d_R_init_14 rfl rfl ?_
  refine j_newI (q := 19) (N := 200) C 0 rfl rfl (by decide) (Nat.le_of_ble_eq_true rfl) (Nat.le_of_ble_eq_true rfl) d_R_init_17 rfl (fun a17 => ?_)
  refine j_putF (q := 22) (ty := .array .int) C i_R rfl t_R t_R_ok n_R hnm 0 rfl 1 (by decide) rfl rfl fl_R_15 rfl (by decide +kernel) rfl rfl (Nat.le_of_ble_eq_true rfl) ([(h, .inr (3, [.ref a8, .ref a17, .int (iI (0))])), (a8, aI kI 5200 (fun _ => 0)), (a17, aI kI 200 (fun _ => 0))]) rfl d_R_init_19 rfl ?_
  refine j_aload_n (q := 23) C 0 rfl d_R_init_22 rfl ?_
  refine j_iconst (q := 24) C d_R_init_23 rfl ?_
  refine j_put (q := 27) (ty := .int) C i_R rfl t_R t_R_ok n_R 0 rfl 2 (by decide) rfl fl_R_18 rfl (by decide +kernel) rfl rfl (Nat.le_of_ble_eq_true rfl) ([(h, .inr (3, [.ref a8, .ref a17, .int (iI (0))])), (a8, aI kI 5200 (fun _ => 0)), (a17, aI kI 200 (fun _ => 0))]) rfl d_R_init_24 rfl ?_
  exact j_vretX C hr hlk (a8, a17) d_R_init_27 rfl
set_option maxRecDepth 100000 in
set_option maxHeartbeats 4000000 in
theorem c_S_init {l : Launch} {D : va_G} (kI kZ : ClassId) (h w0 k0 r0 : Nat) : Dx l D (ty2 kI kZ) y_S_init w_S_init { frames := 1, cells := 3, slots := 78, locals := 20 } [.ref h, .ref w0, .ref k0, .ref r0] ([(h, .inr (4, [.null, .null, .null, .null, .null, .null, .int (iI (0)), .int (iI (0)), .int (iI (0)), .int (iI (0)), .int (iI (0))]))]) none (fun a : Nat × Nat × Nat => [(h, .inr (4, [.ref w0, .ref k0, .ref r0, .ref a.1, .ref a.2.1, .ref a.2.2, .int (iI (0)), .int (iI (0)), .int (iI (0)), .int (iI (0)), .int (iI (0))])), (a.1, aI kI 26 (fun _ => 0)), (a.2.1, aI kZ 26 (fun _ => 0)), (a.2.2, aI kI 26 (fun _ => 0))]) := by
  refine Met.toJ (own := R_S) (QX D none (fun a : Nat × Nat × Nat => [(h, .inr (4, [.ref w0, .ref k0, .ref r0, .ref a.1, .ref a.2.1, .ref a.2.2, .int (iI (0)), .int (iI (0)), .int (iI (0)), .int (iI (0)), .int (iI (0))])), (a.1, aI kI 26 (fun _ => 0)), (a.2.1, aI kZ 26 (fun _ => 0)), (a.2.2, aI kI 26 (fun _ => 0))])) mk_S_init rfl (Nat.le_of_ble_eq_true rfl) ?_
  intro p e s m args below meth c A C hr hlk hnm
  show JJ p l e { frames := 1, cells := 3, slots := 78, locals := 20 } s m args below meth c D A 4 (MQ below (QX D none (fun a : Nat × Nat × Nat => [(h, .inr (4, [.ref w0, .ref k0, .ref r0, .ref a.1, .ref a.2.1, .ref a.2.2, .int (iI (0)), .int (iI (0)), .int (iI (0)), .int (iI (0)), .int (iI (0))])), (a.1, aI kI 26 (fun _ => 0)), (a.2.1, aI kZ 26 (fun _ => 0)), (a.2.2, aI kI 26 (fun _ => 0))]) A) args s 3 78 A) 0 0 0 [(0, .ref h), (1, .ref w0), (2, .ref k0), (3, .ref r0)] [] ([(h, .inr (4, [.null, .null, .null, .null, .null, .null, .int (iI (0)), .int (iI (0)), .int (iI (0)), .int (iI (0)), .int (iI (0))]))])
  refine j_aload_n (q := 1) C 0 rfl d_S_init_0 rfl ?_
  refine j_oinit (q := 4) C ml_S_3 (Nat.le_of_ble_eq_true rfl) (Nat.le_of_ble_eq_true rfl) d_S_init_1 rfl ?_
  refine j_aload_n (q := 5) C 0 rfl d_S_init_4 rfl ?_
  refine j_bipush (q := 7) C d_S_init_5 rfl rfl ?_
  refine j_newI (q := 9) (N := 26) C 0 rfl rfl (by decide) (Nat.le_of_ble_eq_true rfl) (Nat.le_of_ble_eq_true rfl) d_S_init_7 rfl (fun a7 => ?_)
  refine j_putF (q := 12) (ty := .array .int) C i_S rfl t_S t_S_ok n_S hnm 0 rfl 3 (by decide) rfl rfl fl_S_9 rfl (by decide +kernel) rfl rfl (Nat.le_of_ble_eq_true rfl) ([(h, .inr (4, [.null, .null, .null, .ref a7, .null, .null, .int (iI (0)), .int (iI (0)), .int (iI (0)), .int (iI (0)), .int (iI (0))])), (a7, aI kI 26 (fun _ => 0))]) rfl d_S_init_9 rfl ?_
  refine j_aload_n (q := 13) C 0 rfl d_S_init_12 rfl ?_
  refine j_bipush (q := 15) C d_S_init_13 rfl rfl ?_
  refine j_newZ (q := 17) (N := 26) C 1 rfl rfl (by decide) (Nat.le_of_ble_eq_true rfl) (Nat.le_of_ble_eq_true rfl) d_S_init_15 rfl (fun a15 => ?_)
  refine j_putF (q := 20) (ty := .array .boolean) C i_S rfl t_S t_S_ok n_S hnm 0 rfl 4 (by decide) rfl rfl fl_S_15 rfl (by decide +kernel) rfl rfl (Nat.le_of_ble_eq_true rfl) ([(h, .inr (4, [.null, .null, .null, .ref a7, .ref a15, .null, .int (iI (0)), .int (iI (0)), .int (iI (0)), .int (iI (0)), .int (iI (0))])), (a7, aI kI 26 (fun _ => 0)), (a15, aI kZ 26 (fun _ => 0))]) rfl d_S_init_17 rfl ?_
  refine j_aload_n (q := 21) C 0 rfl d_S_init_20 rfl ?_
  refine j_bipush (q := 23) C d_S_init_21 rfl rfl ?_
  refine j_newI (q := 25) (N := 26) C 0 rfl rfl (by decide) (Nat.le_of_ble_eq_true rfl) (Nat.le_of_ble_eq_true rfl) d_S_init_23 rfl (fun a23 => ?_)
  refine j_putF (q := 28) (ty := .array .int) C i_S rfl t_S t_S_ok n_S hnm 0 rfl 5 (by decide) rfl rfl fl_S_19 rfl (by decide +kernel) rfl rfl (Nat.le_of_ble_eq_true rfl) ([(h, .inr (4, [.null, .null, .null, .ref a7, .ref a15, .ref a23, .int (iI (0)), .int (iI (0)), .int (iI (0)), .int (iI (0)), .int (iI (0))])), (a7, aI kI 26 (fun _ => 0)), (a15, aI kZ 26 (fun _ => 0)), (a23, aI kI 26 (fun _ => 0))]) rfl d_S_init_25 rfl ?_
  refine j_aload_n (q := 29) C 0 rfl d_S_init_28 rfl ?_
  refine j_iconst (q := 30) C d_S_init_29 rfl ?_
  refine j_put (q := 33) (ty := .int) C i_S rfl t_S t_S_ok n_S 0 rfl 6 (by decide) rfl fl_S_22 rfl (by decide +kernel) rfl rfl (Nat.le_of_ble_eq_true rfl) ([(h, .inr (4, [.null, .null, .null, .ref a7, .ref a15, .ref a23, .int (iI (0)), .int (iI (0)), .int (iI (0)), .int (iI (0)), .int (iI (0))])), (a7, aI kI 26 (fun _ => 0)), (a15, aI kZ 26 (fun _ => 0)), (a23, aI kI 26 (fun _ => 0))]) rfl d_S_init_30 rfl ?_
  refine j_aload_n (q := 34) C 0 rfl d_S_init_33 rfl ?_
  refine j_iconst (q := 35) C d_S_init_34 rfl ?_
  refine j_put (q := 38) (ty := .int) C i_S rfl t_S t_S_ok n_S 0 rfl 7 (by decide) rfl fl_S_26 rfl (by decide +kernel) rfl rfl (Nat.le_of_ble_eq_true rfl) ([(h, .inr (4, [.null, .null, .null, .ref a7, .ref a15, .ref a23, .int (iI (0)), .int (iI (0)), .int (iI (0)), .int (iI (0)), .int (iI (0))])), (a7, aI kI 26 (fun _ => 0)), (a15, aI kZ 26 (fun _ => 0)), (a23, aI kI 26 (fun _ => 0))]) rfl d_S_init_35 rfl ?_
  refine j_aload_n (q := 39) C 0 rfl d_S_init_38 rfl ?_
  refine j_iconst (q := 40) C d_S_init_39 rfl ?_
  refine j_put (q := 43) (ty := .int) C i_S rfl t_S t_S_ok n_S 0 rfl 8 (by decide) rfl fl_S_29 rfl (by decide +kernel) rfl rfl (Nat.le_of_ble_eq_true rfl) ([(h, .inr (4, [.null, .null, .null, .ref a7, .ref a15, .ref a23, .int (iI (0)), .int (iI (0)), .int (iI (0)), .int (iI (0)), .int (iI (0))])), (a7, aI kI 26 (fun _ => 0)), (a15, aI kZ 26 (fun _ => 0)), (a23, aI kI 26 (fun _ => 0))]) rfl d_S_init_40 rfl ?_
  refine j_aload_n (q := 44) C 0 rfl d_S_init_43 rfl ?_
  refine j_iconst (q := 45) C d_S_init_44 rfl ?_
  refine j_put (q := 48) (ty := .int) C i_S rfl t_S t_S_ok n_S 0 rfl 9 (by decide) rfl fl_S_32 rfl (by decide +kernel) rfl rfl (Nat.le_of_ble_eq_true rfl) ([(h, .inr (4, [.null, .null, .null, .ref a7, .ref a15, .ref a23, .int (iI (0)), .int (iI (0)), .int (iI (0)), .int (iI (0)), .int (iI (0))])), (a7, aI kI 26 (fun _ => 0)), (a15, aI kZ 26 (fun _ => 0)), (a23, aI kI 26 (fun _ => 0))]) rfl d_S_init_45 rfl ?_
  refine j_aload_n (q := 49) C 0 rfl d_S_init_48 rfl ?_
  refine j_iconst (q := 50) C d_S_init_49 rfl ?_
  refine j_put (q := 53) (ty := .boolean) C i_S rfl t_S t_S_ok n_S 0 rfl 10 (by decide) rfl fl_S_35 rfl (by decide +kernel) rfl rfl (Nat.le_of_ble_eq_true rfl) ([(h, .inr (4, [.null, .null, .null, .ref a7, .ref a15, .ref a23, .int (iI (0)), .int (iI (0)), .int (iI (0)), .int (iI (0)), .int (iI (0))])), (a7, aI kI 26 (fun _ => 0)), (a15, aI kZ 26 (fun _ => 0)), (a23, aI kI 26 (fun _ => 0))]) rfl d_S_init_50 rfl ?_
  refine j_aload_n (q := 54) C 0 rfl d_S_init_53 rfl ?_
  refine j_aload_n (q := 55) C 1 rfl d_S_init_54 rfl ?_
  refine j_putF (q := 58) (ty := .object "CodedLetters$WordList") C i_S rfl t_S t_S_ok n_S hnm 0 rfl 0 (by decide) rfl rfl fl_S_39 rfl (by decide +kernel) rfl rfl (Nat.le_of_ble_eq_true rfl) ([(h, .inr (4, [.ref w0, .null, .null, .ref a7, .ref a15, .ref a23, .int (iI (0)), .int (iI (0)), .int (iI (0)), .int (iI (0)), .int (iI (0))])), (a7, aI kI 26 (fun _ => 0)), (a15, aI kZ 26 (fun _ => 0)), (a23, aI kI 26 (fun _ => 0))]) rfl d_S_init_55 rfl ?_
  refine j_aload_n (q := 59) C 0 rfl d_S_init_58 rfl ?_
  refine j_aload_n (q := 60) C 2 rfl d_S_init_59 rfl ?_
  refine j_putF (q := 63) (ty := .object "CodedLetters$Code") C i_S rfl t_S t_S_ok n_S hnm 0 rfl 1 (by decide) rfl rfl fl_S_43 rfl (by decide +kernel) rfl rfl (Nat.le_of_ble_eq_true rfl) ([(h, .inr (4, [.ref w0, .ref k0, .null, .ref a7, .ref a15, .ref a23, .int (iI (0)), .int (iI (0)), .int (iI (0)), .int (iI (0)), .int (iI (0))])), (a7, aI kI 26 (fun _ => 0)), (a15, aI kZ 26 (fun _ => 0)), (a23, aI kI 26 (fun _ => 0))]) rfl d_S_init_60 rfl ?_
  refine j_aload_n (q := 64) C 0 rfl d_S_init_63 rfl ?_
  refine j_aload_n (q := 65) C 3 rfl d_S_init_64 rfl ?_
  refine j_putF (q := 68) (ty := .object "CodedLetters$Readings") C i_S rfl t_S t_S_ok n_S hnm 0 rfl 2 (by decide) rfl rfl fl_S_47 rfl (by decide +kernel) rfl rfl (Nat.le_of_ble_eq_true rfl) ([(h, .inr (4, [.ref w0, .ref k0, .ref r0, .ref a7, .ref a15, .ref a23, .int (iI (0)), .int (iI (0)), .int (iI (0)), .int (iI (0)), .int (iI (0))])), (a7, aI kI 26 (fun _ => 0)), (a15, aI kZ 26 (fun _ => 0)), (a23, aI kI 26 (fun _ => 0))]) rfl d_S_init_65 rfl ?_
  exact j_vretX C hr hlk (a7, a15, a23) d_S_init_68 rfl
set_option maxRecDepth 100000 in
set_option maxHeartbeats 4000000 in
theorem c_B_init {l : Launch} {D : va_G} (kI kZ : ClassId) (h w0 t0 : Nat) : Dx l D (ty2 kI kZ) y_B_init w_B_init { frames := 1, cells := 1, slots := 61, locals := 20 } [.ref h, .ref w0, .ref t0] ([(h, .inr (5, [.null, .null, .null]))]) none (fun a : Nat => [(h, .inr (5, [.ref w0, .ref t0, .ref a])), (a, aI kI 61 (fun _ => 0))]) := by
  refine Met.toJ (own := R_B) (QX D none (fun a : Nat => [(h, .inr (5, [.ref w0, .ref t0, .ref a])), (a, aI kI 61 (fun _ => 0))])) mk_B_init rfl (Nat.le_of_ble_eq_true rfl) ?_
  intro p e s m args below meth c A C hr hlk hnm
  show JJ p l e { frames := 1, cells := 1, slots := 61, locals := 20 } s m args below meth c D A 3 (MQ below (QX D none (fun a : Nat => [(h, .inr (5, [.ref w0, .ref t0, .ref a])), (a, aI kI 61 (fun _ => 0))]) A) args s 1 61 A) 0 0 0 [(0, .ref h), (1, .ref w0), (2, .ref t0)] [] ([(h, .inr (5, [.null, .null, .null]))])
  refine j_aload_n (q := 1) C 0 rfl d_B_init_0 rfl ?_
  refine j_oinit (q := 4) C ml_B_3 (Nat.le_of_ble_eq_true rfl) (Nat.le_of_ble_eq_true rfl) d_B_init_1 rfl ?_
  refine j_aload_n (q := 5) C 0 rfl d_B_init_4 rfl ?_
  refine j_bipush (q := 7) C d_B_init_5 rfl rfl ?_
  refine j_newI (q := 9) (N := 61) C 0 rfl rfl (by decide) (Nat.le_of_ble_eq_true rfl) (Nat.le_of_ble_eq_true rfl) d_B_init_7 rfl (fun a7 => ?_)
  refine j_putF (q := 12) (ty := .array .int) C i_B rfl t_B t_B_ok n_B hnm 0 rfl 2 (by decide) rfl rfl fl_B_9 rfl (by decide +kernel) rfl rfl (Nat.le_of_ble_eq_true rfl) ([(h, .inr (5, [.null, .null, .ref a7])), (a7, aI kI 61 (fun _ => 0))]) rfl d_B_init_9 rfl ?_
  refine j_aload_n (q := 13) C 0 rfl d_B_init_12 rfl ?_
  refine j_aload_n (q := 14) C 1 rfl d_B_init_13 rfl ?_
  refine j_putF (q := 17) (ty := .object "CodedLetters$WordList") C i_B rfl t_B t_B_ok n_B hnm 0 rfl 0 (by decide) rfl rfl fl_B_15 rfl (by decide +kernel) rfl rfl (Nat.le_of_ble_eq_true rfl) ([(h, .inr (5, [.ref w0, .null, .ref a7])), (a7, aI kI 61 (fun _ => 0))]) rfl d_B_init_14 rfl ?_
  refine j_aload_n (q := 18) C 0 rfl d_B_init_17 rfl ?_
  refine j_aload_n (q := 19) C 2 rfl d_B_init_18 rfl ?_
  refine j_putF (q := 22) (ty := .object "CodedLetters$PlainText") C i_B rfl t_B t_B_ok n_B hnm 0 rfl 1 (by decide) rfl rfl fl_B_19 rfl (by decide +kernel) rfl rfl (Nat.le_of_ble_eq_true rfl) ([(h, .inr (5, [.ref w0, .ref t0, .ref a7])), (a7, aI kI 61 (fun _ => 0))]) rfl d_B_init_19 rfl ?_
  exact j_vretX C hr hlk a7 d_B_init_22 rfl
set_option maxRecDepth 100000 in
set_option maxHeartbeats 4000000 in
theorem c_M_init {l : Launch} {D : va_G} (kI kZ : ClassId) (h  : Nat) : Dx l D (ty2 kI kZ) y_M_init w_M_init { frames := 1, cells := 13, slots := 6838, locals := 20 } [.ref h] ([(h, .inr (8, [.int (iI (0)), .int (iI (0)), .null, .int (iI (0)), .null, .null, .int (iI (0)), .null, .null, .null, .int (iI (0)), .null, .null, .null, .null, .int (iI (0)), .int (iI (0)), .null, .int (iI (0)), .null, .null]))]) none (fun a : Nat × Nat × Nat × Nat × Nat × Nat × Nat × Nat × Nat × Nat × Nat × Nat × Nat => [(h, .inr (8, [.int (iI (0)), .int (iI (0)), .ref a.1, .int (iI (0)), .ref a.2.1, .ref a.2.2.1, .int (iI (0)), .ref a.2.2.2.1, .ref a.2.2.2.2.1, .ref a.2.2.2.2.2.1, .int (iI (0)), .ref a.2.2.2.2.2.2.1, .ref a.2.2.2.2.2.2.2.1, .ref a.2.2.2.2.2.2.2.2.1, .ref a.2.2.2.2.2.2.2.2.2.1, .int (iI (0)), .int (iI (0)), .ref a.2.2.2.2.2.2.2.2.2.2.1, .int (iI (0)), .ref a.2.2.2.2.2.2.2.2.2.2.2.1, .ref a.2.2.2.2.2.2.2.2.2.2.2.2])), (a.1, aI kI 8 (fun _ => 0)), (a.2.1, aI kI 60 (fun _ => 0)), (a.2.2.1, aI kI 480 (fun _ => 0)), (a.2.2.2.1, aI kI 60 (fun _ => 0)), (a.2.2.2.2.1, aI kI 26 (fun _ => 0)), (a.2.2.2.2.2.1, aI kI 676 (fun _ => 0)), (a.2.2.2.2.2.2.1, aI kI 60 (fun _ => 0)), (a.2.2.2.2.2.2.2.1, aI kI 60 (fun _ => 0)), (a.2.2.2.2.2.2.2.2.1, aI kI 61 (fun _ => 0)), (a.2.2.2.2.2.2.2.2.2.1, aI kI 26 (fun _ => 0)), (a.2.2.2.2.2.2.2.2.2.2.1, aI kI 5200 (fun _ => 0)), (a.2.2.2.2.2.2.2.2.2.2.2.1, aI kI 60 (fun _ => 0)), (a.2.2.2.2.2.2.2.2.2.2.2.2, aI kI 61 (fun _ => 0))]) := by
  refine Met.toJ (own := R_M) (QX D none (fun a : Nat × Nat × Nat × Nat × Nat × Nat × Nat × Nat × Nat × Nat × Nat × Nat × Nat => [(h, .inr (8, [.int (iI (0)), .int (iI (0)), .ref a.1, .int (iI (0)), .ref a.2.1, .ref a.2.2.1, .int (iI (0)), .ref a.2.2.2.1, .ref a.2.2.2.2.1, .ref a.2.2.2.2.2.1, .int (iI (0)), .ref a.2.2.2.2.2.2.1, .ref a.2.2.2.2.2.2.2.1, .ref a.2.2.2.2.2.2.2.2.1, .ref a.2.2.2.2.2.2.2.2.2.1, .int (iI (0)), .int (iI (0)), .ref a.2.2.2.2.2.2.2.2.2.2.1, .int (iI (0)), .ref a.2.2.2.2.2.2.2.2.2.2.2.1, .ref a.2.2.2.2.2.2.2.2.2.2.2.2])), (a.1, aI kI 8 (fun _ => 0)), (a.2.1, aI kI 60 (fun _ => 0)), (a.2.2.1, aI kI 480 (fun _ => 0)), (a.2.2.2.1, aI kI 60 (fun _ => 0)), (a.2.2.2.2.1, aI kI 26 (fun _ => 0)), (a.2.2.2.2.2.1, aI kI 676 (fun _ => 0)), (a.2.2.2.2.2.2.1, aI kI 60 (fun _ => 0)), (a.2.2.2.2.2.2.2.1, aI kI 60 (fun _ => 0)), (a.2.2.2.2.2.2.2.2.1, aI kI 61 (fun _ => 0)), (a.2.2.2.2.2.2.2.2.2.1, aI kI 26 (fun _ => 0)), (a.2.2.2.2.2.2.2.2.2.2.1, aI kI 5200 (fun _ => 0)), (a.2.2.2.2.2.2.2.2.2.2.2.1, aI kI 60 (fun _ => 0)), (a.2.2.2.2.2.2.2.2.2.2.2.2, aI kI 61 (fun _ => 0))])) mk_M_init rfl (Nat.le_of_ble_eq_true rfl) ?_
  intro p e s m args below meth c A C hr hlk hnm
  show JJ p l e { frames := 1, cells := 13, slots := 6838, locals := 20 } s m args below meth c D A 1 (MQ below (QX D none (fun a : Nat × Nat × Nat × Nat × Nat × Nat × Nat × Nat × Nat × Nat × Nat × Nat × Nat => [(h, .inr (8, [.int (iI (0)), .int (iI (0)), .ref a.1, .int (iI (0)), .ref a.2.1, .ref a.2.2.1, .int (iI (0)), .ref a.2.2.2.1, .ref a.2.2.2.2.1, .ref a.2.2.2.2.2.1, .int (iI (0)), .ref a.2.2.2.2.2.2.1, .ref a.2.2.2.2.2.2.2.1, .ref a.2.2.2.2.2.2.2.2.1, .ref a.2.2.2.2.2.2.2.2.2.1, .int (iI (0)), .int (iI (0)), .ref a.2.2.2.2.2.2.2.2.2.2.1, .int (iI (0)), .ref a.2.2.2.2.2.2.2.2.2.2.2.1, .ref a.2.2.2.2.2.2.2.2.2.2.2.2])), (a.1, aI kI 8 (fun _ => 0)), (a.2.1, aI kI 60 (fun _ => 0)), (a.2.2.1, aI kI 480 (fun _ => 0)), (a.2.2.2.1, aI kI 60 (fun _ => 0)), (a.2.2.2.2.1, aI kI 26 (fun _ => 0)), (a.2.2.2.2.2.1, aI kI 676 (fun _ => 0)), (a.2.2.2.2.2.2.1, aI kI 60 (fun _ => 0)), (a.2.2.2.2.2.2.2.1, aI kI 60 (fun _ => 0)), (a.2.2.2.2.2.2.2.2.1, aI kI 61 (fun _ => 0)), (a.2.2.2.2.2.2.2.2.2.1, aI kI 26 (fun _ => 0)), (a.2.2.2.2.2.2.2.2.2.2.1, aI kI 5200 (fun _ => 0)), (a.2.2.2.2.2.2.2.2.2.2.2.1, aI kI 60 (fun _ => 0)), (a.2.2.2.2.2.2.2.2.2.2.2.2, aI kI 61 (fun _ => 0))]) A) args s 13 6838 A) 0 0 0 [(0, .ref h)] [] ([(h, .inr (8, [.int (iI (0)), .int (iI (0)), .null, .int (iI (0)), .null, .null, .int (iI (0)), .null, .null, .null, .int (iI (0)), .null, .null, .null, .null, .int (iI (0)), .int (iI (0)), .null, .int (iI (0)), .null, .null]))])
  refine j_aload_n (q := 1) C 0 rfl d_M_init_0 rfl ?_
  refine j_oinit (q := 4) C ml_M_1 (Nat.le_of_ble_eq_true rfl) (Nat.le_of_ble_eq_true rfl) d_M_init_1 rfl ?_
  refine j_aload_n (q := 5) C 0 rfl d_M_init_4 rfl ?_
  refine j_bipush (q := 7) C d_M_init_5 rfl rfl ?_
  refine j_newI (q := 9) (N := 8) C 0 rfl rfl (by decide) (Nat.le_of_ble_eq_true rfl) (Nat.le_of_ble_eq_true rfl) d_M_init_7 rfl (fun a7 => ?_)
  refine j_putF (q := 12) (ty := .array .int) C i_M rfl t_M t_M_ok n_M hnm 0 rfl 2 (by decide) rfl rfl fl_M_7 rfl (by decide +kernel) rfl rfl (Nat.le_of_ble_eq_true rfl) ([(h, .inr (8, [.int (iI (0)), .int (iI (0)), .ref a7, .int (iI (0)), .null, .null, .int (iI (0)), .null, .null, .null, .int (iI (0)), .null, .null, .null, .null, .int (iI (0)), .int (iI (0)), .null, .int (iI (0)), .null, .null])), (a7, aI kI 8 (fun _ => 0))]) rfl d_M_init_9 rfl ?_
  refine j_aload_n (q := 13) C 0 rfl d_M_init_12 rfl ?_
  refine j_bipush (q := 15) C d_M_init_13 rfl rfl ?_
  refine j_newI (q := 17) (N := 60) C 0 rfl rfl (by decide) (Nat.le_of_ble_eq_true rfl) (Nat.le_of_ble_eq_true rfl) d_M_init_15 rfl (fun a15 => ?_)
  refine j_putF (q := 20) (ty := .array .int) C i_M rfl t_M t_M_ok n_M hnm 0 rfl 4 (by decide) rfl rfl fl_M_13 rfl (by decide +kernel) rfl rfl (Nat.le_of_ble_eq_true rfl) ([(h, .inr (8, [.int (iI (0)), .int (iI (0)), .ref a7, .int (iI (0)), .ref a15, .null, .int (iI (0)), .null, .null, .null, .int (iI (0)), .null, .null, .null, .null, .int (iI (0)), .int (iI (0)), .null, .int (iI (0)), .null, .null])), (a7, aI kI 8 (fun _ => 0)), (a15, aI kI 60 (fun _ => 0))]) rfl d_M_init_17 rfl ?_
  refine j_aload_n (q := 21) C 0 rfl d_M_init_20 rfl ?_
  refine j_sipush (q := 24) C d_M_init_21 rfl rfl ?_
  refine j_newI (q := 26) (N := 480) C 0 rfl rfl (by decide) (Nat.le_of_ble_eq_true rfl) (Nat.le_of_ble_eq_true rfl) d_M_init_24 rfl (fun a24 => ?_)
  refine j_putF (q := 29) (ty := .array .int) C i_M rfl t_M t_M_ok n_M hnm 0 rfl 5 (by decide) rfl rfl fl_M_16 rfl (by decide +kernel) rfl rfl (Nat.le_of_ble_eq_true rfl) ([(h, .inr (8, [.int (iI (0)), .int (iI (0)), .ref a7, .int (iI (0)), .ref a15, .ref a24, .int (iI (0)), .null, .null, .null, .int (iI (0)), .null, .null, .null, .null, .int (iI (0)), .int (iI (0)), .null, .int (iI (0)), .null, .null])), (a7, aI kI 8 (fun _ => 0)), (a15, aI kI 60 (fun _ => 0)), (a24, aI kI 480 (fun _ => 0))]) rfl d_M_init_26 rfl ?_
  refine j_aload_n (q := 30) C 0 rfl d_M_init_29 rfl ?_
  refine j_bipush (q := 32) C d_M_init_30 rfl rfl ?_
  refine j_newI (q := 34) (N := 60) C 0 rfl rfl (by decide) (Nat.le_of_ble_eq_true rfl) (Nat.le_of_ble_eq_true rfl) d_M_init_32 rfl (fun a32 => ?_)
  refine j_putF (q := 37) (ty := .array .int) C i_M rfl t_M t_M_ok n_M hnm 0 rfl 7 (by decide) rfl rfl fl_M_19 rfl (by decide +kernel) rfl rfl (Nat.le_of_ble_eq_true rfl) ([(h, .inr (8, [.int (iI (0)), .int (iI (0)), .ref a7, .int (iI (0)), .ref a15, .ref a24, .int (iI (0)), .ref a32, .null, .null, .int (iI (0)), .null, .null, .null, .null, .int (iI (0)), .int (iI (0)), .null, .int (iI (0)), .null, .null])), (a7, aI kI 8 (fun _ => 0)), (a15, aI kI 60 (fun _ => 0)), (a24, aI kI 480 (fun _ => 0)), (a32, aI kI 60 (fun _ => 0))]) rfl d_M_init_34 rfl ?_
  refine j_aload_n (q := 38) C 0 rfl d_M_init_37 rfl ?_
  refine j_bipush (q := 40) C d_M_init_38 rfl rfl ?_
  refine j_newI (q := 42) (N := 26) C 0 rfl rfl (by decide) (Nat.le_of_ble_eq_true rfl) (Nat.le_of_ble_eq_true rfl) d_M_init_40 rfl (fun a40 => ?_)
  refine j_putF (q := 45) (ty := .array .int) C i_M rfl t_M t_M_ok n_M hnm 0 rfl 8 (by decide) rfl rfl fl_M_22 rfl (by decide +kernel) rfl rfl (Nat.le_of_ble_eq_true rfl) ([(h, .inr (8, [.int (iI (0)), .int (iI (0)), .ref a7, .int (iI (0)), .ref a15, .ref a24, .int (iI (0)), .ref a32, .ref a40, .null, .int (iI (0)), .null, .null, .null, .null, .int (iI (0)), .int (iI (0)), .null, .int (iI (0)), .null, .null])), (a7, aI kI 8 (fun _ => 0)), (a15, aI kI 60 (fun _ => 0)), (a24, aI kI 480 (fun _ => 0)), (a32, aI kI 60 (fun _ => 0)), (a40, aI kI 26 (fun _ => 0))]) rfl d_M_init_42 rfl ?_
  refine j_aload_n (q := 46) C 0 rfl d_M_init_45 rfl ?_
  refine j_sipush (q := 49) C d_M_init_46 rfl rfl ?_
  refine j_newI (q := 51) (N := 676) C 0 rfl rfl (by decide) (Nat.le_of_ble_eq_true rfl) (Nat.le_of_ble_eq_true rfl) d_M_init_49 rfl (fun a49 => ?_)
  refine j_putF (q := 54) (ty := .array .int) C i_M rfl t_M t_M_ok n_M hnm 0 rfl 9 (by decide) rfl rfl fl_M_25 rfl (by decide +kernel) rfl rfl (Nat.le_of_ble_eq_true rfl) ([(h, .inr (8, [.int (iI (0)), .int (iI (0)), .ref a7, .int (iI (0)), .ref a15, .ref a24, .int (iI (0)), .ref a32, .ref a40, .ref a49, .int (iI (0)), .null, .null, .null, .null, .int (iI (0)), .int (iI (0)), .null, .int (iI (0)), .null, .null])), (a7, aI kI 8 (fun _ => 0)), (a15, aI kI 60 (fun _ => 0)), (a24, aI kI 480 (fun _ => 0)), (a32, aI kI 60 (fun _ => 0)), (a40, aI kI 26 (fun _ => 0)), (a49, aI kI 676 (fun _ => 0))]) rfl d_M_init_51 rfl ?_
  refine j_aload_n (q := 55) C 0 rfl d_M_init_54 rfl ?_
  refine j_bipush (q := 57) C d_M_init_55 rfl rfl ?_
  refine j_newI (q := 59) (N := 60) C 0 rfl rfl (by decide) (Nat.le_of_ble_eq_true rfl) (Nat.le_of_ble_eq_true rfl) d_M_init_57 rfl (fun a57 => ?_)
  refine j_putF (q := 62) (ty := .array .int) C i_M rfl t_M t_M_ok n_M hnm 0 rfl 11 (by decide) rfl rfl fl_M_28 rfl (by decide +kernel) rfl rfl (Nat.le_of_ble_eq_true rfl) ([(h, .inr (8, [.int (iI (0)), .int (iI (0)), .ref a7, .int (iI (0)), .ref a15, .ref a24, .int (iI (0)), .ref a32, .ref a40, .ref a49, .int (iI (0)), .ref a57, .null, .null, .null, .int (iI (0)), .int (iI (0)), .null, .int (iI (0)), .null, .null])), (a7, aI kI 8 (fun _ => 0)), (a15, aI kI 60 (fun _ => 0)), (a24, aI kI 480 (fun _ => 0)), (a32, aI kI 60 (fun _ => 0)), (a40, aI kI 26 (fun _ => 0)), (a49, aI kI 676 (fun _ => 0)), (a57, aI kI 60 (fun _ => 0))]) rfl d_M_init_59 rfl ?_
  refine j_aload_n (q := 63) C 0 rfl d_M_init_62 rfl ?_
  refine j_bipush (q := 65) C d_M_init_63 rfl rfl ?_
  refine j_newI (q := 67) (N := 60) C 0 rfl rfl (by decide) (Nat.le_of_ble_eq_true rfl) (Nat.le_of_ble_eq_true rfl) d_M_init_65 rfl (fun a65 => ?_)
  refine j_putF (q := 70) (ty := .array .int) C i_M rfl t_M t_M_ok n_M hnm 0 rfl 12 (by decide) rfl rfl fl_M_31 rfl (by decide +kernel) rfl rfl (Nat.le_of_ble_eq_true rfl) ([(h, .inr (8, [.int (iI (0)), .int (iI (0)), .ref a7, .int (iI (0)), .ref a15, .ref a24, .int (iI (0)), .ref a32, .ref a40, .ref a49, .int (iI (0)), .ref a57, .ref a65, .null, .null, .int (iI (0)), .int (iI (0)), .null, .int (iI (0)), .null, .null])), (a7, aI kI 8 (fun _ => 0)), (a15, aI kI 60 (fun _ => 0)), (a24, aI kI 480 (fun _ => 0)), (a32, aI kI 60 (fun _ => 0)), (a40, aI kI 26 (fun _ => 0)), (a49, aI kI 676 (fun _ => 0)), (a57, aI kI 60 (fun _ => 0)), (a65, aI kI 60 (fun _ => 0))]) rfl d_M_init_67 rfl ?_
  refine j_aload_n (q := 71) C 0 rfl d_M_init_70 rfl ?_
  refine j_bipush (q := 73) C d_M_init_71 rfl rfl ?_
  refine j_newI (q := 75) (N := 61) C 0 rfl rfl (by decide) (Nat.le_of_ble_eq_true rfl) (Nat.le_of_ble_eq_true rfl) d_M_init_73 rfl (fun a73 => ?_)
  refine j_putF (q := 78) (ty := .array .int) C i_M rfl t_M t_M_ok n_M hnm 0 rfl 13 (by decide) rfl rfl fl_M_34 rfl (by decide +kernel) rfl rfl (Nat.le_of_ble_eq_true rfl) ([(h, .inr (8, [.int (iI (0)), .int (iI (0)), .ref a7, .int (iI (0)), .ref a15, .ref a24, .int (iI (0)), .ref a32, .ref a40, .ref a49, .int (iI (0)), .ref a57, .ref a65, .ref a73, .null, .int (iI (0)), .int (iI (0)), .null, .int (iI (0)), .null, .null])), (a7, aI kI 8 (fun _ => 0)), (a15, aI kI 60 (fun _ => 0)), (a24, aI kI 480 (fun _ => 0)), (a32, aI kI 60 (fun _ => 0)), (a40, aI kI 26 (fun _ => 0)), (a49, aI kI 676 (fun _ => 0)), (a57, aI kI 60 (fun _ => 0)), (a65, aI kI 60 (fun _ => 0)), (a73, aI kI 61 (fun _ => 0))]) rfl d_M_init_75 rfl ?_
  refine j_aload_n (q := 79) C 0 rfl d_M_init_78 rfl ?_
  refine j_bipush (q := 81) C d_M_init_79 rfl rfl ?_
  refine j_newI (q := 83) (N := 26) C 0 rfl rfl (by decide) (Nat.le_of_ble_eq_true rfl) (Nat.le_of_ble_eq_true rfl) d_M_init_81 rfl (fun a81 => ?_)
  refine j_putF (q := 86) (ty := .array .int) C i_M rfl t_M t_M_ok n_M hnm 0 rfl 14 (by decide) rfl rfl fl_M_37 rfl (by decide +kernel) rfl rfl (Nat.le_of_ble_eq_true rfl) ([(h, .inr (8, [.int (iI (0)), .int (iI (0)), .ref a7, .int (iI (0)), .ref a15, .ref a24, .int (iI (0)), .ref a32, .ref a40, .ref a49, .int (iI (0)), .ref a57, .ref a65, .ref a73, .ref a81, .int (iI (0)), .int (iI (0)), .null, .int (iI (0)), .null, .null])), (a7, aI kI 8 (fun _ => 0)), (a15, aI kI 60 (fun _ => 0)), (a24, aI kI 480 (fun _ => 0)), (a32, aI kI 60 (fun _ => 0)), (a40, aI kI 26 (fun _ => 0)), (a49, aI kI 676 (fun _ => 0)), (a57, aI kI 60 (fun _ => 0)), (a65, aI kI 60 (fun _ => 0)), (a73, aI kI 61 (fun _ => 0)), (a81, aI kI 26 (fun _ => 0))]) rfl d_M_init_83 rfl ?_
  refine j_aload_n (q := 87) C 0 rfl d_M_init_86 rfl ?_
  refine j_sipush (q := 90) C d_M_init_87 rfl rfl ?_
  refine j_newI (q := 92) (N := 5200) C 0 rfl rfl (by decide) (Nat.le_of_ble_eq_true rfl) (Nat.le_of_ble_eq_true rfl) d_M_init_90 rfl (fun a90 => ?_)
  refine j_putF (q := 95) (ty := .array .int) C i_M rfl t_M t_M_ok n_M hnm 0 rfl 17 (by decide) rfl rfl fl_M_40 rfl (by decide +kernel) rfl rfl (Nat.le_of_ble_eq_true rfl) ([(h, .inr (8, [.int (iI (0)), .int (iI (0)), .ref a7, .int (iI (0)), .ref a15, .ref a24, .int (iI (0)), .ref a32, .ref a40, .ref a49, .int (iI (0)), .ref a57, .ref a65, .ref a73, .ref a81, .int (iI (0)), .int (iI (0)), .ref a90, .int (iI (0)), .null, .null])), (a7, aI kI 8 (fun _ => 0)), (a15, aI kI 60 (fun _ => 0)), (a24, aI kI 480 (fun _ => 0)), (a32, aI kI 60 (fun _ => 0)), (a40, aI kI 26 (fun _ => 0)), (a49, aI kI 676 (fun _ => 0)), (a57, aI kI 60 (fun _ => 0)), (a65, aI kI 60 (fun _ => 0)), (a73, aI kI 61 (fun _ => 0)), (a81, aI kI 26 (fun _ => 0)), (a90, aI kI 5200 (fun _ => 0))]) rfl d_M_init_92 rfl ?_
  refine j_aload_n (q := 96) C 0 rfl d_M_init_95 rfl ?_
  refine j_bipush (q := 98) C d_M_init_96 rfl rfl ?_
  refine j_newI (q := 100) (N := 60) C 0 rfl rfl (by decide) (Nat.le_of_ble_eq_true rfl) (Nat.le_of_ble_eq_true rfl) d_M_init_98 rfl (fun a98 => ?_)
  refine j_putF (q := 103) (ty := .array .int) C i_M rfl t_M t_M_ok n_M hnm 0 rfl 19 (by decide) rfl rfl fl_M_43 rfl (by decide +kernel) rfl rfl (Nat.le_of_ble_eq_true rfl) ([(h, .inr (8, [.int (iI (0)), .int (iI (0)), .ref a7, .int (iI (0)), .ref a15, .ref a24, .int (iI (0)), .ref a32, .ref a40, .ref a49, .int (iI (0)), .ref a57, .ref a65, .ref a73, .ref a81, .int (iI (0)), .int (iI (0)), .ref a90, .int (iI (0)), .ref a98, .null])), (a7, aI kI 8 (fun _ => 0)), (a15, aI kI 60 (fun _ => 0)), (a24, aI kI 480 (fun _ => 0)), (a32, aI kI 60 (fun _ => 0)), (a40, aI kI 26 (fun _ => 0)), (a49, aI kI 676 (fun _ => 0)), (a57, aI kI 60 (fun _ => 0)), (a65, aI kI 60 (fun _ => 0)), (a73, aI kI 61 (fun _ => 0)), (a81, aI kI 26 (fun _ => 0)), (a90, aI kI 5200 (fun _ => 0)), (a98, aI kI 60 (fun _ => 0))]) rfl d_M_init_100 rfl ?_
  refine j_aload_n (q := 104) C 0 rfl d_M_init_103 rfl ?_
  refine j_bipush (q := 106) C d_M_init_104 rfl rfl ?_
  refine j_newI (q := 108) (N := 61) C 0 rfl rfl (by decide) (Nat.le_of_ble_eq_true rfl) (Nat.le_of_ble_eq_true rfl) d_M_init_106 rfl (fun a106 => ?_)
  refine j_putF (q := 111) (ty := .array .int) C i_M rfl t_M t_M_ok n_M hnm 0 rfl 20 (by decide) rfl rfl fl_M_46 rfl (by decide +kernel) rfl rfl (Nat.le_of_ble_eq_true rfl) ([(h, .inr (8, [.int (iI (0)), .int (iI (0)), .ref a7, .int (iI (0)), .ref a15, .ref a24, .int (iI (0)), .ref a32, .ref a40, .ref a49, .int (iI (0)), .ref a57, .ref a65, .ref a73, .ref a81, .int (iI (0)), .int (iI (0)), .ref a90, .int (iI (0)), .ref a98, .ref a106])), (a7, aI kI 8 (fun _ => 0)), (a15, aI kI 60 (fun _ => 0)), (a24, aI kI 480 (fun _ => 0)), (a32, aI kI 60 (fun _ => 0)), (a40, aI kI 26 (fun _ => 0)), (a49, aI kI 676 (fun _ => 0)), (a57, aI kI 60 (fun _ => 0)), (a65, aI kI 60 (fun _ => 0)), (a73, aI kI 61 (fun _ => 0)), (a81, aI kI 26 (fun _ => 0)), (a90, aI kI 5200 (fun _ => 0)), (a98, aI kI 60 (fun _ => 0)), (a106, aI kI 61 (fun _ => 0))]) rfl d_M_init_108 rfl ?_
  exact j_vretX C hr hlk (a7, a15, a24, a32, a40, a49, a57, a65, a73, a81, a90, a98, a106) d_M_init_111 rfl
