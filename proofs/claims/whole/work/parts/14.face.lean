set_option maxRecDepth 100000 in
set_option maxHeartbeats 4000000 in
theorem c_C_unit {l : Launch} {D : va_G} (kI kZ : ClassId) (x : Nat → Nat) (WP WL WC : Nat → Int) (wn wk : Int) (hW : IW WP WL WC wn wk) (a : Int) (ha : (-2147483648 ≤ a ∧ a < 2147483648)) : Dt l D (ty2 kI kZ) y_C_unit w_C_unit { frames := 2, cells := 0, slots := 0, locals := 41 } [.ref (x 0), .int (iI (a))] (wC kI kZ x ++ wW kI kZ x WP WL WC wn wk) (some (.int (iI (if (0 ≤ (plOf a) ∧ (plOf a) < 26) ∧ wk < 8 then 1 else 0)))) (wC kI kZ x ++ wW kI kZ x WP WL (if (0 ≤ (plOf a) ∧ (plOf a) < 26) ∧ wk < 8 then uI WC wk.toNat (plOf a) else WC) wn (if (0 ≤ (plOf a) ∧ (plOf a) < 26) ∧ wk < 8 then wk + 1 else wk)) := by
  refine Met.toJ (own := R_C) (QD D (some (.int (iI (if (0 ≤ (plOf a) ∧ (plOf a) < 26) ∧ wk < 8 then 1 else 0)))) (wC kI kZ x ++ wW kI kZ x WP WL (if (0 ≤ (plOf a) ∧ (plOf a) < 26) ∧ wk < 8 then uI WC wk.toNat (plOf a) else WC) wn (if (0 ≤ (plOf a) ∧ (plOf a) < 26) ∧ wk < 8 then wk + 1 else wk))) mk_C_unit rfl (Nat.le_of_ble_eq_true rfl) ?_
  intro p e s m args below meth c A C hr hlk hnm
  show JJ p l e { frames := 2, cells := 0, slots := 0, locals := 41 } s m args below meth c D A 2 (MQ below (QD D (some (.int (iI (if (0 ≤ (plOf a) ∧ (plOf a) < 26) ∧ wk < 8 then 1 else 0)))) (wC kI kZ x ++ wW kI kZ x WP WL (if (0 ≤ (plOf a) ∧ (plOf a) < 26) ∧ wk < 8 then uI WC wk.toNat (plOf a) else WC) wn (if (0 ≤ (plOf a) ∧ (plOf a) < 26) ∧ wk < 8 then wk + 1 else wk)) A) args s 0 0 A) 0 0 0 [(0, .ref (x 0)), (1, .int (iI (a)))] [] (wC kI kZ x ++ wW kI kZ x WP WL WC wn wk)
  obtain ⟨hwn, hwk, hWL, hWP, hWC⟩ := id hW
  refine j_aload_n (q := 1) C 0 rfl d_C_unit_0 rfl ?_
  refine j_get (q := 4) C i_C rfl 0 rfl 0 (by decide) rfl rfl fl_C_12 d_C_unit_1 rfl ?_
  refine j_iload_n (q := 5) C 1 rfl d_C_unit_4 rfl ?_
  have e5 := plOf_r a
  refine j_callS (q := 8) (wr := wC kI kZ x ++ wW kI kZ x WP WL WC wn wk) C [.int (iI (a))] [.ref (x 1)] (c_C_placeOf kI kZ x a (by omega)) ml_C_62 mk_C_placeOf st_C_placeOf [] [0, 1, 2, 3, 4] [0, 1, 2, 3, 4] rfl (by decide) rfl (by decide) (by decide) (wC kI kZ x ++ wW kI kZ x WP WL WC wn wk) rfl (by decide) rfl rfl rfl (Nat.le_of_ble_eq_true rfl) ⟨Nat.le_of_ble_eq_true rfl, Nat.le_of_ble_eq_true rfl⟩ ⟨Nat.le_of_ble_eq_true rfl, Nat.le_of_ble_eq_true rfl⟩ d_C_unit_5 rfl ?_
  have e8 : 0 ≤ (if (0 ≤ (plOf a) ∧ (plOf a) < 26) ∧ wk < 8 then (1 : Int) else 0) ∧ (if (0 ≤ (plOf a) ∧ (plOf a) < 26) ∧ wk < 8 then (1 : Int) else 0) ≤ 1 := by split <;> omega
  refine j_callV (q := 11) (wr := wC kI kZ x) C [.int (iI (plOf a))] [] (c_W_collect kI kZ x WP WL WC wn wk hW (plOf a) (by omega)) ml_C_66 mk_W_collect in_W_collect se_W_collect rfl rfl rfl [1, 2, 3, 4] [0] [0, 1, 2, 3, 4] rfl (by decide) rfl (by decide) (by decide) (wC kI kZ x ++ wW kI kZ x WP WL (if (0 ≤ (plOf a) ∧ (plOf a) < 26) ∧ wk < 8 then uI WC wk.toNat (plOf a) else WC) wn (if (0 ≤ (plOf a) ∧ (plOf a) < 26) ∧ wk < 8 then wk + 1 else wk)) rfl (by decide) rfl rfl rfl (Nat.le_of_ble_eq_true rfl) ⟨Nat.le_of_ble_eq_true rfl, Nat.le_of_ble_eq_true rfl⟩ ⟨Nat.le_of_ble_eq_true rfl, Nat.le_of_ble_eq_true rfl⟩ d_C_unit_8 rfl ?_
  exact j_zret C hr hlk (by omega) d_C_unit_11 rfl rfl
set_option maxRecDepth 100000 in
set_option maxHeartbeats 4000000 in
theorem c_C_word {l : Launch} {D : va_G} (kI kZ : ClassId) (x : Nat → Nat) (WP WL WC : Nat → Int) (wn wk : Int) (hW : IW WP WL WC wn wk) : Dt l D (ty2 kI kZ) y_C_word w_C_word { frames := 5, cells := 0, slots := 0, locals := 123 } [.ref (x 0)] (wC kI kZ x ++ wW kI kZ x WP WL WC wn wk) (some (.int (iI (if wk = 0 then -1 else nrC WP WL WC wn wk)))) (wC kI kZ x ++ wW kI kZ x (if wk = 0 then WP else wpC WP WL WC wn wk) (if wk = 0 then WL else wlC WP WL WC wn wk) WC (if wk = 0 then wn else wnC WP WL WC wn wk) 0) := by
  refine Met.toJ (own := R_C) (QD D (some (.int (iI (if wk = 0 then -1 else nrC WP WL WC wn wk)))) (wC kI kZ x ++ wW kI kZ x (if wk = 0 then WP else wpC WP WL WC wn wk) (if wk = 0 then WL else wlC WP WL WC wn wk) WC (if wk = 0 then wn else wnC WP WL WC wn wk) 0)) mk_C_word rfl (Nat.le_of_ble_eq_true rfl) ?_
  intro p e s m args below meth c A C hr hlk hnm
  show JJ p l e { frames := 5, cells := 0, slots := 0, locals := 123 } s m args below meth c D A 1 (MQ below (QD D (some (.int (iI (if wk = 0 then -1 else nrC WP WL WC wn wk)))) (wC kI kZ x ++ wW kI kZ x (if wk = 0 then WP else wpC WP WL WC wn wk) (if wk = 0 then WL else wlC WP WL WC wn wk) WC (if wk = 0 then wn else wnC WP WL WC wn wk) 0) A) args s 0 0 A) 0 0 0 [(0, .ref (x 0))] [] (wC kI kZ x ++ wW kI kZ x WP WL WC wn wk)
  refine j_aload_n (q := 1) C 0 rfl d_C_word_0 rfl ?_
  refine j_get (q := 4) C i_C rfl 0 rfl 0 (by decide) rfl rfl fl_C_12 d_C_word_1 rfl ?_
  refine j_callV (q := 7) (wr := wC kI kZ x) C [] [] (c_W_takeCollected kI kZ x WP WL WC wn wk hW) ml_C_70 mk_W_takeCollected in_W_takeCollected se_W_takeCollected rfl rfl rfl [1, 2, 3, 4] [0] [0, 1, 2, 3, 4] rfl (by decide) rfl (by decide) (by decide) (wC kI kZ x ++ wW kI kZ x (if wk = 0 then WP else wpC WP WL WC wn wk) (if wk = 0 then WL else wlC WP WL WC wn wk) WC (if wk = 0 then wn else wnC WP WL WC wn wk) 0) rfl (by decide) rfl rfl rfl (Nat.le_of_ble_eq_true rfl) ⟨Nat.le_of_ble_eq_true rfl, Nat.le_of_ble_eq_true rfl⟩ ⟨Nat.le_of_ble_eq_true rfl, Nat.le_of_ble_eq_true rfl⟩ d_C_word_4 rfl ?_
  exact j_iret C hr hlk d_C_word_7 rfl rfl
set_option maxRecDepth 100000 in
set_option maxHeartbeats 4000000 in
theorem c_C_sign {l : Launch} {D : va_G} (kI kZ : ClassId) (x : Nat → Nat) (KS KB KE KZ KV : Nat → Int) (kn kw : Int) (hK : IK KS KB KE KZ KV kn kw) (RP RS : Nat → Int) (rn : Int) (hR : IR RP RS rn) (a : Int) (ha : (-2147483648 ≤ a ∧ a < 2147483648)) : Dt l D (ty2 kI kZ) y_C_sign w_C_sign { frames := 3, cells := 0, slots := 0, locals := 63 } [.ref (x 0), .int (iI (a))] (wC kI kZ x ++ wK kI kZ x KS KB KE KZ KV kn kw ++ wR kI kZ x RP RS rn) (some (.int (iI (if kn < 60 ∧ (a = -1 ∨ (0 ≤ a ∧ a < 26)) then 1 else 0)))) (wC kI kZ x ++ wK kI kZ x (if kn < 60 ∧ (a = -1 ∨ (0 ≤ a ∧ a < 26)) then uI KS kn.toNat a else KS) (if kn < 60 ∧ (0 ≤ a ∧ a < 26) then kbG KS KB kn kw else KB) (if kn < 60 ∧ (0 ≤ a ∧ a < 26) then keG KS KE kn kw else KE) (if kn < 60 ∧ (0 ≤ a ∧ a < 26) then uI KZ a.toNat 1 else KZ) KV (if kn < 60 ∧ (a = -1 ∨ (0 ≤ a ∧ a < 26)) then kn + 1 else kn) (if kn < 60 ∧ (0 ≤ a ∧ a < 26) then kwG KS kn kw else kw) ++ wR kI kZ x RP RS (if kn < 60 ∧ (a = -1 ∨ (0 ≤ a ∧ a < 26)) then 0 else rn)) := by
  refine Met.toJ (own := R_C) (QD D (some (.int (iI (if kn < 60 ∧ (a = -1 ∨ (0 ≤ a ∧ a < 26)) then 1 else 0)))) (wC kI kZ x ++ wK kI kZ x (if kn < 60 ∧ (a = -1 ∨ (0 ≤ a ∧ a < 26)) then uI KS kn.toNat a else KS) (if kn < 60 ∧ (0 ≤ a ∧ a < 26) then kbG KS KB kn kw else KB) (if kn < 60 ∧ (0 ≤ a ∧ a < 26) then keG KS KE kn kw else KE) (if kn < 60 ∧ (0 ≤ a ∧ a < 26) then uI KZ a.toNat 1 else KZ) KV (if kn < 60 ∧ (a = -1 ∨ (0 ≤ a ∧ a < 26)) then kn + 1 else kn) (if kn < 60 ∧ (0 ≤ a ∧ a < 26) then kwG KS kn kw else kw) ++ wR kI kZ x RP RS (if kn < 60 ∧ (a = -1 ∨ (0 ≤ a ∧ a < 26)) then 0 else rn))) mk_C_sign rfl (Nat.le_of_ble_eq_true rfl) ?_
  intro p e s m args below meth c A C hr hlk hnm
  show JJ p l e { frames := 3, cells := 0, slots := 0, locals := 63 } s m args below meth c D A 2 (MQ below (QD D (some (.int (iI (if kn < 60 ∧ (a = -1 ∨ (0 ≤ a ∧ a < 26)) then 1 else 0)))) (wC kI kZ x ++ wK kI kZ x (if kn < 60 ∧ (a = -1 ∨ (0 ≤ a ∧ a < 26)) then uI KS kn.toNat a else KS) (if kn < 60 ∧ (0 ≤ a ∧ a < 26) then kbG KS KB kn kw else KB) (if kn < 60 ∧ (0 ≤ a ∧ a < 26) then keG KS KE kn kw else KE) (if kn < 60 ∧ (0 ≤ a ∧ a < 26) then uI KZ a.toNat 1 else KZ) KV (if kn < 60 ∧ (a = -1 ∨ (0 ≤ a ∧ a < 26)) then kn + 1 else kn) (if kn < 60 ∧ (0 ≤ a ∧ a < 26) then kwG KS kn kw else kw) ++ wR kI kZ x RP RS (if kn < 60 ∧ (a = -1 ∨ (0 ≤ a ∧ a < 26)) then 0 else rn)) A) args s 0 0 A) 0 0 0 [(0, .ref (x 0)), (1, .int (iI (a)))] [] (wC kI kZ x ++ wK kI kZ x KS KB KE KZ KV kn kw ++ wR kI kZ x RP RS rn)
  obtain ⟨hkn, hkw, hKS, hKB, hKE, hKZ, hKV⟩ := id hK
  obtain ⟨hrn, hRP, hRS⟩ := id hR
  refine j_aload_n (q := 1) C 0 rfl d_C_sign_0 rfl ?_
  refine j_get (q := 4) C i_C rfl 0 rfl 1 (by decide) rfl rfl fl_C_19 d_C_sign_1 rfl ?_
  refine j_iload_n (q := 5) C 1 rfl d_C_sign_4 rfl ?_
  have e5 : 0 ≤ (if kn < 60 ∧ (a = -1 ∨ (0 ≤ a ∧ a < 26)) then (1 : Int) else 0) ∧ (if kn < 60 ∧ (a = -1 ∨ (0 ≤ a ∧ a < 26)) then (1 : Int) else 0) ≤ 1 := by split <;> omega
  refine j_callV (q := 8) (wr := wC kI kZ x ++ wR kI kZ x RP RS rn) C [.int (iI (a))] [] (c_K_append kI kZ x KS KB KE KZ KV kn kw hK a (by omega)) ml_C_74 mk_K_append in_K_append se_K_append rfl rfl rfl [1, 2, 3, 4, 5, 6] [0, 7, 8, 9] [0, 4, 5, 6, 7, 8, 9, 1, 2, 3] rfl (by decide) rfl (by decide) (by decide) (wC kI kZ x ++ wK kI kZ x (if kn < 60 ∧ (a = -1 ∨ (0 ≤ a ∧ a < 26)) then uI KS kn.toNat a else KS) (if kn < 60 ∧ (0 ≤ a ∧ a < 26) then kbG KS KB kn kw else KB) (if kn < 60 ∧ (0 ≤ a ∧ a < 26) then keG KS KE kn kw else KE) (if kn < 60 ∧ (0 ≤ a ∧ a < 26) then uI KZ a.toNat 1 else KZ) KV (if kn < 60 ∧ (a = -1 ∨ (0 ≤ a ∧ a < 26)) then kn + 1 else kn) (if kn < 60 ∧ (0 ≤ a ∧ a < 26) then kwG KS kn kw else kw) ++ wR kI kZ x RP RS rn) rfl (by decide) rfl rfl rfl (Nat.le_of_ble_eq_true rfl) ⟨Nat.le_of_ble_eq_true rfl, Nat.le_of_ble_eq_true rfl⟩ ⟨Nat.le_of_ble_eq_true rfl, Nat.le_of_ble_eq_true rfl⟩ d_C_sign_5 rfl ?_
  refine j_if_ne C 13 11 d_C_sign_8 rfl rfl (by omega) (fun c1 => ?_) (fun c1 => ?_)
  · have k8 : (kn < 60 ∧ (a = -1 ∨ (0 ≤ a ∧ a < 26))) := by split at c1 <;> omega
    refine j_aload_n (q := 14) C 0 rfl d_C_sign_13 rfl ?_
    refine j_get (q := 17) C i_C rfl 0 rfl 3 (by decide) rfl rfl fl_C_33 d_C_sign_14 rfl ?_
    refine j_callV (q := 20) (wr := wC kI kZ x ++ wK kI kZ x (if kn < 60 ∧ (a = -1 ∨ (0 ≤ a ∧ a < 26)) then uI KS kn.toNat a else KS) (if kn < 60 ∧ (0 ≤ a ∧ a < 26) then kbG KS KB kn kw else KB) (if kn < 60 ∧ (0 ≤ a ∧ a < 26) then keG KS KE kn kw else KE) (if kn < 60 ∧ (0 ≤ a ∧ a < 26) then uI KZ a.toNat 1 else KZ) KV (if kn < 60 ∧ (a = -1 ∨ (0 ≤ a ∧ a < 26)) then kn + 1 else kn) (if kn < 60 ∧ (0 ≤ a ∧ a < 26) then kwG KS kn kw else kw)) C [] [] (c_R_forget kI kZ x RP RS rn hR) ml_C_77 mk_R_forget in_R_forget se_R_forget rfl rfl rfl [7, 8, 9] [0, 1, 2, 3, 4, 5, 6] [0, 1, 2, 3, 4, 5, 6, 7, 8, 9] rfl (by decide) rfl (by decide) (by decide) (wC kI kZ x ++ wK kI kZ x (if kn < 60 ∧ (a = -1 ∨ (0 ≤ a ∧ a < 26)) then uI KS kn.toNat a else KS) (if kn < 60 ∧ (0 ≤ a ∧ a < 26) then kbG KS KB kn kw else KB) (if kn < 60 ∧ (0 ≤ a ∧ a < 26) then keG KS KE kn kw else KE) (if kn < 60 ∧ (0 ≤ a ∧ a < 26) then uI KZ a.toNat 1 else KZ) KV (if kn < 60 ∧ (a = -1 ∨ (0 ≤ a ∧ a < 26)) then kn + 1 else kn) (if kn < 60 ∧ (0 ≤ a ∧ a < 26) then kwG KS kn kw else kw) ++ wR kI kZ x RP RS 0) rfl (by decide) rfl rfl rfl (Nat.le_of_ble_eq_true rfl) ⟨Nat.le_of_ble_eq_true rfl, Nat.le_of_ble_eq_true rfl⟩ ⟨Nat.le_of_ble_eq_true rfl, Nat.le_of_ble_eq_true rfl⟩ d_C_sign_17 rfl ?_
    refine j_iconst (q := 21) C d_C_sign_20 rfl ?_
    exact j_zret C hr hlk (by omega) d_C_sign_21 (congrArg (fun z => some (Value.int (iI z))) (show (if kn < 60 ∧ (a = -1 ∨ (0 ≤ a ∧ a < 26)) then 1 else 0) = (1) from by split <;> omega)) (by rw [if_pos k8, if_pos k8, if_pos k8])
  · have k8 : ¬ (kn < 60 ∧ (a = -1 ∨ (0 ≤ a ∧ a < 26))) := by split at c1 <;> omega
    refine j_iconst (q := 12) C d_C_sign_11 rfl ?_
    exact j_zret C hr hlk (by omega) d_C_sign_12 (congrArg (fun z => some (Value.int (iI z))) (show (if kn < 60 ∧ (a = -1 ∨ (0 ≤ a ∧ a < 26)) then 1 else 0) = (0) from by split <;> omega)) (by rw [if_neg k8, if_neg k8, if_neg k8])
set_option maxRecDepth 100000 in
set_option maxHeartbeats 4000000 in
theorem c_C_keep {l : Launch} {D : va_G} (kI kZ : ClassId) (x : Nat → Nat) (KS KB KE KZ KV : Nat → Int) (kn kw : Int) (hK : IK KS KB KE KZ KV kn kw) (RP RS : Nat → Int) (rn : Int) (hR : IR RP RS rn) (a : Int) (ha : (-2147483648 ≤ a ∧ a < 2147483648)) (b : Int) (hb : (-2147483648 ≤ b ∧ b < 2147483648)) : Dt l D (ty2 kI kZ) y_C_keep w_C_keep { frames := 2, cells := 0, slots := 0, locals := 42 } [.ref (x 0), .int (iI (a)), .int (iI (b))] (wC kI kZ x ++ wK kI kZ x KS KB KE KZ KV kn kw ++ wR kI kZ x RP RS rn) (some (.int (iI (if (0 ≤ a ∧ a < 26) ∧ (b = 0 ∨ (97 ≤ b ∧ b < 123)) then 1 else 0)))) (wC kI kZ x ++ wK kI kZ x KS KB KE KZ (if (0 ≤ a ∧ a < 26) ∧ (b = 0 ∨ (97 ≤ b ∧ b < 123)) then uI KV a.toNat (plOf b) else KV) kn kw ++ wR kI kZ x RP RS (if (0 ≤ a ∧ a < 26) ∧ (b = 0 ∨ (97 ≤ b ∧ b < 123)) then 0 else rn)) := by
  refine Met.toJ (own := R_C) (QD D (some (.int (iI (if (0 ≤ a ∧ a < 26) ∧ (b = 0 ∨ (97 ≤ b ∧ b < 123)) then 1 else 0)))) (wC kI kZ x ++ wK kI kZ x KS KB KE KZ (if (0 ≤ a ∧ a < 26) ∧ (b = 0 ∨ (97 ≤ b ∧ b < 123)) then uI KV a.toNat (plOf b) else KV) kn kw ++ wR kI kZ x RP RS (if (0 ≤ a ∧ a < 26) ∧ (b = 0 ∨ (97 ≤ b ∧ b < 123)) then 0 else rn))) mk_C_keep rfl (Nat.le_of_ble_eq_true rfl) ?_
  intro p e s m args below meth c A C hr hlk hnm
  show JJ p l e { frames := 2, cells := 0, slots := 0, locals := 42 } s m args below meth c D A 4 (MQ below (QD D (some (.int (iI (if (0 ≤ a ∧ a < 26) ∧ (b = 0 ∨ (97 ≤ b ∧ b < 123)) then 1 else 0)))) (wC kI kZ x ++ wK kI kZ x KS KB KE KZ (if (0 ≤ a ∧ a < 26) ∧ (b = 0 ∨ (97 ≤ b ∧ b < 123)) then uI KV a.toNat (plOf b) else KV) kn kw ++ wR kI kZ x RP RS (if (0 ≤ a ∧ a < 26) ∧ (b = 0 ∨ (97 ≤ b ∧ b < 123)) then 0 else rn)) A) args s 0 0 A) 0 0 0 [(0, .ref (x 0)), (1, .int (iI (a))), (2, .int (iI (b)))] [] (wC kI kZ x ++ wK kI kZ x KS KB KE KZ KV kn kw ++ wR kI kZ x RP RS rn)
  obtain ⟨hkn, hkw, hKS, hKB, hKE, hKZ, hKV⟩ := id hK
  obtain ⟨hrn, hRP, hRS⟩ := id hR
  have p0 : plOf b = -1 ∨ (97 ≤ b ∧ b < 123) := by unfold plOf; split <;> omega
  have p1 : ¬ plOf b = -1 ∨ ¬ (97 ≤ b ∧ b < 123) := by unfold plOf; split <;> omega
  refine j_iload_n (q := 1) C 2 rfl d_C_keep_0 rfl ?_
  have e1 := plOf_r b
  refine j_callS (q := 4) (wr := wC kI kZ x ++ wK kI kZ x KS KB KE KZ KV kn kw ++ wR kI kZ x RP RS rn) C [.int (iI (b))] [] (c_C_placeOf kI kZ x b (by omega)) ml_C_62 mk_C_placeOf st_C_placeOf [] [0, 1, 2, 3, 4, 5, 6, 7, 8, 9] [0, 1, 2, 3, 4, 5, 6, 7, 8, 9] rfl (by decide) rfl (by decide) (by decide) (wC kI kZ x ++ wK kI kZ x KS KB KE KZ KV kn kw ++ wR kI kZ x RP RS rn) rfl (by decide) rfl rfl rfl (Nat.le_of_ble_eq_true rfl) ⟨Nat.le_of_ble_eq_true rfl, Nat.le_of_ble_eq_true rfl⟩ ⟨Nat.le_of_ble_eq_true rfl, Nat.le_of_ble_eq_true rfl⟩ d_C_keep_1 rfl ?_
  refine j_istore_n (q := 5) C [(0, .ref (x 0)), (1, .int (iI (a))), (2, .int (iI (b))), (3, .int (iI (plOf b)))] rfl (by decide) d_C_keep_4 rfl ?_
  refine j_iload_n (q := 6) C 1 rfl d_C_keep_5 rfl ?_
  have e6 := bP_r a
  refine j_callS (q := 9) (wr := wC kI kZ x ++ wK kI kZ x KS KB KE KZ KV kn kw ++ wR kI kZ x RP RS rn) C [.int (iI (a))] [] (c_C_isNumber kI kZ x a (by omega)) ml_C_80 mk_C_isNumber st_C_isNumber [] [0, 1, 2, 3, 4, 5, 6, 7, 8, 9] [0, 1, 2, 3, 4, 5, 6, 7, 8, 9] rfl (by decide) rfl (by decide) (by decide) (wC kI kZ x ++ wK kI kZ x KS KB KE KZ KV kn kw ++ wR kI kZ x RP RS rn) rfl (by decide) rfl rfl rfl (Nat.le_of_ble_eq_true rfl) ⟨Nat.le_of_ble_eq_true rfl, Nat.le_of_ble_eq_true rfl⟩ ⟨Nat.le_of_ble_eq_true rfl, Nat.le_of_ble_eq_true rfl⟩ d_C_keep_6 rfl ?_
  refine j_if_eq C 21 12 d_C_keep_9 rfl rfl (by omega) (fun c1 => ?_) (fun c1 => ?_)
  · have c1 := bP_0 c1
    refine j_iconst (q := 22) C d_C_keep_21 rfl ?_
    exact j_zret C hr hlk (by omega) d_C_keep_22 (congrArg (fun z => some (Value.int (iI z))) (show (if (0 ≤ a ∧ a < 26) ∧ (b = 0 ∨ (97 ≤ b ∧ b < 123)) then 1 else 0) = (0) from by split <;> omega)) (by repeat (first | rfl | (rw [if_pos (by omega)]) | (rw [if_neg (by omega)])))
  · have c1 := bP_1 c1
    refine j_iload_n (q := 13) C 3 rfl d_C_keep_12 rfl ?_
    refine j_iconst (q := 14) C d_C_keep_13 rfl ?_
    refine j_icmp_ne C 23 17 d_C_keep_14 rfl rfl (by omega) (by omega) (fun c2 => ?_) (fun c2 => ?_)
    · refine j_aload_n (q := 24) C 0 rfl d_C_keep_23 rfl ?_
      refine j_get (q := 27) C i_C rfl 0 rfl 1 (by decide) rfl rfl fl_C_19 d_C_keep_24 rfl ?_
      refine j_iload_n (q := 28) C 1 rfl d_C_keep_27 rfl ?_
      refine j_iload_n (q := 29) C 3 rfl d_C_keep_28 rfl ?_
      refine j_callV (q := 32) (wr := wC kI kZ x ++ wR kI kZ x RP RS rn) C [.int (iI (a)), .int (iI (plOf b))] [] (c_K_keepPlace kI kZ x KS KB KE KZ KV kn kw hK a (plOf b) (by omega) (by omega)) ml_C_83 mk_K_keepPlace in_K_keepPlace se_K_keepPlace rfl rfl rfl [1, 2, 3, 4, 5, 6] [0, 7, 8, 9] [0, 4, 5, 6, 7, 8, 9, 1, 2, 3] rfl (by decide) rfl (by decide) (by decide) (wC kI kZ x ++ wK kI kZ x KS KB KE KZ (if 0 ≤ a ∧ a < 26 then uI KV a.toNat (plOf b) else KV) kn kw ++ wR kI kZ x RP RS rn) rfl (by decide) rfl rfl rfl (Nat.le_of_ble_eq_true rfl) ⟨Nat.le_of_ble_eq_true rfl, Nat.le_of_ble_eq_true rfl⟩ ⟨Nat.le_of_ble_eq_true rfl, Nat.le_of_ble_eq_true rfl⟩ d_C_keep_29 rfl ?_
      refine j_aload_n (q := 33) C 0 rfl d_C_keep_32 rfl ?_
      refine j_get (q := 36) C i_C rfl 0 rfl 3 (by decide) rfl rfl fl_C_33 d_C_keep_33 rfl ?_
      refine j_callV (q := 39) (wr := wC kI kZ x ++ wK kI kZ x KS KB KE KZ (if 0 ≤ a ∧ a < 26 then uI KV a.toNat (plOf b) else KV) kn kw) C [] [] (c_R_forget kI kZ x RP RS rn hR) ml_C_77 mk_R_forget in_R_forget se_R_forget rfl rfl rfl [7, 8, 9] [0, 1, 2, 3, 4, 5, 6] [0, 1, 2, 3, 4, 5, 6, 7, 8, 9] rfl (by decide) rfl (by decide) (by decide) (wC kI kZ x ++ wK kI kZ x KS KB KE KZ (if 0 ≤ a ∧ a < 26 then uI KV a.toNat (plOf b) else KV) kn kw ++ wR kI kZ x RP RS 0) rfl (by decide) rfl rfl rfl (Nat.le_of_ble_eq_true rfl) ⟨Nat.le_of_ble_eq_true rfl, Nat.le_of_ble_eq_true rfl⟩ ⟨Nat.le_of_ble_eq_true rfl, Nat.le_of_ble_eq_true rfl⟩ d_C_keep_36 rfl ?_
      refine j_iconst (q := 40) C d_C_keep_39 rfl ?_
      first | (exfalso; omega) | exact j_zret C hr hlk (by omega) d_C_keep_40 (congrArg (fun z => some (Value.int (iI z))) (show (if (0 ≤ a ∧ a < 26) ∧ (b = 0 ∨ (97 ≤ b ∧ b < 123)) then 1 else 0) = (1) from by split <;> omega)) (by repeat (first | rfl | (rw [if_pos (by omega)]) | (rw [if_neg (by omega)])))
    · refine j_iload_n (q := 18) C 2 rfl d_C_keep_17 rfl ?_
      refine j_if_eq C 23 21 d_C_keep_18 rfl rfl (by omega) (fun c3 => ?_) (fun c3 => ?_)
      · refine j_aload_n (q := 24) C 0 rfl d_C_keep_23 rfl ?_
        refine j_get (q := 27) C i_C rfl 0 rfl 1 (by decide) rfl rfl fl_C_19 d_C_keep_24 rfl ?_
        refine j_iload_n (q := 28) C 1 rfl d_C_keep_27 rfl ?_
        refine j_iload_n (q := 29) C 3 rfl d_C_keep_28 rfl ?_
        refine j_callV (q := 32) (wr := wC kI kZ x ++ wR kI kZ x RP RS rn) C [.int (iI (a)), .int (iI (plOf b))] [] (c_K_keepPlace kI kZ x KS KB KE KZ KV kn kw hK a (plOf b) (by omega) (by omega)) ml_C_83 mk_K_keepPlace in_K_keepPlace se_K_keepPlace rfl rfl rfl [1, 2, 3, 4, 5, 6] [0, 7, 8, 9] [0, 4, 5, 6, 7, 8, 9, 1, 2, 3] rfl (by decide) rfl (by decide) (by decide) (wC kI kZ x ++ wK kI kZ x KS KB KE KZ (if 0 ≤ a ∧ a < 26 then uI KV a.toNat (plOf b) else KV) kn kw ++ wR kI kZ x RP RS rn) rfl (by decide) rfl rfl rfl (Nat.le_of_ble_eq_true rfl) ⟨Nat.le_of_ble_eq_true rfl, Nat.le_of_ble_eq_true rfl⟩ ⟨Nat.le_of_ble_eq_true rfl, Nat.le_of_ble_eq_true rfl⟩ d_C_keep_29 rfl ?_
        refine j_aload_n (q := 33) C 0 rfl d_C_keep_32 rfl ?_
        refine j_get (q := 36) C i_C rfl 0 rfl 3 (by decide) rfl rfl fl_C_33 d_C_keep_33 rfl ?_
        refine j_callV (q := 39) (wr := wC kI kZ x ++ wK kI kZ x KS KB KE KZ (if 0 ≤ a ∧ a < 26 then uI KV a.toNat (plOf b) else KV) kn kw) C [] [] (c_R_forget kI kZ x RP RS rn hR) ml_C_77 mk_R_forget in_R_forget se_R_forget rfl rfl rfl [7, 8, 9] [0, 1, 2, 3, 4, 5, 6] [0, 1, 2, 3, 4, 5, 6, 7, 8, 9] rfl (by decide) rfl (by decide) (by decide) (wC kI kZ x ++ wK kI kZ x KS KB KE KZ (if 0 ≤ a ∧ a < 26 then uI KV a.toNat (plOf b) else KV) kn kw ++ wR kI kZ x RP RS 0) rfl (by decide) rfl rfl rfl (Nat.le_of_ble_eq_true rfl) ⟨Nat.le_of_ble_eq_true rfl, Nat.le_of_ble_eq_true rfl⟩ ⟨Nat.le_of_ble_eq_true rfl, Nat.le_of_ble_eq_true rfl⟩ d_C_keep_36 rfl ?_
        refine j_iconst (q := 40) C d_C_keep_39 rfl ?_
        first | (exfalso; omega) | exact j_zret C hr hlk (by omega) d_C_keep_40 (congrArg (fun z => some (Value.int (iI z))) (show (if (0 ≤ a ∧ a < 26) ∧ (b = 0 ∨ (97 ≤ b ∧ b < 123)) then 1 else 0) = (1) from by split <;> omega)) (by repeat (first | rfl | (rw [if_pos (by omega)]) | (rw [if_neg (by omega)])))
      · refine j_iconst (q := 22) C d_C_keep_21 rfl ?_
        first | (exfalso; omega) | exact j_zret C hr hlk (by omega) d_C_keep_22 (congrArg (fun z => some (Value.int (iI z))) (show (if (0 ≤ a ∧ a < 26) ∧ (b = 0 ∨ (97 ≤ b ∧ b < 123)) then 1 else 0) = (0) from by split <;> omega)) (by repeat (first | rfl | (rw [if_pos (by omega)]) | (rw [if_neg (by omega)])))
set_option maxRecDepth 100000 in
set_option maxHeartbeats 4000000 in
theorem c_C_pair {l : Launch} {D : va_G} (kI kZ : ClassId) (x : Nat → Nat) (PW : Nat → Int) (hP : ∀ j, -1000 ≤ PW j ∧ PW j ≤ 1000) (a b v : Int) (ha : (-2147483648 ≤ a ∧ a < 2147483648)) (hb : (-2147483648 ≤ b ∧ b < 2147483648)) (hv : (-2147483648 ≤ v ∧ v < 2147483648)) : Dt l D (ty2 kI kZ) y_C_pair w_C_pair { frames := 2, cells := 0, slots := 0, locals := 43 } [.ref (x 0), .int (iI (a)), .int (iI (b)), .int (iI (v))] (wC kI kZ x ++ wP kI kZ x PW) (some (.int (iI (if ((0 ≤ (plOf a) ∧ (plOf a) < 26) ∧ (0 ≤ (plOf b) ∧ (plOf b) < 26)) ∧ (-1000 ≤ v ∧ v ≤ 1000) then 1 else 0)))) (wC kI kZ x ++ wP kI kZ x (if ((0 ≤ (plOf a) ∧ (plOf a) < 26) ∧ (0 ≤ (plOf b) ∧ (plOf b) < 26)) ∧ (-1000 ≤ v ∧ v ≤ 1000) then uI PW ((plOf a) * 26 + (plOf b)).toNat v else PW)) := by
  refine Met.toJ (own := R_C) (QD D (some (.int (iI (if ((0 ≤ (plOf a) ∧ (plOf a) < 26) ∧ (0 ≤ (plOf b) ∧ (plOf b) < 26)) ∧ (-1000 ≤ v ∧ v ≤ 1000) then 1 else 0)))) (wC kI kZ x ++ wP kI kZ x (if ((0 ≤ (plOf a) ∧ (plOf a) < 26) ∧ (0 ≤ (plOf b) ∧ (plOf b) < 26)) ∧ (-1000 ≤ v ∧ v ≤ 1000) then uI PW ((plOf a) * 26 + (plOf b)).toNat v else PW))) mk_C_pair rfl (Nat.le_of_ble_eq_true rfl) ?_
  intro p e s m args below meth c A C hr hlk hnm
  show JJ p l e { frames := 2, cells := 0, slots := 0, locals := 43 } s m args below meth c D A 4 (MQ below (QD D (some (.int (iI (if ((0 ≤ (plOf a) ∧ (plOf a) < 26) ∧ (0 ≤ (plOf b) ∧ (plOf b) < 26)) ∧ (-1000 ≤ v ∧ v ≤ 1000) then 1 else 0)))) (wC kI kZ x ++ wP kI kZ x (if ((0 ≤ (plOf a) ∧ (plOf a) < 26) ∧ (0 ≤ (plOf b) ∧ (plOf b) < 26)) ∧ (-1000 ≤ v ∧ v ≤ 1000) then uI PW ((plOf a) * 26 + (plOf b)).toNat v else PW)) A) args s 0 0 A) 0 0 0 [(0, .ref (x 0)), (1, .int (iI (a))), (2, .int (iI (b))), (3, .int (iI (v)))] [] (wC kI kZ x ++ wP kI kZ x PW)
  refine j_aload_n (q := 1) C 0 rfl d_C_pair_0 rfl ?_
  refine j_get (q := 4) C i_C rfl 0 rfl 2 (by decide) rfl rfl fl_C_26 d_C_pair_1 rfl ?_
  refine j_iload_n (q := 5) C 1 rfl d_C_pair_4 rfl ?_
  have e5 := plOf_r a
  refine j_callS (q := 8) (wr := wC kI kZ x ++ wP kI kZ x PW) C [.int (iI (a))] [.ref (x 11)] (c_C_placeOf kI kZ x a (by omega)) ml_C_62 mk_C_placeOf st_C_placeOf [] [0, 1, 2] [0, 1, 2] rfl (by decide) rfl (by decide) (by decide) (wC kI kZ x ++ wP kI kZ x PW) rfl (by decide) rfl rfl rfl (Nat.le_of_ble_eq_true rfl) ⟨Nat.le_of_ble_eq_true rfl, Nat.le_of_ble_eq_true rfl⟩ ⟨Nat.le_of_ble_eq_true rfl, Nat.le_of_ble_eq_true rfl⟩ d_C_pair_5 rfl ?_
  refine j_iload_n (q := 9) C 2 rfl d_C_pair_8 rfl ?_
  have e9 := plOf_r b
  refine j_callS (q := 12) (wr := wC kI kZ x ++ wP kI kZ x PW) C [.int (iI (b))] [.int (iI (plOf a)), .ref (x 11)] (c_C_placeOf kI kZ x b (by omega)) ml_C_62 mk_C_placeOf st_C_placeOf [] [0, 1, 2] [0, 1, 2] rfl (by decide) rfl (by decide) (by decide) (wC kI kZ x ++ wP kI kZ x PW) rfl (by decide) rfl rfl rfl (Nat.le_of_ble_eq_true rfl) ⟨Nat.le_of_ble_eq_true rfl, Nat.le_of_ble_eq_true rfl⟩ ⟨Nat.le_of_ble_eq_true rfl, Nat.le_of_ble_eq_true rfl⟩ d_C_pair_9 rfl ?_
  refine j_iload_n (q := 13) C 3 rfl d_C_pair_12 rfl ?_
  have e13 : 0 ≤ (if ((0 ≤ (plOf a) ∧ (plOf a) < 26) ∧ (0 ≤ (plOf b) ∧ (plOf b) < 26)) ∧ (-1000 ≤ v ∧ v ≤ 1000) then (1 : Int) else 0) ∧ (if ((0 ≤ (plOf a) ∧ (plOf a) < 26) ∧ (0 ≤ (plOf b) ∧ (plOf b) < 26)) ∧ (-1000 ≤ v ∧ v ≤ 1000) then (1 : Int) else 0) ≤ 1 := by split <;> omega
  refine j_callV (q := 16) (wr := wC kI kZ x) C [.int (iI (plOf a)), .int (iI (plOf b)), .int (iI (v))] [] (c_P_weigh kI kZ x PW hP (plOf a) (plOf b) v (by omega) (by omega) (by omega)) ml_C_87 mk_P_weigh in_P_weigh se_P_weigh rfl rfl rfl [1, 2] [0] [0, 1, 2] rfl (by decide) rfl (by decide) (by decide) (wC kI kZ x ++ wP kI kZ x (if ((0 ≤ (plOf a) ∧ (plOf a) < 26) ∧ (0 ≤ (plOf b) ∧ (plOf b) < 26)) ∧ (-1000 ≤ v ∧ v ≤ 1000) then uI PW ((plOf a) * 26 + (plOf b)).toNat v else PW)) rfl (by decide) rfl rfl rfl (Nat.le_of_ble_eq_true rfl) ⟨Nat.le_of_ble_eq_true rfl, Nat.le_of_ble_eq_true rfl⟩ ⟨Nat.le_of_ble_eq_true rfl, Nat.le_of_ble_eq_true rfl⟩ d_C_pair_13 rfl ?_
  exact j_zret C hr hlk (by omega) d_C_pair_16 rfl rfl
set_option maxRecDepth 100000 in
set_option maxHeartbeats 4000000 in
theorem c_C_letter {l : Launch} {D : va_G} (kI kZ : ClassId) (x : Nat → Nat) (RP RS : Nat → Int) (rn : Int) (hR : IR RP RS rn) (k a : Int) (hk : (-2147483648 ≤ k ∧ k < 2147483648)) (ha : (-2147483648 ≤ a ∧ a < 2147483648)) : Dt l D (ty2 kI kZ) y_C_letter w_C_letter { frames := 2, cells := 0, slots := 0, locals := 43 } [.ref (x 0), .int (iI (k)), .int (iI (a))] (wC kI kZ x ++ wR kI kZ x RP RS rn) (some (.int (iI (leOf (rdAt RP RS rn k a))))) (wC kI kZ x ++ wR kI kZ x RP RS rn) := by
  refine Met.toJ (own := R_C) (QD D (some (.int (iI (leOf (rdAt RP RS rn k a))))) (wC kI kZ x ++ wR kI kZ x RP RS rn)) mk_C_letter rfl (Nat.le_of_ble_eq_true rfl) ?_
  intro p e s m args below meth c A C hr hlk hnm
  show JJ p l e { frames := 2, cells := 0, slots := 0, locals := 43 } s m args below meth c D A 3 (MQ below (QD D (some (.int (iI (leOf (rdAt RP RS rn k a))))) (wC kI kZ x ++ wR kI kZ x RP RS rn) A) args s 0 0 A) 0 0 0 [(0, .ref (x 0)), (1, .int (iI (k))), (2, .int (iI (a)))] [] (wC kI kZ x ++ wR kI kZ x RP RS rn)
  refine j_aload_n (q := 1) C 0 rfl d_C_letter_0 rfl ?_
  refine j_get (q := 4) C i_C rfl 0 rfl 3 (by decide) rfl rfl fl_C_33 d_C_letter_1 rfl ?_
  refine j_iload_n (q := 5) C 1 rfl d_C_letter_4 rfl ?_
  refine j_iload_n (q := 6) C 2 rfl d_C_letter_5 rfl ?_
  have e6 := rdAt_r hR k a
  refine j_callV (q := 9) (wr := wC kI kZ x) C [.int (iI (k)), .int (iI (a))] [] (c_R_placeIn kI kZ x RP RS rn hR k a (by omega) (by omega)) ml_C_98 mk_R_placeIn in_R_placeIn se_R_placeIn rfl rfl rfl [1, 2, 3] [0] [0, 1, 2, 3] rfl (by decide) rfl (by decide) (by decide) (wC kI kZ x ++ wR kI kZ x RP RS rn) rfl (by decide) rfl rfl rfl (Nat.le_of_ble_eq_true rfl) ⟨Nat.le_of_ble_eq_true rfl, Nat.le_of_ble_eq_true rfl⟩ ⟨Nat.le_of_ble_eq_true rfl, Nat.le_of_ble_eq_true rfl⟩ d_C_letter_6 rfl ?_
  have e9 : -1 ≤ leOf (rdAt RP RS rn k a) ∧ leOf (rdAt RP RS rn k a) < 123 := by unfold leOf; split <;> omega
  refine j_callS (q := 12) (wr := wC kI kZ x ++ wR kI kZ x RP RS rn) C [.int (iI (rdAt RP RS rn k a))] [] (c_C_letterOf kI kZ x (rdAt RP RS rn k a) (by omega)) ml_C_102 mk_C_letterOf st_C_letterOf [] [0, 1, 2, 3] [0, 1, 2, 3] rfl (by decide) rfl (by decide) (by decide) (wC kI kZ x ++ wR kI kZ x RP RS rn) rfl (by decide) rfl rfl rfl (Nat.le_of_ble_eq_true rfl) ⟨Nat.le_of_ble_eq_true rfl, Nat.le_of_ble_eq_true rfl⟩ ⟨Nat.le_of_ble_eq_true rfl, Nat.le_of_ble_eq_true rfl⟩ d_C_letter_9 rfl ?_
  exact j_iret C hr hlk d_C_letter_12 rfl rfl
set_option maxRecDepth 100000 in
set_option maxHeartbeats 4000000 in
theorem c_C_codewords {l : Launch} {D : va_G} (kI kZ : ClassId) (x : Nat → Nat) (KS KB KE KZ KV : Nat → Int) (kn kw : Int) (hK : IK KS KB KE KZ KV kn kw) : Dt l D (ty2 kI kZ) y_C_codewords w_C_codewords { frames := 1, cells := 0, slots := 0, locals := 20 } [.ref (x 0)] (wC kI kZ x ++ wK kI kZ x KS KB KE KZ KV kn kw) (some (.int (iI (kw)))) (wC kI kZ x ++ wK kI kZ x KS KB KE KZ KV kn kw) := by
  refine Met.toJ (own := R_C) (QD D (some (.int (iI (kw)))) (wC kI kZ x ++ wK kI kZ x KS KB KE KZ KV kn kw)) mk_C_codewords rfl (Nat.le_of_ble_eq_true rfl) ?_
  intro p e s m args below meth c A C hr hlk hnm
  show JJ p l e { frames := 1, cells := 0, slots := 0, locals := 20 } s m args below meth c D A 1 (MQ below (QD D (some (.int (iI (kw)))) (wC kI kZ x ++ wK kI kZ x KS KB KE KZ KV kn kw) A) args s 0 0 A) 0 0 0 [(0, .ref (x 0))] [] (wC kI kZ x ++ wK kI kZ x KS KB KE KZ KV kn kw)
  refine j_aload_n (q := 1) C 0 rfl d_C_codewords_0 rfl ?_
  refine j_get (q := 4) C i_C rfl 0 rfl 1 (by decide) rfl rfl fl_C_19 d_C_codewords_1 rfl ?_
  refine j_callV (q := 7) (wr := wC kI kZ x) C [] [] (c_K_codewordCount kI kZ x KS KB KE KZ KV kn kw hK) ml_C_124 mk_K_codewordCount in_K_codewordCount se_K_codewordCount rfl rfl rfl [1, 2, 3, 4, 5, 6] [0] [0, 1, 2, 3, 4, 5, 6] rfl (by decide) rfl (by decide) (by decide) (wC kI kZ x ++ wK kI kZ x KS KB KE KZ KV kn kw) rfl (by decide) rfl rfl rfl (Nat.le_of_ble_eq_true rfl) ⟨Nat.le_of_ble_eq_true rfl, Nat.le_of_ble_eq_true rfl⟩ ⟨Nat.le_of_ble_eq_true rfl, Nat.le_of_ble_eq_true rfl⟩ d_C_codewords_4 rfl ?_
  exact j_iret C hr hlk d_C_codewords_7 rfl rfl
set_option maxRecDepth 100000 in
set_option maxHeartbeats 4000000 in
theorem c_C_plain {l : Launch} {D : va_G} (kI kZ : ClassId) (x : Nat → Nat) (XP : Nat → Int) (xn : Int) (hX : IX XP xn) (a : Int) (ha : (-2147483648 ≤ a ∧ a < 2147483648)) : Dt l D (ty2 kI kZ) y_C_plain w_C_plain { frames := 2, cells := 0, slots := 0, locals := 41 } [.ref (x 0), .int (iI (a))] (wC kI kZ x ++ wX kI kZ x XP xn) (some (.int (iI (if (0 ≤ plOf a ∧ plOf a < 26) ∧ xn < 60 then 1 else 0)))) (wC kI kZ x ++ wX kI kZ x (if (0 ≤ plOf a ∧ plOf a < 26) ∧ xn < 60 then uI XP xn.toNat (plOf a) else XP) (if (0 ≤ plOf a ∧ plOf a < 26) ∧ xn < 60 then xn + 1 else xn)) := by
  refine Met.toJ (own := R_C) (QD D (some (.int (iI (if (0 ≤ plOf a ∧ plOf a < 26) ∧ xn < 60 then 1 else 0)))) (wC kI kZ x ++ wX kI kZ x (if (0 ≤ plOf a ∧ plOf a < 26) ∧ xn < 60 then uI XP xn.toNat (plOf a) else XP) (if (0 ≤ plOf a ∧ plOf a < 26) ∧ xn < 60 then xn + 1 else xn))) mk_C_plain rfl (Nat.le_of_ble_eq_true rfl) ?_
  intro p e s m args below meth c A C hr hlk hnm
  show JJ p l e { frames := 2, cells := 0, slots := 0, locals := 41 } s m args below meth c D A 2 (MQ below (QD D (some (.int (iI (if (0 ≤ plOf a ∧ plOf a < 26) ∧ xn < 60 then 1 else 0)))) (wC kI kZ x ++ wX kI kZ x (if (0 ≤ plOf a ∧ plOf a < 26) ∧ xn < 60 then uI XP xn.toNat (plOf a) else XP) (if (0 ≤ plOf a ∧ plOf a < 26) ∧ xn < 60 then xn + 1 else xn)) A) args s 0 0 A) 0 0 0 [(0, .ref (x 0)), (1, .int (iI (a)))] [] (wC kI kZ x ++ wX kI kZ x XP xn)
  refine j_aload_n (q := 1) C 0 rfl d_C_plain_0 rfl ?_
  refine j_get (q := 4) C i_C rfl 0 rfl 5 (by decide) rfl rfl fl_C_49 d_C_plain_1 rfl ?_
  refine j_iload_n (q := 5) C 1 rfl d_C_plain_4 rfl ?_
  have e5 := plOf_r a
  refine j_callS (q := 8) (wr := wC kI kZ x ++ wX kI kZ x XP xn) C [.int (iI (a))] [.ref (x 20)] (c_C_placeOf kI kZ x a (by omega)) ml_C_62 mk_C_placeOf st_C_placeOf [] [0, 1, 2] [0, 1, 2] rfl (by decide) rfl (by decide) (by decide) (wC kI kZ x ++ wX kI kZ x XP xn) rfl (by decide) rfl rfl rfl (Nat.le_of_ble_eq_true rfl) ⟨Nat.le_of_ble_eq_true rfl, Nat.le_of_ble_eq_true rfl⟩ ⟨Nat.le_of_ble_eq_true rfl, Nat.le_of_ble_eq_true rfl⟩ d_C_plain_5 rfl ?_
  have e8 : 0 ≤ (if (0 ≤ (plOf a) ∧ (plOf a) < 26) ∧ xn < 60 then (1 : Int) else 0) ∧ (if (0 ≤ (plOf a) ∧ (plOf a) < 26) ∧ xn < 60 then (1 : Int) else 0) ≤ 1 := by split <;> omega
  refine j_callV (q := 11) (wr := wC kI kZ x) C [.int (iI (plOf a))] [] (c_X_append kI kZ x XP xn hX (plOf a) (by omega)) ml_C_127 mk_X_append in_X_append se_X_append rfl rfl rfl [1, 2] [0] [0, 1, 2] rfl (by decide) rfl (by decide) (by decide) (wC kI kZ x ++ wX kI kZ x (if (0 ≤ (plOf a) ∧ (plOf a) < 26) ∧ xn < 60 then uI XP xn.toNat (plOf a) else XP) (if (0 ≤ (plOf a) ∧ (plOf a) < 26) ∧ xn < 60 then xn + 1 else xn)) rfl (by decide) rfl rfl rfl (Nat.le_of_ble_eq_true rfl) ⟨Nat.le_of_ble_eq_true rfl, Nat.le_of_ble_eq_true rfl⟩ ⟨Nat.le_of_ble_eq_true rfl, Nat.le_of_ble_eq_true rfl⟩ d_C_plain_8 rfl ?_
  exact j_zret C hr hlk (by omega) d_C_plain_11 rfl rfl
set_option maxRecDepth 100000 in
set_option maxHeartbeats 4000000 in
theorem c_C_keyed {l : Launch} {D : va_G} (kI kZ : ClassId) (x : Nat → Nat) (WP WL WC : Nat → Int) (wn wk : Int) (hW : IW WP WL WC wn wk) (XP : Nat → Int) (xn : Int) (hX : IX XP xn) (hPl : ∀ a j, 0 ≤ j → j < lnOf WL wn a → 0 ≤ plAt WP WL wn a j) (a i : Int) (ha : (-2147483648 ≤ a ∧ a < 2147483648)) (hi : (-2147483648 ≤ i ∧ i < 2147483648)) : Dt l D (ty2 kI kZ) y_C_keyed w_C_keyed { frames := 3, cells := 0, slots := 0, locals := 61 } [.ref (x 0), .int (iI (a)), .int (iI (i))] (wC kI kZ x ++ wW kI kZ x WP WL WC wn wk ++ wX kI kZ x XP xn) (some (.int (iI (if lnOf WL wn a ≤ 0 ∨ i < 0 then -1 else shL (sgAt XP xn i) (plAt WP WL wn a (i % lnOf WL wn a)))))) (wC kI kZ x ++ wW kI kZ x WP WL WC wn wk ++ wX kI kZ x XP xn) := by
  refine Met.toJ (own := R_C) (QD D (some (.int (iI (if lnOf WL wn a ≤ 0 ∨ i < 0 then -1 else shL (sgAt XP xn i) (plAt WP WL wn a (i % lnOf WL wn a)))))) (wC kI kZ x ++ wW kI kZ x WP WL WC wn wk ++ wX kI kZ x XP xn)) mk_C_keyed rfl (Nat.le_of_ble_eq_true rfl) ?_
  intro p e s m args below meth c A C hr hlk hnm
  show JJ p l e { frames := 3, cells := 0, slots := 0, locals := 61 } s m args below meth c D A 4 (MQ below (QD D (some (.int (iI (if lnOf WL wn a ≤ 0 ∨ i < 0 then -1 else shL (sgAt XP xn i) (plAt WP WL wn a (i % lnOf WL wn a)))))) (wC kI kZ x ++ wW kI kZ x WP WL WC wn wk ++ wX kI kZ x XP xn) A) args s 0 0 A) 0 0 0 [(0, .ref (x 0)), (1, .int (iI (a))), (2, .int (iI (i)))] [] (wC kI kZ x ++ wW kI kZ x WP WL WC wn wk ++ wX kI kZ x XP xn)
  obtain ⟨hwn, hwk, hWL, hWP, hWC⟩ := id hW
  obtain ⟨hxn, hXP⟩ := id hX
  have hP0 : ∀ j, 0 ≤ j → j < lnOf WL wn a → 0 ≤ plAt WP WL wn a j := hPl a
  refine j_aload_n (q := 1) C 0 rfl d_C_keyed_0 rfl ?_
  refine j_get (q := 4) C i_C rfl 0 rfl 0 (by decide) rfl rfl fl_C_12 d_C_keyed_1 rfl ?_
  refine j_iload_n (q := 5) C 1 rfl d_C_keyed_4 rfl ?_
  have e5 := lnOf_r hW a
  refine j_callV (q := 8) (wr := wC kI kZ x ++ wX kI kZ x XP xn) C [.int (iI (a))] [] (c_W_lengthOf kI kZ x WP WL WC wn wk hW a (by omega)) ml_C_142 mk_W_lengthOf in_W_lengthOf se_W_lengthOf rfl rfl rfl [1, 2, 3, 4] [0, 5, 6] [0, 3, 4, 5, 6, 1, 2] rfl (by decide) rfl (by decide) (by decide) (wC kI kZ x ++ wW kI kZ x WP WL WC wn wk ++ wX kI kZ x XP xn) rfl (by decide) rfl rfl rfl (Nat.le_of_ble_eq_true rfl) ⟨Nat.le_of_ble_eq_true rfl, Nat.le_of_ble_eq_true rfl⟩ ⟨Nat.le_of_ble_eq_true rfl, Nat.le_of_ble_eq_true rfl⟩ d_C_keyed_5 rfl ?_
  refine j_istore_n (q := 9) C [(0, .ref (x 0)), (1, .int (iI (a))), (2, .int (iI (i))), (3, .int (iI (lnOf WL wn a)))] rfl (by decide) d_C_keyed_8 rfl ?_
  refine j_iload_n (q := 10) C 3 rfl d_C_keyed_9 rfl ?_
  refine j_if_le C 17 13 d_C_keyed_10 rfl rfl (by omega) (fun c1 => ?_) (fun c1 => ?_)
  · refine j_iconst (q := 18) C d_C_keyed_17 rfl ?_
    exact j_iret C hr hlk d_C_keyed_18 (congrArg (fun z => some (Value.int (iI z))) (show (if lnOf WL wn a ≤ 0 ∨ i < 0 then -1 else shL (sgAt XP xn i) (plAt WP WL wn a (i % lnOf WL wn a))) = (-1) from by split <;> first | rfl | omega)) rfl
  · refine j_iload_n (q := 14) C 2 rfl d_C_keyed_13 rfl ?_
    refine j_if_ge C 19 17 d_C_keyed_14 rfl rfl (by omega) (fun c2 => ?_) (fun c2 => ?_)
    · refine j_aload_n (q := 20) C 0 rfl d_C_keyed_19 rfl ?_
      refine j_get (q := 23) C i_C rfl 0 rfl 5 (by decide) rfl rfl fl_C_49 d_C_keyed_20 rfl ?_
      refine j_iload_n (q := 24) C 2 rfl d_C_keyed_23 rfl ?_
      have e24 := sgAt_r hX.b xn i
      refine j_callV (q := 27) (wr := wC kI kZ x ++ wW kI kZ x WP WL WC wn wk) C [.int (iI (i))] [] (c_X_placeAt kI kZ x XP xn hX i (by omega)) ml_C_128 mk_X_placeAt in_X_placeAt se_X_placeAt rfl rfl rfl [5, 6] [0, 1, 2, 3, 4] [0, 1, 2, 3, 4, 5, 6] rfl (by decide) rfl (by decide) (by decide) (wC kI kZ x ++ wW kI kZ x WP WL WC wn wk ++ wX kI kZ x XP xn) rfl (by decide) rfl rfl rfl (Nat.le_of_ble_eq_true rfl) ⟨Nat.le_of_ble_eq_true rfl, Nat.le_of_ble_eq_true rfl⟩ ⟨Nat.le_of_ble_eq_true rfl, Nat.le_of_ble_eq_true rfl⟩ d_C_keyed_24 rfl ?_
      refine j_aload_n (q := 28) C 0 rfl d_C_keyed_27 rfl ?_
      refine j_get (q := 31) C i_C rfl 0 rfl 0 (by decide) rfl rfl fl_C_12 d_C_keyed_28 rfl ?_
      refine j_iload_n (q := 32) C 1 rfl d_C_keyed_31 rfl ?_
      refine j_iload_n (q := 33) C 2 rfl d_C_keyed_32 rfl ?_
      refine j_iload_n (q := 34) C 3 rfl d_C_keyed_33 rfl ?_
      refine j_irem (q := 35) C (by omega) (by omega) d_C_keyed_34 rfl ?_
      have q1 := Int.emod_nonneg i (show lnOf WL wn a ≠ 0 from by omega)
      have q2 := Int.emod_lt_of_pos i (show 0 < lnOf WL wn a from by omega)
      have e35 := plAt_r hW a (i % (lnOf WL wn a))
      refine j_callV (q := 38) (wr := wC kI kZ x ++ wX kI kZ x XP xn) C [.int (iI (a)), .int (iI (i % (lnOf WL wn a)))] [.int (iI (sgAt XP xn i))] (c_W_placeAt kI kZ x WP WL WC wn wk hW a (i % (lnOf WL wn a)) (by omega) (by omega)) ml_C_145 mk_W_placeAt in_W_placeAt se_W_placeAt rfl rfl rfl [1, 2, 3, 4] [0, 5, 6] [0, 3, 4, 5, 6, 1, 2] rfl (by decide) rfl (by decide) (by decide) (wC kI kZ x ++ wW kI kZ x WP WL WC wn wk ++ wX kI kZ x XP xn) rfl (by decide) rfl rfl rfl (Nat.le_of_ble_eq_true rfl) ⟨Nat.le_of_ble_eq_true rfl, Nat.le_of_ble_eq_true rfl⟩ ⟨Nat.le_of_ble_eq_true rfl, Nat.le_of_ble_eq_true rfl⟩ d_C_keyed_35 rfl ?_
      have q3 := hP0 _ q1 q2
      refine j_callS (q := 41) (wr := wC kI kZ x ++ wW kI kZ x WP WL WC wn wk ++ wX kI kZ x XP xn) C [.int (iI (sgAt XP xn i)), .int (iI (plAt WP WL wn a (i % (lnOf WL wn a))))] [] (c_C_shiftedLetter kI kZ x (sgAt XP xn i) (plAt WP WL wn a (i % (lnOf WL wn a))) (by omega) (by omega)) ml_C_136 mk_C_shiftedLetter st_C_shiftedLetter [] [0, 1, 2, 3, 4, 5, 6] [0, 1, 2, 3, 4, 5, 6] rfl (by decide) rfl (by decide) (by decide) (wC kI kZ x ++ wW kI kZ x WP WL WC wn wk ++ wX kI kZ x XP xn) rfl (by decide) rfl rfl rfl (Nat.le_of_ble_eq_true rfl) ⟨Nat.le_of_ble_eq_true rfl, Nat.le_of_ble_eq_true rfl⟩ ⟨Nat.le_of_ble_eq_true rfl, Nat.le_of_ble_eq_true rfl⟩ d_C_keyed_38 rfl ?_
      first | (exfalso; omega) | exact j_iret C hr hlk d_C_keyed_41 (congrArg (fun z => some (Value.int (iI z))) (show (if lnOf WL wn a ≤ 0 ∨ i < 0 then -1 else shL (sgAt XP xn i) (plAt WP WL wn a (i % lnOf WL wn a))) = (shL (sgAt XP xn i) (plAt WP WL wn a (i % (lnOf WL wn a)))) from by split <;> first | rfl | omega)) rfl
    · refine j_iconst (q := 18) C d_C_keyed_17 rfl ?_
      first | (exfalso; omega) | exact j_iret C hr hlk d_C_keyed_18 (congrArg (fun z => some (Value.int (iI z))) (show (if lnOf WL wn a ≤ 0 ∨ i < 0 then -1 else shL (sgAt XP xn i) (plAt WP WL wn a (i % lnOf WL wn a))) = (-1) from by split <;> first | rfl | omega)) rfl
set_option maxRecDepth 100000 in
set_option maxHeartbeats 4000000 in
theorem c_C_breaks {l : Launch} {D : va_G} (kI kZ : ClassId) (x : Nat → Nat) (BF : Nat → Int) (hB : IB BF) (WP WL WC : Nat → Int) (wn wk : Int) (hW : IW WP WL WC wn wk) (XP : Nat → Int) (xn : Int) (hX : IX XP xn) (hL1 : ∀ a, 0 ≤ a → a < wn → 1 ≤ lnOf WL wn a) : Dt l D (ty2 kI kZ) y_C_breaks w_C_breaks { frames := 5, cells := 0, slots := 0, locals := 113 } [.ref (x 0)] (wC kI kZ x ++ wB kI kZ x BF ++ wW kI kZ x WP WL WC wn wk ++ wX kI kZ x XP xn) (some (.int (iI (fwZ BF WP WL wn XP xn (0 : Int).toNat)))) (wC kI kZ x ++ wB kI kZ x (fwZ BF WP WL wn XP xn) ++ wW kI kZ x WP WL WC wn wk ++ wX kI kZ x XP xn) := by
  refine Met.toJ (own := R_C) (QD D (some (.int (iI (fwZ BF WP WL wn XP xn (0 : Int).toNat)))) (wC kI kZ x ++ wB kI kZ x (fwZ BF WP WL wn XP xn) ++ wW kI kZ x WP WL WC wn wk ++ wX kI kZ x XP xn)) mk_C_breaks rfl (Nat.le_of_ble_eq_true rfl) ?_
  intro p e s m args below meth c A C hr hlk hnm
  show JJ p l e { frames := 5, cells := 0, slots := 0, locals := 113 } s m args below meth c D A 1 (MQ below (QD D (some (.int (iI (fwZ BF WP WL wn XP xn (0 : Int).toNat)))) (wC kI kZ x ++ wB kI kZ x (fwZ BF WP WL wn XP xn) ++ wW kI kZ x WP WL WC wn wk ++ wX kI kZ x XP xn) A) args s 0 0 A) 0 0 0 [(0, .ref (x 0))] [] (wC kI kZ x ++ wB kI kZ x BF ++ wW kI kZ x WP WL WC wn wk ++ wX kI kZ x XP xn)
  obtain ⟨hwn, hwk, hWL, hWP, hWC⟩ := id hW
  obtain ⟨hxn, hXP⟩ := id hX
  refine j_aload_n (q := 1) C 0 rfl d_C_breaks_0 rfl ?_
  refine j_get (q := 4) C i_C rfl 0 rfl 6 (by decide) rfl rfl fl_C_58 d_C_breaks_1 rfl ?_
  have b4 := fwZ_r (XP := XP) (WP := WP) hB hwn.1 hxn hL1
  have e4 := b4 (0 : Int).toNat
  refine j_callV (q := 7) (wr := wC kI kZ x) C [] [] (c_B_fewestWords kI kZ x BF hB WP WL WC wn wk hW XP xn hX hL1) ml_C_147 mk_B_fewestWords in_B_fewestWords se_B_fewestWords rfl rfl rfl [1, 2, 3, 4, 5, 6, 7, 8] [0] [0, 1, 2, 3, 4, 5, 6, 7, 8] rfl (by decide) rfl (by decide) (by decide) (wC kI kZ x ++ wB kI kZ x (fwZ BF WP WL wn XP xn) ++ wW kI kZ x WP WL WC wn wk ++ wX kI kZ x XP xn) rfl (by decide) rfl rfl rfl (Nat.le_of_ble_eq_true rfl) ⟨Nat.le_of_ble_eq_true rfl, Nat.le_of_ble_eq_true rfl⟩ ⟨Nat.le_of_ble_eq_true rfl, Nat.le_of_ble_eq_true rfl⟩ d_C_breaks_4 rfl ?_
  exact j_iret C hr hlk d_C_breaks_7 rfl rfl
set_option maxRecDepth 100000 in
set_option maxHeartbeats 4000000 in
theorem c_C_breakAt {l : Launch} {D : va_G} (kI kZ : ClassId) (x : Nat → Nat) (BF : Nat → Int) (hB : IB BF) (WP WL WC : Nat → Int) (wn wk : Int) (hW : IW WP WL WC wn wk) (XP : Nat → Int) (xn : Int) (hX : IX XP xn) (hL1 : ∀ a, 0 ≤ a → a < wn → 1 ≤ lnOf WL wn a) (k : Int) (hk : (-2147483648 ≤ k ∧ k < 2147483648)) : Dt l D (ty2 kI kZ) y_C_breakAt w_C_breakAt { frames := 6, cells := 0, slots := 0, locals := 136 } [.ref (x 0), .int (iI (k))] (wC kI kZ x ++ wB kI kZ x BF ++ wW kI kZ x WP WL WC wn wk ++ wX kI kZ x XP xn) (some (.int (iI (wdB BF WP WL wn XP xn k)))) (wC kI kZ x ++ wB kI kZ x (if k < 0 then BF else fwZ BF WP WL wn XP xn) ++ wW kI kZ x WP WL WC wn wk ++ wX kI kZ x XP xn) := by
  refine Met.toJ (own := R_C) (QD D (some (.int (iI (wdB BF WP WL wn XP xn k)))) (wC kI kZ x ++ wB kI kZ x (if k < 0 then BF else fwZ BF WP WL wn XP xn) ++ wW kI kZ x WP WL WC wn wk ++ wX kI kZ x XP xn)) mk_C_breakAt rfl (Nat.le_of_ble_eq_true rfl) ?_
  intro p e s m args below meth c A C hr hlk hnm
  show JJ p l e { frames := 6, cells := 0, slots := 0, locals := 136 } s m args below meth c D A 2 (MQ below (QD D (some (.int (iI (wdB BF WP WL wn XP xn k)))) (wC kI kZ x ++ wB kI kZ x (if k < 0 then BF else fwZ BF WP WL wn XP xn) ++ wW kI kZ x WP WL WC wn wk ++ wX kI kZ x XP xn) A) args s 0 0 A) 0 0 0 [(0, .ref (x 0)), (1, .int (iI (k)))] [] (wC kI kZ x ++ wB kI kZ x BF ++ wW kI kZ x WP WL WC wn wk ++ wX kI kZ x XP xn)
  obtain ⟨hwn, hwk, hWL, hWP, hWC⟩ := id hW
  obtain ⟨hxn, hXP⟩ := id hX
  refine j_aload_n (q := 1) C 0 rfl d_C_breakAt_0 rfl ?_
  refine j_get (q := 4) C i_C rfl 0 rfl 6 (by decide) rfl rfl fl_C_58 d_C_breakAt_1 rfl ?_
  refine j_iload_n (q := 5) C 1 rfl d_C_breakAt_4 rfl ?_
  refine j_callV (q := 8) (wr := wC kI kZ x) C [.int (iI (k))] [] (c_B_wordOf kI kZ x BF hB WP WL WC wn wk hW XP xn hX hL1 k (by omega)) ml_C_150 mk_B_wordOf in_B_wordOf se_B_wordOf rfl rfl rfl [1, 2, 3, 4, 5, 6, 7, 8] [0] [0, 1, 2, 3, 4, 5, 6, 7, 8] rfl (by decide) rfl (by decide) (by decide) (wC kI kZ x ++ wB kI kZ x (if k < 0 then BF else fwZ BF WP WL wn XP xn) ++ wW kI kZ x WP WL WC wn wk ++ wX kI kZ x XP xn) rfl (by decide) rfl rfl rfl (Nat.le_of_ble_eq_true rfl) ⟨Nat.le_of_ble_eq_true rfl, Nat.le_of_ble_eq_true rfl⟩ ⟨Nat.le_of_ble_eq_true rfl, Nat.le_of_ble_eq_true rfl⟩ d_C_breakAt_5 rfl ?_
  exact j_iret C hr hlk d_C_breakAt_8 rfl rfl
set_option maxRecDepth 100000 in
set_option maxHeartbeats 4000000 in
theorem c_C_clear {l : Launch} {D : va_G} (kI kZ : ClassId) (x : Nat → Nat) (KS KB KE KZ KV : Nat → Int) (kn kw : Int) (hK : IK KS KB KE KZ KV kn kw) (RP RS : Nat → Int) (rn : Int) (hR : IR RP RS rn) (XP : Nat → Int) (xn : Int) (hX : IX XP xn) : Dt l D (ty2 kI kZ) y_C_clear w_C_clear { frames := 1, cells := 0, slots := 0, locals := 21 } [.ref (x 0)] (wC kI kZ x ++ wK kI kZ x KS KB KE KZ KV kn kw ++ wR kI kZ x RP RS rn ++ wX kI kZ x XP xn) none (wC kI kZ x ++ wK kI kZ x KS KB KE (zrB KZ 0) (zrB KV (-1)) 0 0 ++ wR kI kZ x RP RS 0 ++ wX kI kZ x XP 0) := by
  refine Met.toJ (own := R_C) (QD D none (wC kI kZ x ++ wK kI kZ x KS KB KE (zrB KZ 0) (zrB KV (-1)) 0 0 ++ wR kI kZ x RP RS 0 ++ wX kI kZ x XP 0)) mk_C_clear rfl (Nat.le_of_ble_eq_true rfl) ?_
  intro p e s m args below meth c A C hr hlk hnm
  show JJ p l e { frames := 1, cells := 0, slots := 0, locals := 21 } s m args below meth c D A 1 (MQ below (QD D none (wC kI kZ x ++ wK kI kZ x KS KB KE (zrB KZ 0) (zrB KV (-1)) 0 0 ++ wR kI kZ x RP RS 0 ++ wX kI kZ x XP 0) A) args s 0 0 A) 0 0 0 [(0, .ref (x 0))] [] (wC kI kZ x ++ wK kI kZ x KS KB KE KZ KV kn kw ++ wR kI kZ x RP RS rn ++ wX kI kZ x XP xn)
  refine j_aload_n (q := 1) C 0 rfl d_C_clear_0 rfl ?_
  refine j_get (q := 4) C i_C rfl 0 rfl 1 (by decide) rfl rfl fl_C_19 d_C_clear_1 rfl ?_
  refine j_callV (q := 7) (wr := wC kI kZ x ++ wR kI kZ x RP RS rn ++ wX kI kZ x XP xn) C [] [] (c_K_empty kI kZ x KS KB KE KZ KV kn kw hK) ml_C_153 mk_K_empty in_K_empty se_K_empty rfl rfl rfl [1, 2, 3, 4, 5, 6] [0, 7, 8, 9, 10, 11] [0, 6, 7, 8, 9, 10, 11, 1, 2, 3, 4, 5] rfl (by decide) rfl (by decide) (by decide) (wC kI kZ x ++ wK kI kZ x KS KB KE (zrB KZ 0) (zrB KV (-1)) 0 0 ++ wR kI kZ x RP RS rn ++ wX kI kZ x XP xn) rfl (by decide) rfl rfl rfl (Nat.le_of_ble_eq_true rfl) ⟨Nat.le_of_ble_eq_true rfl, Nat.le_of_ble_eq_true rfl⟩ ⟨Nat.le_of_ble_eq_true rfl, Nat.le_of_ble_eq_true rfl⟩ d_C_clear_4 rfl ?_
  refine j_aload_n (q := 8) C 0 rfl d_C_clear_7 rfl ?_
  refine j_get (q := 11) C i_C rfl 0 rfl 3 (by decide) rfl rfl fl_C_33 d_C_clear_8 rfl ?_
  refine j_callV (q := 14) (wr := wC kI kZ x ++ wK kI kZ x KS KB KE (zrB KZ 0) (zrB KV (-1)) 0 0 ++ wX kI kZ x XP xn) C [] [] (c_R_forget kI kZ x RP RS rn hR) ml_C_77 mk_R_forget in_R_forget se_R_forget rfl rfl rfl [7, 8, 9] [0, 1, 2, 3, 4, 5, 6, 10, 11] [0, 1, 2, 3, 4, 5, 6, 9, 10, 11, 7, 8] rfl (by decide) rfl (by decide) (by decide) (wC kI kZ x ++ wK kI kZ x KS KB KE (zrB KZ 0) (zrB KV (-1)) 0 0 ++ wR kI kZ x RP RS 0 ++ wX kI kZ x XP xn) rfl (by decide) rfl rfl rfl (Nat.le_of_ble_eq_true rfl) ⟨Nat.le_of_ble_eq_true rfl, Nat.le_of_ble_eq_true rfl⟩ ⟨Nat.le_of_ble_eq_true rfl, Nat.le_of_ble_eq_true rfl⟩ d_C_clear_11 rfl ?_
  refine j_aload_n (q := 15) C 0 rfl d_C_clear_14 rfl ?_
  refine j_get (q := 18) C i_C rfl 0 rfl 5 (by decide) rfl rfl fl_C_49 d_C_clear_15 rfl ?_
  refine j_callV (q := 21) (wr := wC kI kZ x ++ wK kI kZ x KS KB KE (zrB KZ 0) (zrB KV (-1)) 0 0 ++ wR kI kZ x RP RS 0) C [] [] (c_X_empty kI kZ x XP xn hX) ml_C_156 mk_X_empty in_X_empty se_X_empty rfl rfl rfl [10, 11] [0, 1, 2, 3, 4, 5, 6, 7, 8, 9] [0, 1, 2, 3, 4, 5, 6, 7, 8, 9, 10, 11] rfl (by decide) rfl (by decide) (by decide) (wC kI kZ x ++ wK kI kZ x KS KB KE (zrB KZ 0) (zrB KV (-1)) 0 0 ++ wR kI kZ x RP RS 0 ++ wX kI kZ x XP 0) rfl (by decide) rfl rfl rfl (Nat.le_of_ble_eq_true rfl) ⟨Nat.le_of_ble_eq_true rfl, Nat.le_of_ble_eq_true rfl⟩ ⟨Nat.le_of_ble_eq_true rfl, Nat.le_of_ble_eq_true rfl⟩ d_C_clear_18 rfl ?_
  exact j_vret C hr hlk d_C_clear_21 rfl
/-- the sum of g 1 .. g m -/
def smI (g : Int → Int) : Nat → Int
  | 0 => 0
  | n + 1 => smI g n + g (n + 1 : Nat)
theorem smI_s (g : Int → Int) {i : Int} (h : 1 ≤ i) : smI g i.toNat = smI g (i - 1).toNat + g i := by
  obtain ⟨n, hn⟩ := Int.eq_ofNat_of_zero_le (show 0 ≤ i - 1 by omega)
  have e1 : i.toNat = n + 1 := by omega
  have e2 : (i - 1).toNat = n := by omega
  have e3 : i = ((n + 1 : Nat) : Int) := by omega
  rw [e1, e2]
  rw [show g i = g ((n + 1 : Nat) : Int) from by rw [← e3]]
  rfl
theorem smI_r {g : Int → Int} (h : ∀ i, -1000 ≤ g i ∧ g i ≤ 1000) (n : Nat) : -1000 * (n : Int) ≤ smI g n ∧ smI g n ≤ 1000 * (n : Int) := by
  induction n with
  | zero => unfold smI; omega
  | succ n ih =>
    have := h (n + 1 : Nat)
    unfold smI
    omega
theorem smI_c {f g : Int → Int} {n : Nat} (h : ∀ i : Int, 1 ≤ i → i ≤ n → f i = g i) : smI f n = smI g n := by
  induction n with
  | zero => rfl
  | succ n ih =>
    unfold smI
    rw [ih (fun i h1 h2 => h i h1 (by omega)), h (n + 1 : Nat) (by omega) (by omega)]
/-- the best of g 0 .. g (m - 1), of alike ones the first, and what it has -/
def bsI (g : Int → Int) : Nat → Int × Int
  | 0 => (-1, 0)
  | n + 1 => if (bsI g n).1 = -1 ∨ (bsI g n).2 < g n then ((n : Int), g n) else bsI g n
theorem bsI_s (g : Int → Int) {i : Int} (h : 0 ≤ i) : bsI g (i + 1).toNat = if (bsI g i.toNat).1 = -1 ∨ (bsI g i.toNat).2 < g i then (i, g i) else bsI g i.toNat := by
  obtain ⟨n, rfl⟩ := Int.eq_ofNat_of_zero_le h
  rfl
theorem bsI_c {f g : Int → Int} {n : Nat} (h : ∀ i : Int, 0 ≤ i → i < n → f i = g i) : bsI f n = bsI g n := by
  induction n with
  | zero => rfl
  | succ n ih =>
    unfold bsI
    rw [ih (fun i h1 h2 => h i h1 (by omega)), h n (by omega) (by omega)]
def rkG (KS : Nat → Int) (kn : Int) (RP RS : Nat → Int) (rn : Int) (PW : Nat → Int) (k i : Int) : Int := wtOf PW (rdAt RP RS rn k (sgAt KS kn (i - 1))) (rdAt RP RS rn k (sgAt KS kn i))
/-- the rank of reading k -/
def rkC (KS : Nat → Int) (kn : Int) (RP RS : Nat → Int) (rn : Int) (PW : Nat → Int) (k : Int) : Int := smI (rkG KS kn RP RS rn PW k) (kn - 1).toNat
theorem rkC_r {KS RP RS PW : Nat → Int} {kn rn : Int} (hP : ∀ j, -1000 ≤ PW j ∧ PW j ≤ 1000) (hkn : 0 ≤ kn ∧ kn ≤ 60) (k : Int) : -100000 ≤ rkC KS kn RP RS rn PW k ∧ rkC KS kn RP RS rn PW k ≤ 100000 := by
  have := smI_r (g := rkG KS kn RP RS rn PW k) (fun i => wtOf_r hP _ _) (kn - 1).toNat
  unfold rkC
  omega
def shG (PW XP : Nat → Int) (xn t i : Int) : Int := wtOf PW ((sgAt XP xn (i - 1) + t) % 26) ((sgAt XP xn i + t) % 26)
/-- the sum of the weights of the plain shifted by t -/
def shC (PW XP : Nat → Int) (xn t : Int) : Int := smI (shG PW XP xn t) (xn - 1).toNat
theorem shC_r {PW XP : Nat → Int} {xn : Int} (hP : ∀ j, -1000 ≤ PW j ∧ PW j ≤ 1000) (hxn : 0 ≤ xn ∧ xn ≤ 60) (t : Int) : -100000 ≤ shC PW XP xn t ∧ shC PW XP xn t ≤ 100000 := by
  have := smI_r (g := shG PW XP xn t) (fun i => wtOf_r hP _ _) (xn - 1).toNat
  unfold shC
  omega

set_option maxRecDepth 100000 in
set_option maxHeartbeats 4000000 in
theorem c_C_rankOfKept {l : Launch} {D : va_G} (kI kZ : ClassId) (x : Nat → Nat) (KS KB KE KZ KV : Nat → Int) (kn kw : Int) (hK : IK KS KB KE KZ KV kn kw) (RP RS : Nat → Int) (rn : Int) (hR : IR RP RS rn) (PW : Nat → Int) (hP : ∀ j, -1000 ≤ PW j ∧ PW j ≤ 1000) (k : Int) (hk : (-2147483648 ≤ k ∧ k < 2147483648)) : Dt l D (ty2 kI kZ) y_C_rankOfKept w_C_rankOfKept { frames := 2, cells := 0, slots := 0, locals := 43 } [.ref (x 0), .int (iI (k))] (wC kI kZ x ++ wK kI kZ x KS KB KE KZ KV kn kw ++ wR kI kZ x RP RS rn ++ wP kI kZ x PW) (some (.long (lI (rkC KS kn RP RS rn PW k)))) (wC kI kZ x ++ wK kI kZ x KS KB KE KZ KV kn kw ++ wR kI kZ x RP RS rn ++ wP kI kZ x PW) := by
  refine Met.toJ (own := R_C) (QD D (some (.long (lI (rkC KS kn RP RS rn PW k)))) (wC kI kZ x ++ wK kI kZ x KS KB KE KZ KV kn kw ++ wR kI kZ x RP RS rn ++ wP kI kZ x PW)) mk_C_rankOfKept rfl (Nat.le_of_ble_eq_true rfl) ?_
  intro p e s m args below meth c A C hr hlk hnm
  show JJ p l e { frames := 2, cells := 0, slots := 0, locals := 43 } s m args below meth c D A 7 (MQ below (QD D (some (.long (lI (rkC KS kn RP RS rn PW k)))) (wC kI kZ x ++ wK kI kZ x KS KB KE KZ KV kn kw ++ wR kI kZ x RP RS rn ++ wP kI kZ x PW) A) args s 0 0 A) 0 0 0 [(0, .ref (x 0)), (1, .int (iI (k)))] [] (wC kI kZ x ++ wK kI kZ x KS KB KE KZ KV kn kw ++ wR kI kZ x RP RS rn ++ wP kI kZ x PW)
  obtain ⟨hkn, hkw, hKS, hKB, hKE, hKZ, hKV⟩ := id hK
  obtain ⟨hrn, hRP, hRS⟩ := id hR
  refine j_lconst0 (q := 1) C d_C_rankOfKept_0 rfl ?_
  refine j_lstore_n (q := 2) C [(0, .ref (x 0)), (1, .int (iI (k))), (2, .long (lI (0)))] rfl (by decide) d_C_rankOfKept_1 rfl ?_
  refine j_iconst (q := 3) C d_C_rankOfKept_2 rfl ?_
  refine j_istore (q := 5) C [(0, .ref (x 0)), (1, .int (iI (k))), (2, .long (lI (0))), (4, .int (iI (1)))] rfl (by decide) d_C_rankOfKept_3 rfl ?_
  have lp5 : ∀ (N : Nat) (i t : Int), (1 ≤ i ∧ i ≤ 61 ∧ (i ≤ kn ∨ i = 1)) → (t = smI (rkG KS kn RP RS rn PW k) (i - 1).toNat) → (61 - i).toNat < N → JJ p l e { frames := 2, cells := 0, slots := 0, locals := 43 } s m args below meth c D A 7 (MQ below (QD D (some (.long (lI (rkC KS kn RP RS rn PW k)))) (wC kI kZ x ++ wK kI kZ x KS KB KE KZ KV kn kw ++ wR kI kZ x RP RS rn ++ wP kI kZ x PW) A) args s 0 0 A) 0 0 5 [(0, .ref (x 0)), (1, .int (iI (k))), (2, .long (lI (t))), (4, .int (iI (i)))] [] (wC kI kZ x ++ wK kI kZ x KS KB KE KZ KV kn kw ++ wR kI kZ x RP RS rn ++ wP kI kZ x PW) := by
    intro N
    induction N with
    | zero =>
      intro i t i0 i1 hN
      omega
    | succ N ih5 =>
      intro i t i0 i1 hN
      refine j_iload (q := 7) C 3 rfl d_C_rankOfKept_5 rfl ?_
      refine j_aload_n (q := 8) C 0 rfl d_C_rankOfKept_7 rfl ?_
      refine j_get (q := 11) C i_C rfl 0 rfl 1 (by decide) rfl rfl fl_C_19 d_C_rankOfKept_8 rfl ?_
      refine j_callV (q := 14) (wr := wC kI kZ x ++ wR kI kZ x RP RS rn ++ wP kI kZ x PW) C [] [.int (iI (i))] (c_K_size kI kZ x KS KB KE KZ KV kn kw hK) ml_C_157 mk_K_size in_K_size se_K_size rfl rfl rfl [1, 2, 3, 4, 5, 6] [0, 7, 8, 9, 10, 11] [0, 6, 7, 8, 9, 10, 11, 1, 2, 3, 4, 5] rfl (by decide) rfl (by decide) (by decide) (wC kI kZ x ++ wK kI kZ x KS KB KE KZ KV kn kw ++ wR kI kZ x RP RS rn ++ wP kI kZ x PW) rfl (by decide) rfl rfl rfl (Nat.le_of_ble_eq_true rfl) ⟨Nat.le_of_ble_eq_true rfl, Nat.le_of_ble_eq_true rfl⟩ ⟨Nat.le_of_ble_eq_true rfl, Nat.le_of_ble_eq_true rfl⟩ d_C_rankOfKept_11 rfl ?_
      refine j_icmp_ge C 78 17 d_C_rankOfKept_14 rfl rfl (by omega) (by omega) (fun c1 => ?_) (fun c1 => ?_)
      · refine j_lload_n (q := 79) C 2 rfl d_C_rankOfKept_78 rfl ?_
        exact j_lret C hr hlk d_C_rankOfKept_79 (congrArg (fun z => some (Value.long (lI z))) (show (rkC KS kn RP RS rn PW k) = (t) from by unfold rkC; rw [i1]; congr 1; omega)) rfl
      · refine j_aload_n (q := 18) C 0 rfl d_C_rankOfKept_17 rfl ?_
        refine j_get (q := 21) C i_C rfl 0 rfl 3 (by decide) rfl rfl fl_C_33 d_C_rankOfKept_18 rfl ?_
        refine j_iload_n (q := 22) C 1 rfl d_C_rankOfKept_21 rfl ?_
        refine j_aload_n (q := 23) C 0 rfl d_C_rankOfKept_22 rfl ?_
        refine j_get (q := 26) C i_C rfl 0 rfl 1 (by decide) rfl rfl fl_C_19 d_C_rankOfKept_23 rfl ?_
        refine j_iload (q := 28) C 3 rfl d_C_rankOfKept_26 rfl ?_
        refine j_iconst (q := 29) C d_C_rankOfKept_28 rfl ?_
        refine j_isub (q := 30) C d_C_rankOfKept_29 rfl ?_
        have e30 := sgAt_r hKS kn (i - 1)
        refine j_callV (q := 33) (wr := wC kI kZ x ++ wR kI kZ x RP RS rn ++ wP kI kZ x PW) C [.int (iI (i - 1))] [.int (iI (k)), .ref (x 13)] (c_K_signAt kI kZ x KS KB KE KZ KV kn kw hK (i - 1) (by omega)) ml_C_158 mk_K_signAt in_K_signAt se_K_signAt rfl rfl rfl [1, 2, 3, 4, 5, 6] [0, 7, 8, 9, 10, 11] [0, 6, 7, 8, 9, 10, 11, 1, 2, 3, 4, 5] rfl (by decide) rfl (by decide) (by decide) (wC kI kZ x ++ wK kI kZ x KS KB KE KZ KV kn kw ++ wR kI kZ x RP RS rn ++ wP kI kZ x PW) rfl (by decide) rfl rfl rfl (Nat.le_of_ble_eq_true rfl) ⟨Nat.le_of_ble_eq_true rfl, Nat.le_of_ble_eq_true rfl⟩ ⟨Nat.le_of_ble_eq_true rfl, Nat.le_of_ble_eq_true rfl⟩ d_C_rankOfKept_30 rfl ?_
        have e33 := rdAt_r hR k (sgAt KS kn (i - 1))
        refine j_callV (q := 36) (wr := wC kI kZ x ++ wK kI kZ x KS KB KE KZ KV kn kw ++ wP kI kZ x PW) C [.int (iI (k)), .int (iI (sgAt KS kn (i - 1)))] [] (c_R_placeIn kI kZ x RP RS rn hR k (sgAt KS kn (i - 1)) (by omega) (by omega)) ml_C_98 mk_R_placeIn in_R_placeIn se_R_placeIn rfl rfl rfl [7, 8, 9] [0, 1, 2, 3, 4, 5, 6, 10, 11] [0, 1, 2, 3, 4, 5, 6, 9, 10, 11, 7, 8] rfl (by decide) rfl (by decide) (by decide) (wC kI kZ x ++ wK kI kZ x KS KB KE KZ KV kn kw ++ wR kI kZ x RP RS rn ++ wP kI kZ x PW) rfl (by decide) rfl rfl rfl (Nat.le_of_ble_eq_true rfl) ⟨Nat.le_of_ble_eq_true rfl, Nat.le_of_ble_eq_true rfl⟩ ⟨Nat.le_of_ble_eq_true rfl, Nat.le_of_ble_eq_true rfl⟩ d_C_rankOfKept_33 rfl ?_
        refine j_istore (q := 38) C [(0, .ref (x 0)), (1, .int (iI (k))), (2, .long (lI (t))), (4, .int (iI (i))), (5, .int (iI (rdAt RP RS rn k (sgAt KS kn (i - 1)))))] rfl (by decide) d_C_rankOfKept_36 rfl ?_
        refine j_aload_n (q := 39) C 0 rfl d_C_rankOfKept_38 rfl ?_
        refine j_get (q := 42) C i_C rfl 0 rfl 3 (by decide) rfl rfl fl_C_33 d_C_rankOfKept_39 rfl ?_
        refine j_iload_n (q := 43) C 1 rfl d_C_rankOfKept_42 rfl ?_
        refine j_aload_n (q := 44) C 0 rfl d_C_rankOfKept_43 rfl ?_
        refine j_get (q := 47) C i_C rfl 0 rfl 1 (by decide) rfl rfl fl_C_19 d_C_rankOfKept_44 rfl ?_
        refine j_iload (q := 49) C 3 rfl d_C_rankOfKept_47 rfl ?_
        have e49 := sgAt_r hKS kn i
        refine j_callV (q := 52) (wr := wC kI kZ x ++ wR kI kZ x RP RS rn ++ wP kI kZ x PW) C [.int (iI (i))] [.int (iI (k)), .ref (x 13)] (c_K_signAt kI kZ x KS KB KE KZ KV kn kw hK i (by omega)) ml_C_158 mk_K_signAt in_K_signAt se_K_signAt rfl rfl rfl [1, 2, 3, 4, 5, 6] [0, 7, 8, 9, 10, 11] [0, 6, 7, 8, 9, 10, 11, 1, 2, 3, 4, 5] rfl (by decide) rfl (by decide) (by decide) (wC kI kZ x ++ wK kI kZ x KS KB KE KZ KV kn kw ++ wR kI kZ x RP RS rn ++ wP kI kZ x PW) rfl (by decide) rfl rfl rfl (Nat.le_of_ble_eq_true rfl) ⟨Nat.le_of_ble_eq_true rfl, Nat.le_of_ble_eq_true rfl⟩ ⟨Nat.le_of_ble_eq_true rfl, Nat.le_of_ble_eq_true rfl⟩ d_C_rankOfKept_49 rfl ?_
        have e52 := rdAt_r hR k (sgAt KS kn i)
        refine j_callV (q := 55) (wr := wC kI kZ x ++ wK kI kZ x KS KB KE KZ KV kn kw ++ wP kI kZ x PW) C [.int (iI (k)), .int (iI (sgAt KS kn i))] [] (c_R_placeIn kI kZ x RP RS rn hR k (sgAt KS kn i) (by omega) (by omega)) ml_C_98 mk_R_placeIn in_R_placeIn se_R_placeIn rfl rfl rfl [7, 8, 9] [0, 1, 2, 3, 4, 5, 6, 10, 11] [0, 1, 2, 3, 4, 5, 6, 9, 10, 11, 7, 8] rfl (by decide) rfl (by decide) (by decide) (wC kI kZ x ++ wK kI kZ x KS KB KE KZ KV kn kw ++ wR kI kZ x RP RS rn ++ wP kI kZ x PW) rfl (by decide) rfl rfl rfl (Nat.le_of_ble_eq_true rfl) ⟨Nat.le_of_ble_eq_true rfl, Nat.le_of_ble_eq_true rfl⟩ ⟨Nat.le_of_ble_eq_true rfl, Nat.le_of_ble_eq_true rfl⟩ d_C_rankOfKept_52 rfl ?_
        refine j_istore (q := 57) C [(0, .ref (x 0)), (1, .int (iI (k))), (2, .long (lI (t))), (4, .int (iI (i))), (5, .int (iI (rdAt RP RS rn k (sgAt KS kn (i - 1))))), (6, .int (iI (rdAt RP RS rn k (sgAt KS kn i))))] rfl (by decide) d_C_rankOfKept_55 rfl ?_
        refine j_lload_n (q := 58) C 2 rfl d_C_rankOfKept_57 rfl ?_
        refine j_aload_n (q := 59) C 0 rfl d_C_rankOfKept_58 rfl ?_
        refine j_get (q := 62) C i_C rfl 0 rfl 2 (by decide) rfl rfl fl_C_26 d_C_rankOfKept_59 rfl ?_
        refine j_iload (q := 64) C 4 rfl d_C_rankOfKept_62 rfl ?_
        refine j_iload (q := 66) C 5 rfl d_C_rankOfKept_64 rfl ?_
        have e66 := wtOf_r hP (rdAt RP RS rn k (sgAt KS kn (i - 1))) (rdAt RP RS rn k (sgAt KS kn i))
        refine j_callV (q := 69) (wr := wC kI kZ x ++ wK kI kZ x KS KB KE KZ KV kn kw ++ wR kI kZ x RP RS rn) C [.int (iI (rdAt RP RS rn k (sgAt KS kn (i - 1)))), .int (iI (rdAt RP RS rn k (sgAt KS kn i)))] [.long (lI (t))] (c_P_weightOf kI kZ x PW hP (rdAt RP RS rn k (sgAt KS kn (i - 1))) (rdAt RP RS rn k (sgAt KS kn i)) (by omega) (by omega)) ml_C_161 mk_P_weightOf in_P_weightOf se_P_weightOf rfl rfl rfl [10, 11] [0, 1, 2, 3, 4, 5, 6, 7, 8, 9] [0, 1, 2, 3, 4, 5, 6, 7, 8, 9, 10, 11] rfl (by decide) rfl (by decide) (by decide) (wC kI kZ x ++ wK kI kZ x KS KB KE KZ KV kn kw ++ wR kI kZ x RP RS rn ++ wP kI kZ x PW) rfl (by decide) rfl rfl rfl (Nat.le_of_ble_eq_true rfl) ⟨Nat.le_of_ble_eq_true rfl, Nat.le_of_ble_eq_true rfl⟩ ⟨Nat.le_of_ble_eq_true rfl, Nat.le_of_ble_eq_true rfl⟩ d_C_rankOfKept_66 rfl ?_
        refine j_i2l (q := 70) C (by omega) d_C_rankOfKept_69 rfl ?_
        refine j_ladd (q := 71) C d_C_rankOfKept_70 rfl ?_
        refine j_lstore_n (q := 72) C [(0, .ref (x 0)), (1, .int (iI (k))), (2, .long (lI (t + (wtOf PW (rdAt RP RS rn k (sgAt KS kn (i - 1))) (rdAt RP RS rn k (sgAt KS kn i)))))), (4, .int (iI (i))), (5, .int (iI (rdAt RP RS rn k (sgAt KS kn (i - 1))))), (6, .int (iI (rdAt RP RS rn k (sgAt KS kn i))))] rfl (by decide) d_C_rankOfKept_71 rfl ?_
        refine j_iinc (q := 75) C 3 [(0, .ref (x 0)), (1, .int (iI (k))), (2, .long (lI (t + (wtOf PW (rdAt RP RS rn k (sgAt KS kn (i - 1))) (rdAt RP RS rn k (sgAt KS kn i)))))), (4, .int (iI (i + 1))), (5, .int (iI (rdAt RP RS rn k (sgAt KS kn (i - 1))))), (6, .int (iI (rdAt RP RS rn k (sgAt KS kn i))))] rfl rfl (by decide) d_C_rankOfKept_72 rfl ?_
        refine j_goto C 5 d_C_rankOfKept_75 rfl ?_
        refine j_lv [0, 1, 2, 3] rfl ?_
        exact ih5 (i + 1) _ (by omega) (by rw [show i + 1 - 1 = i from by omega, smI_s _ i0.1, ← i1]; rfl) (by omega)
  exact lp5 61 1 0 (by omega) rfl (by omega)
set_option maxRecDepth 100000 in
set_option maxHeartbeats 4000000 in
theorem c_C_rank {l : Launch} {D : va_G} (kI kZ : ClassId) (x : Nat → Nat) (KS KB KE KZ KV : Nat → Int) (kn kw : Int) (hK : IK KS KB KE KZ KV kn kw) (RP RS : Nat → Int) (rn : Int) (hR : IR RP RS rn) (PW : Nat → Int) (hP : ∀ j, -1000 ≤ PW j ∧ PW j ≤ 1000) (k : Int) (hk : (-2147483648 ≤ k ∧ k < 2147483648)) : Dt l D (ty2 kI kZ) y_C_rank w_C_rank { frames := 3, cells := 0, slots := 0, locals := 69 } [.ref (x 0), .int (iI (k))] (wC kI kZ x ++ wK kI kZ x KS KB KE KZ KV kn kw ++ wR kI kZ x RP RS rn ++ wP kI kZ x PW) (some (.long (lI (if 0 ≤ k ∧ k < rn then rkC KS kn RP RS rn PW k else 0)))) (wC kI kZ x ++ wK kI kZ x KS KB KE KZ KV kn kw ++ wR kI kZ x RP RS rn ++ wP kI kZ x PW) := by
  refine Met.toJ (own := R_C) (QD D (some (.long (lI (if 0 ≤ k ∧ k < rn then rkC KS kn RP RS rn PW k else 0)))) (wC kI kZ x ++ wK kI kZ x KS KB KE KZ KV kn kw ++ wR kI kZ x RP RS rn ++ wP kI kZ x PW)) mk_C_rank rfl (Nat.le_of_ble_eq_true rfl) ?_
  intro p e s m args below meth c A C hr hlk hnm
  show JJ p l e { frames := 3, cells := 0, slots := 0, locals := 69 } s m args below meth c D A 2 (MQ below (QD D (some (.long (lI (if 0 ≤ k ∧ k < rn then rkC KS kn RP RS rn PW k else 0)))) (wC kI kZ x ++ wK kI kZ x KS KB KE KZ KV kn kw ++ wR kI kZ x RP RS rn ++ wP kI kZ x PW) A) args s 0 0 A) 0 0 0 [(0, .ref (x 0)), (1, .int (iI (k)))] [] (wC kI kZ x ++ wK kI kZ x KS KB KE KZ KV kn kw ++ wR kI kZ x RP RS rn ++ wP kI kZ x PW)
  obtain ⟨hkn, hkw, hKS, hKB, hKE, hKZ, hKV⟩ := id hK
  obtain ⟨hrn, hRP, hRS⟩ := id hR
  refine j_aload_n (q := 1) C 0 rfl d_C_rank_0 rfl ?_
  refine j_get (q := 4) C i_C rfl 0 rfl 3 (by decide) rfl rfl fl_C_33 d_C_rank_1 rfl ?_
  refine j_iload_n (q := 5) C 1 rfl d_C_rank_4 rfl ?_
  have e5 := hsR_r rn k
  refine j_callV (q := 8) (wr := wC kI kZ x ++ wK kI kZ x KS KB KE KZ KV kn kw ++ wP kI kZ x PW) C [.int (iI (k))] [] (c_R_has kI kZ x RP RS rn hR k (by omega)) ml_C_105 mk_R_has in_R_has se_R_has rfl rfl rfl [7, 8, 9] [0, 1, 2, 3, 4, 5, 6, 10, 11] [0, 1, 2, 3, 4, 5, 6, 9, 10, 11, 7, 8] rfl (by decide) rfl (by decide) (by decide) (wC kI kZ x ++ wK kI kZ x KS KB KE KZ KV kn kw ++ wR kI kZ x RP RS rn ++ wP kI kZ x PW) rfl (by decide) rfl rfl rfl (Nat.le_of_ble_eq_true rfl) ⟨Nat.le_of_ble_eq_true rfl, Nat.le_of_ble_eq_true rfl⟩ ⟨Nat.le_of_ble_eq_true rfl, Nat.le_of_ble_eq_true rfl⟩ d_C_rank_5 rfl ?_
  refine j_if_eq C 19 11 d_C_rank_8 rfl rfl (by omega) (fun c1 => ?_) (fun c1 => ?_)
  · have c1 := hsR_0 c1
    refine j_lconst0 (q := 20) C d_C_rank_19 rfl ?_
    exact j_lret C hr hlk d_C_rank_20 (congrArg (fun z => some (Value.long (lI z))) (show (if 0 ≤ k ∧ k < rn then rkC KS kn RP RS rn PW k else 0) = (0) from by split <;> first | rfl | omega)) rfl
  · have c1 := hsR_1 c1
    refine j_aload_n (q := 12) C 0 rfl d_C_rank_11 rfl ?_
    refine j_iload_n (q := 13) C 1 rfl d_C_rank_12 rfl ?_
    have e13 := rkC_r (KS := KS) (RP := RP) (RS := RS) (rn := rn) hP hkn k
    refine j_callV (q := 16) (wr := []) C [.int (iI (k))] [] (c_C_rankOfKept kI kZ x KS KB KE KZ KV kn kw hK RP RS rn hR PW hP k (by omega)) ml_C_108 mk_C_rankOfKept in_C_rankOfKept se_C_rankOfKept rfl rfl rfl [0, 1, 2, 3, 4, 5, 6, 7, 8, 9, 10, 11] [] [0, 1, 2, 3, 4, 5, 6, 7, 8, 9, 10, 11] rfl (by decide) rfl (by decide) (by decide) (wC kI kZ x ++ wK kI kZ x KS KB KE KZ KV kn kw ++ wR kI kZ x RP RS rn ++ wP kI kZ x PW) rfl (by decide) rfl rfl rfl (Nat.le_of_ble_eq_true rfl) ⟨Nat.le_of_ble_eq_true rfl, Nat.le_of_ble_eq_true rfl⟩ ⟨Nat.le_of_ble_eq_true rfl, Nat.le_of_ble_eq_true rfl⟩ d_C_rank_13 rfl ?_
    refine j_goto C 20 d_C_rank_16 rfl ?_
    exact j_lret C hr hlk d_C_rank_20 (congrArg (fun z => some (Value.long (lI z))) (show (if 0 ≤ k ∧ k < rn then rkC KS kn RP RS rn PW k else 0) = (rkC KS kn RP RS rn PW k) from by split <;> first | rfl | omega)) rfl
set_option maxRecDepth 100000 in
set_option maxHeartbeats 4000000 in
theorem c_C_best {l : Launch} {D : va_G} (kI kZ : ClassId) (x : Nat → Nat) (KS KB KE KZ KV : Nat → Int) (kn kw : Int) (hK : IK KS KB KE KZ KV kn kw) (RP RS : Nat → Int) (rn : Int) (hR : IR RP RS rn) (PW : Nat → Int) (hP : ∀ j, -1000 ≤ PW j ∧ PW j ≤ 1000) : Dt l D (ty2 kI kZ) y_C_best w_C_best { frames := 3, cells := 0, slots := 0, locals := 69 } [.ref (x 0)] (wC kI kZ x ++ wK kI kZ x KS KB KE KZ KV kn kw ++ wR kI kZ x RP RS rn ++ wP kI kZ x PW) (some (.int (iI ((bsI (rkC KS kn RP RS rn PW) rn.toNat).1)))) (wC kI kZ x ++ wK kI kZ x KS KB KE KZ KV kn kw ++ wR kI kZ x RP RS rn ++ wP kI kZ x PW) := by
  refine Met.toJ (own := R_C) (QD D (some (.int (iI ((bsI (rkC KS kn RP RS rn PW) rn.toNat).1)))) (wC kI kZ x ++ wK kI kZ x KS KB KE KZ KV kn kw ++ wR kI kZ x RP RS rn ++ wP kI kZ x PW)) mk_C_best rfl (Nat.le_of_ble_eq_true rfl) ?_
  intro p e s m args below meth c A C hr hlk hnm
  show JJ p l e { frames := 3, cells := 0, slots := 0, locals := 69 } s m args below meth c D A 7 (MQ below (QD D (some (.int (iI ((bsI (rkC KS kn RP RS rn PW) rn.toNat).1)))) (wC kI kZ x ++ wK kI kZ x KS KB KE KZ KV kn kw ++ wR kI kZ x RP RS rn ++ wP kI kZ x PW) A) args s 0 0 A) 0 0 0 [(0, .ref (x 0))] [] (wC kI kZ x ++ wK kI kZ x KS KB KE KZ KV kn kw ++ wR kI kZ x RP RS rn ++ wP kI kZ x PW)
  obtain ⟨hkn, hkw, hKS, hKB, hKE, hKZ, hKV⟩ := id hK
  obtain ⟨hrn, hRP, hRS⟩ := id hR
  refine j_iconst (q := 1) C d_C_best_0 rfl ?_
  refine j_istore_n (q := 2) C [(0, .ref (x 0)), (1, .int (iI (-1)))] rfl (by decide) d_C_best_1 rfl ?_
  refine j_lconst0 (q := 3) C d_C_best_2 rfl ?_
  refine j_lstore_n (q := 4) C [(0, .ref (x 0)), (1, .int (iI (-1))), (2, .long (lI (0)))] rfl (by decide) d_C_best_3 rfl ?_
  refine j_iconst (q := 5) C d_C_best_4 rfl ?_
  refine j_istore (q := 7) C [(0, .ref (x 0)), (1, .int (iI (-1))), (2, .long (lI (0))), (4, .int (iI (0)))] rfl (by decide) d_C_best_5 rfl ?_
  have lp7 : ∀ (N : Nat) (i b t : Int), (0 ≤ i ∧ i ≤ rn) → ((b, t) = bsI (rkC KS kn RP RS rn PW) i.toNat) → ((-1 ≤ b ∧ b ≤ i) ∧ (-100000 ≤ t ∧ t ≤ 100000)) → (rn - i).toNat < N → JJ p l e { frames := 3, cells := 0, slots := 0, locals := 69 } s m args below meth c D A 7 (MQ below (QD D (some (.int (iI ((bsI (rkC KS kn RP RS rn PW) rn.toNat).1)))) (wC kI kZ x ++ wK kI kZ x KS KB KE KZ KV kn kw ++ wR kI kZ x RP RS rn ++ wP kI kZ x PW) A) args s 0 0 A) 0 0 7 [(0, .ref (x 0)), (1, .int (iI (b))), (2, .long (lI (t))), (4, .int (iI (i)))] [] (wC kI kZ x ++ wK kI kZ x KS KB KE KZ KV kn kw ++ wR kI kZ x RP RS rn ++ wP kI kZ x PW) := by
    intro N
    induction N with
    | zero =>
      intro i b t i0 i1 i2 hN
      omega
    | succ N ih7 =>
      intro i b t i0 i1 i2 hN
      refine j_iload (q := 9) C 3 rfl d_C_best_7 rfl ?_
      refine j_aload_n (q := 10) C 0 rfl d_C_best_9 rfl ?_
      refine j_get (q := 13) C i_C rfl 0 rfl 3 (by decide) rfl rfl fl_C_33 d_C_best_10 rfl ?_
      refine j_callV (q := 16) (wr := wC kI kZ x ++ wK kI kZ x KS KB KE KZ KV kn kw ++ wP kI kZ x PW) C [] [.int (iI (i))] (c_R_size kI kZ x RP RS rn hR) ml_C_112 mk_R_size in_R_size se_R_size rfl rfl rfl [7, 8, 9] [0, 1, 2, 3, 4, 5, 6, 10, 11] [0, 1, 2, 3, 4, 5, 6, 9, 10, 11, 7, 8] rfl (by decide) rfl (by decide) (by decide) (wC kI kZ x ++ wK kI kZ x KS KB KE KZ KV kn kw ++ wR kI kZ x RP RS rn ++ wP kI kZ x PW) rfl (by decide) rfl rfl rfl (Nat.le_of_ble_eq_true rfl) ⟨Nat.le_of_ble_eq_true rfl, Nat.le_of_ble_eq_true rfl⟩ ⟨Nat.le_of_ble_eq_true rfl, Nat.le_of_ble_eq_true rfl⟩ d_C_best_13 rfl ?_
      refine j_icmp_ge C 51 19 d_C_best_16 rfl rfl (by omega) (by omega) (fun c1 => ?_) (fun c1 => ?_)
      · refine j_iload_n (q := 52) C 1 rfl d_C_best_51 rfl ?_
        exact j_iret C hr hlk d_C_best_52 (congrArg (fun z => some (Value.int (iI z))) (show ((bsI (rkC KS kn RP RS rn PW) rn.toNat).1) = (b) from by rw [show rn.toNat = i.toNat from by omega, ← i1])) rfl
      · refine j_aload_n (q := 20) C 0 rfl d_C_best_19 rfl ?_
        refine j_iload (q := 22) C 3 rfl d_C_best_20 rfl ?_
        have e22 := rkC_r (KS := KS) (RP := RP) (RS := RS) (rn := rn) hP hkn i
        refine j_callV (q := 25) (wr := []) C [.int (iI (i))] [] (c_C_rankOfKept kI kZ x KS KB KE KZ KV kn kw hK RP RS rn hR PW hP i (by omega)) ml_C_108 mk_C_rankOfKept in_C_rankOfKept se_C_rankOfKept rfl rfl rfl [0, 1, 2, 3, 4, 5, 6, 7, 8, 9, 10, 11] [] [0, 1, 2, 3, 4, 5, 6, 7, 8, 9, 10, 11] rfl (by decide) rfl (by decide) (by decide) (wC kI kZ x ++ wK kI kZ x KS KB KE KZ KV kn kw ++ wR kI kZ x RP RS rn ++ wP kI kZ x PW) rfl (by decide) rfl rfl rfl (Nat.le_of_ble_eq_true rfl) ⟨Nat.le_of_ble_eq_true rfl, Nat.le_of_ble_eq_true rfl⟩ ⟨Nat.le_of_ble_eq_true rfl, Nat.le_of_ble_eq_true rfl⟩ d_C_best_22 rfl ?_
        refine j_lstore (q := 27) C [(0, .ref (x 0)), (1, .int (iI (b))), (2, .long (lI (t))), (4, .int (iI (i))), (5, .long (lI (rkC KS kn RP RS rn PW i)))] rfl (by decide) d_C_best_25 rfl ?_
        refine j_iload_n (q := 28) C 1 rfl d_C_best_27 rfl ?_
        refine j_iconst (q := 29) C d_C_best_28 rfl ?_
        refine j_icmp_eq C 39 32 d_C_best_29 rfl rfl (by omega) (by omega) (fun c2 => ?_) (fun c2 => ?_)
        · refine j_iload (q := 41) C 3 rfl d_C_best_39 rfl ?_
          refine j_istore_n (q := 42) C [(0, .ref (x 0)), (1, .int (iI (i))), (2, .long (lI (t))), (4, .int (iI (i))), (5, .long (lI (rkC KS kn RP RS rn PW i)))] rfl (by decide) d_C_best_41 rfl ?_
          refine j_lload (q := 44) C 4 rfl d_C_best_42 rfl ?_
          refine j_lstore_n (q := 45) C [(0, .ref (x 0)), (1, .int (iI (i))), (2, .long (lI (rkC KS kn RP RS rn PW i))), (4, .int (iI (i))), (5, .long (lI (rkC KS kn RP RS rn PW i)))] rfl (by decide) d_C_best_44 rfl ?_
          refine j_iinc (q := 48) C 3 [(0, .ref (x 0)), (1, .int (iI (i))), (2, .long (lI (rkC KS kn RP RS rn PW i))), (4, .int (iI (i + 1))), (5, .long (lI (rkC KS kn RP RS rn PW i)))] rfl rfl (by decide) d_C_best_45 rfl ?_
          refine j_goto C 7 d_C_best_48 rfl ?_
          refine j_lv [0, 1, 2, 3] rfl ?_
          exact ih7 (i + 1) _ _ (by omega) (by rw [bsI_s _ i0.1, ← i1]; first | rw [if_pos (by dsimp only; omega)] | rw [if_neg (by dsimp only; omega)]) (by omega) (by omega)
        · refine j_lload (q := 34) C 4 rfl d_C_best_32 rfl ?_
          refine j_lload_n (q := 35) C 2 rfl d_C_best_34 rfl ?_
          refine j_lcmp (q := 36) C (by omega) (by omega) d_C_best_35 rfl ?_
          have r36 : -1 ≤ (if t < rkC KS kn RP RS rn PW i then (1 : Int) else if rkC KS kn RP RS rn PW i = t then 0 else -1) ∧ (if t < rkC KS kn RP RS rn PW i then (1 : Int) else if rkC KS kn RP RS rn PW i = t then 0 else -1) ≤ 1 := by split <;> (try split) <;> omega
          refine j_if_le C 45 39 d_C_best_36 rfl rfl (by omega) (fun c3 => ?_) (fun c3 => ?_)
          · have c3 : rkC KS kn RP RS rn PW i ≤ t := by split at c3 <;> (try split at c3) <;> omega
            refine j_iinc (q := 48) C 3 [(0, .ref (x 0)), (1, .int (iI (b))), (2, .long (lI (t))), (4, .int (iI (i + 1))), (5, .long (lI (rkC KS kn RP RS rn PW i)))] rfl rfl (by decide) d_C_best_45 rfl ?_
            refine j_goto C 7 d_C_best_48 rfl ?_
            refine j_lv [0, 1, 2, 3] rfl ?_
            exact ih7 (i + 1) _ _ (by omega) (by rw [bsI_s _ i0.1, ← i1]; first | rw [if_pos (by dsimp only; omega)] | rw [if_neg (by dsimp only; omega)]) (by omega) (by omega)
          · have c3 : t < rkC KS kn RP RS rn PW i := by split at c3 <;> (try split at c3) <;> omega
            refine j_iload (q := 41) C 3 rfl d_C_best_39 rfl ?_
            refine j_istore_n (q := 42) C [(0, .ref (x 0)), (1, .int (iI (i))), (2, .long (lI (t))), (4, .int (iI (i))), (5, .long (lI (rkC KS kn RP RS rn PW i)))] rfl (by decide) d_C_best_41 rfl ?_
            refine j_lload (q := 44) C 4 rfl d_C_best_42 rfl ?_
            refine j_lstore_n (q := 45) C [(0, .ref (x 0)), (1, .int (iI (i))), (2, .long (lI (rkC KS kn RP RS rn PW i))), (4, .int (iI (i))), (5, .long (lI (rkC KS kn RP RS rn PW i)))] rfl (by decide) d_C_best_44 rfl ?_
            refine j_iinc (q := 48) C 3 [(0, .ref (x 0)), (1, .int (iI (i))), (2, .long (lI (rkC KS kn RP RS rn PW i))), (4, .int (iI (i + 1))), (5, .long (lI (rkC KS kn RP RS rn PW i)))] rfl rfl (by decide) d_C_best_45 rfl ?_
            refine j_goto C 7 d_C_best_48 rfl ?_
            refine j_lv [0, 1, 2, 3] rfl ?_
            exact ih7 (i + 1) _ _ (by omega) (by rw [bsI_s _ i0.1, ← i1]; first | rw [if_pos (by dsimp only; omega)] | rw [if_neg (by dsimp only; omega)]) (by omega) (by omega)
  exact lp7 (rn.toNat + 1) 0 (-1) 0 (by omega) rfl (by omega) (by omega)
noncomputable def hiC (KZ KV RP RS : Nat → Int) (rn : Int) : Int := lst (fun n => (¬ ctK KZ n = 0 ∧ kpAt KV n = -1) ∧ ¬ cmP RP RS rn n = -1) 26
theorem hiC_r (KZ KV RP RS : Nat → Int) (rn : Int) : 0 ≤ hiC KZ KV RP RS rn ∧ hiC KZ KV RP RS rn ≤ 26 := by
  unfold hiC
  rcases lst_sp (fun n => (¬ ctK KZ n = 0 ∧ kpAt KV n = -1) ∧ ¬ cmP RP RS rn n = -1) 26 with ⟨h1, h2, -, -⟩ | ⟨h1, -⟩ <;> omega

set_option maxRecDepth 100000 in
set_option maxHeartbeats 4000000 in
theorem c_C_hint {l : Launch} {D : va_G} (kI kZ : ClassId) (x : Nat → Nat) (KS KB KE KZ KV : Nat → Int) (kn kw : Int) (hK : IK KS KB KE KZ KV kn kw) (RP RS : Nat → Int) (rn : Int) (hR : IR RP RS rn) : Dt l D (ty2 kI kZ) y_C_hint w_C_hint { frames := 3, cells := 0, slots := 0, locals := 66 } [.ref (x 0)] (wC kI kZ x ++ wK kI kZ x KS KB KE KZ KV kn kw ++ wR kI kZ x RP RS rn) (some (.int (iI (if hiC KZ KV RP RS rn < 26 then hiC KZ KV RP RS rn else -1)))) (wC kI kZ x ++ wK kI kZ x KS KB KE KZ (if hiC KZ KV RP RS rn < 26 then uI KV (hiC KZ KV RP RS rn).toNat (cmP RP RS rn (hiC KZ KV RP RS rn)) else KV) kn kw ++ wR kI kZ x RP RS rn) := by
  refine Met.toJ (own := R_C) (QD D (some (.int (iI (if hiC KZ KV RP RS rn < 26 then hiC KZ KV RP RS rn else -1)))) (wC kI kZ x ++ wK kI kZ x KS KB KE KZ (if hiC KZ KV RP RS rn < 26 then uI KV (hiC KZ KV RP RS rn).toNat (cmP RP RS rn (hiC KZ KV RP RS rn)) else KV) kn kw ++ wR kI kZ x RP RS rn)) mk_C_hint rfl (Nat.le_of_ble_eq_true rfl) ?_
  intro p e s m args below meth c A C hr hlk hnm
  show JJ p l e { frames := 3, cells := 0, slots := 0, locals := 66 } s m args below meth c D A 3 (MQ below (QD D (some (.int (iI (if hiC KZ KV RP RS rn < 26 then hiC KZ KV RP RS rn else -1)))) (wC kI kZ x ++ wK kI kZ x KS KB KE KZ (if hiC KZ KV RP RS rn < 26 then uI KV (hiC KZ KV RP RS rn).toNat (cmP RP RS rn (hiC KZ KV RP RS rn)) else KV) kn kw ++ wR kI kZ x RP RS rn) A) args s 0 0 A) 0 0 0 [(0, .ref (x 0))] [] (wC kI kZ x ++ wK kI kZ x KS KB KE KZ KV kn kw ++ wR kI kZ x RP RS rn)
  obtain ⟨hkn, hkw, hKS, hKB, hKE, hKZ, hKV⟩ := id hK
  obtain ⟨hrn, hRP, hRS⟩ := id hR
  refine j_iconst (q := 1) C d_C_hint_0 rfl ?_
  refine j_istore_n (q := 2) C [(0, .ref (x 0)), (1, .int (iI (0)))] rfl (by decide) d_C_hint_1 rfl ?_
  have lp2 : ∀ (N : Nat) (i : Int), (0 ≤ i ∧ i ≤ 26) → (∀ j, 0 ≤ j → j < i → ¬ ((¬ ctK KZ j = 0 ∧ kpAt KV j = -1) ∧ ¬ cmP RP RS rn j = -1)) → (26 - i).toNat < N → JJ p l e { frames := 3, cells := 0, slots := 0, locals := 66 } s m args below meth c D A 3 (MQ below (QD D (some (.int (iI (if hiC KZ KV RP RS rn < 26 then hiC KZ KV RP RS rn else -1)))) (wC kI kZ x ++ wK kI kZ x KS KB KE KZ (if hiC KZ KV RP RS rn < 26 then uI KV (hiC KZ KV RP RS rn).toNat (cmP RP RS rn (hiC KZ KV RP RS rn)) else KV) kn kw ++ wR kI kZ x RP RS rn) A) args s 0 0 A) 0 0 2 [(0, .ref (x 0)), (1, .int (iI (i)))] [] (wC kI kZ x ++ wK kI kZ x KS KB KE KZ KV kn kw ++ wR kI kZ x RP RS rn) := by
    intro N
    induction N with
    | zero =>
      intro i i0 i1 hN
      omega
    | succ N ih2 =>
      intro i i0 i1 hN
      refine j_iload_n (q := 3) C 1 rfl d_C_hint_2 rfl ?_
      refine j_bipush (q := 5) C d_C_hint_3 rfl rfl ?_
      refine j_icmp_ge C 62 8 d_C_hint_5 rfl rfl (by omega) (by omega) (fun c1 => ?_) (fun c1 => ?_)
      · have f63 : hiC KZ KV RP RS rn = 26 := lst_no (fun j h1 h2 => i1 j h1 (by omega))
        refine j_iconst (q := 63) C d_C_hint_62 rfl ?_
        exact j_iret C hr hlk d_C_hint_63 (congrArg (fun z => some (Value.int (iI z))) (show (if hiC KZ KV RP RS rn < 26 then hiC KZ KV RP RS rn else -1) = (-1) from by rw [f63, if_neg (by omega)])) (by rw [f63, if_neg (by omega)])
      · refine j_aload_n (q := 9) C 0 rfl d_C_hint_8 rfl ?_
        refine j_get (q := 12) C i_C rfl 0 rfl 1 (by decide) rfl rfl fl_C_19 d_C_hint_9 rfl ?_
        refine j_iload_n (q := 13) C 1 rfl d_C_hint_12 rfl ?_
        have e13 := ctK_r KZ i
        refine j_callV (q := 16) (wr := wC kI kZ x ++ wR kI kZ x RP RS rn) C [.int (iI (i))] [] (c_K_contains kI kZ x KS KB KE KZ KV kn kw hK i (by omega)) ml_C_115 mk_K_contains in_K_contains se_K_contains rfl rfl rfl [1, 2, 3, 4, 5, 6] [0, 7, 8, 9] [0, 4, 5, 6, 7, 8, 9, 1, 2, 3] rfl (by decide) rfl (by decide) (by decide) (wC kI kZ x ++ wK kI kZ x KS KB KE KZ KV kn kw ++ wR kI kZ x RP RS rn) rfl (by decide) rfl rfl rfl (Nat.le_of_ble_eq_true rfl) ⟨Nat.le_of_ble_eq_true rfl, Nat.le_of_ble_eq_true rfl⟩ ⟨Nat.le_of_ble_eq_true rfl, Nat.le_of_ble_eq_true rfl⟩ d_C_hint_13 rfl ?_
        refine j_if_eq C 56 19 d_C_hint_16 rfl rfl (by omega) (fun c2 => ?_) (fun c2 => ?_)
        · refine j_iinc (q := 59) C 1 [(0, .ref (x 0)), (1, .int (iI (i + 1)))] rfl rfl (by decide) d_C_hint_56 rfl ?_
          refine j_goto C 2 d_C_hint_59 rfl ?_
          refine j_lv [0, 1] rfl ?_
          exact ih2 (i + 1) (by omega) (fun j h1 h2 => by rcases (show j < i ∨ j = i by omega) with h | h; exact i1 j h1 h; rw [h]; omega) (by omega)
        · refine j_aload_n (q := 20) C 0 rfl d_C_hint_19 rfl ?_
          refine j_get (q := 23) C i_C rfl 0 rfl 1 (by decide) rfl rfl fl_C_19 d_C_hint_20 rfl ?_
          refine j_iload_n (q := 24) C 1 rfl d_C_hint_23 rfl ?_
          have e24 := kpAt_r hKV i
          refine j_callV (q := 27) (wr := wC kI kZ x ++ wR kI kZ x RP RS rn) C [.int (iI (i))] [] (c_K_keptPlace kI kZ x KS KB KE KZ KV kn kw hK i (by omega)) ml_C_118 mk_K_keptPlace in_K_keptPlace se_K_keptPlace rfl rfl rfl [1, 2, 3, 4, 5, 6] [0, 7, 8, 9] [0, 4, 5, 6, 7, 8, 9, 1, 2, 3] rfl (by decide) rfl (by decide) (by decide) (wC kI kZ x ++ wK kI kZ x KS KB KE KZ KV kn kw ++ wR kI kZ x RP RS rn) rfl (by decide) rfl rfl rfl (Nat.le_of_ble_eq_true rfl) ⟨Nat.le_of_ble_eq_true rfl, Nat.le_of_ble_eq_true rfl⟩ ⟨Nat.le_of_ble_eq_true rfl, Nat.le_of_ble_eq_true rfl⟩ d_C_hint_24 rfl ?_
          refine j_iconst (q := 28) C d_C_hint_27 rfl ?_
          refine j_icmp_ne C 56 31 d_C_hint_28 rfl rfl (by omega) (by omega) (fun c3 => ?_) (fun c3 => ?_)
          · refine j_iinc (q := 59) C 1 [(0, .ref (x 0)), (1, .int (iI (i + 1)))] rfl rfl (by decide) d_C_hint_56 rfl ?_
            refine j_goto C 2 d_C_hint_59 rfl ?_
            refine j_lv [0, 1] rfl ?_
            exact ih2 (i + 1) (by omega) (fun j h1 h2 => by rcases (show j < i ∨ j = i by omega) with h | h; exact i1 j h1 h; rw [h]; omega) (by omega)
          · refine j_aload_n (q := 32) C 0 rfl d_C_hint_31 rfl ?_
            refine j_get (q := 35) C i_C rfl 0 rfl 3 (by decide) rfl rfl fl_C_33 d_C_hint_32 rfl ?_
            refine j_iload_n (q := 36) C 1 rfl d_C_hint_35 rfl ?_
            have e36 := cmP_r hR i
            refine j_callV (q := 39) (wr := wC kI kZ x ++ wK kI kZ x KS KB KE KZ KV kn kw) C [.int (iI (i))] [] (c_R_commonPlace kI kZ x RP RS rn hR i (by omega)) ml_C_121 mk_R_commonPlace in_R_commonPlace se_R_commonPlace rfl rfl rfl [7, 8, 9] [0, 1, 2, 3, 4, 5, 6] [0, 1, 2, 3, 4, 5, 6, 7, 8, 9] rfl (by decide) rfl (by decide) (by decide) (wC kI kZ x ++ wK kI kZ x KS KB KE KZ KV kn kw ++ wR kI kZ x RP RS rn) rfl (by decide) rfl rfl rfl (Nat.le_of_ble_eq_true rfl) ⟨Nat.le_of_ble_eq_true rfl, Nat.le_of_ble_eq_true rfl⟩ ⟨Nat.le_of_ble_eq_true rfl, Nat.le_of_ble_eq_true rfl⟩ d_C_hint_36 rfl ?_
            refine j_istore_n (q := 40) C [(0, .ref (x 0)), (1, .int (iI (i))), (2, .int (iI (cmP RP RS rn i)))] rfl (by decide) d_C_hint_39 rfl ?_
            refine j_iload_n (q := 41) C 2 rfl d_C_hint_40 rfl ?_
            refine j_iconst (q := 42) C d_C_hint_41 rfl ?_
            refine j_icmp_eq C 56 45 d_C_hint_42 rfl rfl (by omega) (by omega) (fun c4 => ?_) (fun c4 => ?_)
            · refine j_iinc (q := 59) C 1 [(0, .ref (x 0)), (1, .int (iI (i + 1))), (2, .int (iI (cmP RP RS rn i)))] rfl rfl (by decide) d_C_hint_56 rfl ?_
              refine j_goto C 2 d_C_hint_59 rfl ?_
              refine j_lv [0, 1] rfl ?_
              exact ih2 (i + 1) (by omega) (fun j h1 h2 => by rcases (show j < i ∨ j = i by omega) with h | h; exact i1 j h1 h; rw [h]; omega) (by omega)
            · refine j_aload_n (q := 46) C 0 rfl d_C_hint_45 rfl ?_
              refine j_get (q := 49) C i_C rfl 0 rfl 1 (by decide) rfl rfl fl_C_19 d_C_hint_46 rfl ?_
              refine j_iload_n (q := 50) C 1 rfl d_C_hint_49 rfl ?_
              refine j_iload_n (q := 51) C 2 rfl d_C_hint_50 rfl ?_
              refine j_callV (q := 54) (wr := wC kI kZ x ++ wR kI kZ x RP RS rn) C [.int (iI (i)), .int (iI (cmP RP RS rn i))] [] (c_K_keepPlace kI kZ x KS KB KE KZ KV kn kw hK i (cmP RP RS rn i) (by omega) (by omega)) ml_C_83 mk_K_keepPlace in_K_keepPlace se_K_keepPlace rfl rfl rfl [1, 2, 3, 4, 5, 6] [0, 7, 8, 9] [0, 4, 5, 6, 7, 8, 9, 1, 2, 3] rfl (by decide) rfl (by decide) (by decide) (wC kI kZ x ++ wK kI kZ x KS KB KE KZ (if 0 ≤ i ∧ i < 26 then uI KV i.toNat (cmP RP RS rn i) else KV) kn kw ++ wR kI kZ x RP RS rn) rfl (by decide) rfl rfl rfl (Nat.le_of_ble_eq_true rfl) ⟨Nat.le_of_ble_eq_true rfl, Nat.le_of_ble_eq_true rfl⟩ ⟨Nat.le_of_ble_eq_true rfl, Nat.le_of_ble_eq_true rfl⟩ d_C_hint_51 rfl ?_
              have f55 : hiC KZ KV RP RS rn = i := lst_at i0.1 (by omega) ⟨⟨by omega, by omega⟩, by omega⟩ i1
              refine j_iload_n (q := 55) C 1 rfl d_C_hint_54 rfl ?_
              first | (exfalso; omega) | exact j_iret C hr hlk d_C_hint_55 (congrArg (fun z => some (Value.int (iI z))) (show (if hiC KZ KV RP RS rn < 26 then hiC KZ KV RP RS rn else -1) = (i) from by rw [f55, if_pos (by omega)])) (by rw [f55, if_pos (by omega), if_pos (by omega)])
  exact lp2 27 0 (by omega) (fun j h1 h2 => by omega) (by omega)
set_option maxRecDepth 100000 in
set_option maxHeartbeats 4000000 in
theorem c_C_shiftedSum {l : Launch} {D : va_G} (kI kZ : ClassId) (x : Nat → Nat) (PW : Nat → Int) (hP : ∀ j, -1000 ≤ PW j ∧ PW j ≤ 1000) (XP : Nat → Int) (xn : Int) (hX : IX XP xn) (t0 : Int) (ht : 0 ≤ t0 ∧ t0 < 26) : Dt l D (ty2 kI kZ) y_C_shiftedSum w_C_shiftedSum { frames := 2, cells := 0, slots := 0, locals := 42 } [.ref (x 0), .int (iI (t0))] (wC kI kZ x ++ wP kI kZ x PW ++ wX kI kZ x XP xn) (some (.long (lI (shC PW XP xn t0)))) (wC kI kZ x ++ wP kI kZ x PW ++ wX kI kZ x XP xn) := by
  refine Met.toJ (own := R_C) (QD D (some (.long (lI (shC PW XP xn t0)))) (wC kI kZ x ++ wP kI kZ x PW ++ wX kI kZ x XP xn)) mk_C_shiftedSum rfl (Nat.le_of_ble_eq_true rfl) ?_
  intro p e s m args below meth c A C hr hlk hnm
  show JJ p l e { frames := 2, cells := 0, slots := 0, locals := 42 } s m args below meth c D A 7 (MQ below (QD D (some (.long (lI (shC PW XP xn t0)))) (wC kI kZ x ++ wP kI kZ x PW ++ wX kI kZ x XP xn) A) args s 0 0 A) 0 0 0 [(0, .ref (x 0)), (1, .int (iI (t0)))] [] (wC kI kZ x ++ wP kI kZ x PW ++ wX kI kZ x XP xn)
  obtain ⟨hxn, hXP⟩ := id hX
  refine j_lconst0 (q := 1) C d_C_shiftedSum_0 rfl ?_
  refine j_lstore_n (q := 2) C [(0, .ref (x 0)), (1, .int (iI (t0))), (2, .long (lI (0)))] rfl (by decide) d_C_shiftedSum_1 rfl ?_
  refine j_iconst (q := 3) C d_C_shiftedSum_2 rfl ?_
  refine j_istore (q := 5) C [(0, .ref (x 0)), (1, .int (iI (t0))), (2, .long (lI (0))), (4, .int (iI (1)))] rfl (by decide) d_C_shiftedSum_3 rfl ?_
  have lp5 : ∀ (N : Nat) (i t : Int), (1 ≤ i ∧ i ≤ 61 ∧ (i ≤ xn ∨ i = 1)) → (t = smI (shG PW XP xn t0) (i - 1).toNat) → (61 - i).toNat < N → JJ p l e { frames := 2, cells := 0, slots := 0, locals := 42 } s m args below meth c D A 7 (MQ below (QD D (some (.long (lI (shC PW XP xn t0)))) (wC kI kZ x ++ wP kI kZ x PW ++ wX kI kZ x XP xn) A) args s 0 0 A) 0 0 5 [(0, .ref (x 0)), (1, .int (iI (t0))), (2, .long (lI (t))), (4, .int (iI (i)))] [] (wC kI kZ x ++ wP kI kZ x PW ++ wX kI kZ x XP xn) := by
    intro N
    induction N with
    | zero =>
      intro i t i0 i1 hN
      omega
    | succ N ih5 =>
      intro i t i0 i1 hN
      refine j_iload (q := 7) C 3 rfl d_C_shiftedSum_5 rfl ?_
      refine j_aload_n (q := 8) C 0 rfl d_C_shiftedSum_7 rfl ?_
      refine j_get (q := 11) C i_C rfl 0 rfl 5 (by decide) rfl rfl fl_C_49 d_C_shiftedSum_8 rfl ?_
      refine j_callV (q := 14) (wr := wC kI kZ x ++ wP kI kZ x PW) C [] [.int (iI (i))] (c_X_size kI kZ x XP xn hX) ml_C_164 mk_X_size in_X_size se_X_size rfl rfl rfl [3, 4] [0, 1, 2] [0, 1, 2, 3, 4] rfl (by decide) rfl (by decide) (by decide) (wC kI kZ x ++ wP kI kZ x PW ++ wX kI kZ x XP xn) rfl (by decide) rfl rfl rfl (Nat.le_of_ble_eq_true rfl) ⟨Nat.le_of_ble_eq_true rfl, Nat.le_of_ble_eq_true rfl⟩ ⟨Nat.le_of_ble_eq_true rfl, Nat.le_of_ble_eq_true rfl⟩ d_C_shiftedSum_11 rfl ?_
      refine j_icmp_ge C 70 17 d_C_shiftedSum_14 rfl rfl (by omega) (by omega) (fun c1 => ?_) (fun c1 => ?_)
      · refine j_lload_n (q := 71) C 2 rfl d_C_shiftedSum_70 rfl ?_
        exact j_lret C hr hlk d_C_shiftedSum_71 (congrArg (fun z => some (Value.long (lI z))) (show (shC PW XP xn t0) = (t) from by unfold shC; rw [i1]; congr 1; omega)) rfl
      · refine j_aload_n (q := 18) C 0 rfl d_C_shiftedSum_17 rfl ?_
        refine j_get (q := 21) C i_C rfl 0 rfl 5 (by decide) rfl rfl fl_C_49 d_C_shiftedSum_18 rfl ?_
        refine j_iload (q := 23) C 3 rfl d_C_shiftedSum_21 rfl ?_
        refine j_iconst (q := 24) C d_C_shiftedSum_23 rfl ?_
        refine j_isub (q := 25) C d_C_shiftedSum_24 rfl ?_
        have e25 := sgAt_r hX.b xn (i - 1)
        refine j_callV (q := 28) (wr := wC kI kZ x ++ wP kI kZ x PW) C [.int (iI (i - 1))] [] (c_X_placeAt kI kZ x XP xn hX (i - 1) (by omega)) ml_C_128 mk_X_placeAt in_X_placeAt se_X_placeAt rfl rfl rfl [3, 4] [0, 1, 2] [0, 1, 2, 3, 4] rfl (by decide) rfl (by decide) (by decide) (wC kI kZ x ++ wP kI kZ x PW ++ wX kI kZ x XP xn) rfl (by decide) rfl rfl rfl (Nat.le_of_ble_eq_true rfl) ⟨Nat.le_of_ble_eq_true rfl, Nat.le_of_ble_eq_true rfl⟩ ⟨Nat.le_of_ble_eq_true rfl, Nat.le_of_ble_eq_true rfl⟩ d_C_shiftedSum_25 rfl ?_
        refine j_iload_n (q := 29) C 1 rfl d_C_shiftedSum_28 rfl ?_
        have g29 : 0 ≤ sgAt XP xn (i - 1) := by have := hXP (i - 1).toNat; unfold sgAt; rw [if_pos (by omega)]; omega
        have e29 : 0 ≤ ((sgAt XP xn (i - 1)) + t0) % 26 ∧ ((sgAt XP xn (i - 1)) + t0) % 26 < 26 := by omega
        refine j_callS (q := 32) (wr := wC kI kZ x ++ wP kI kZ x PW ++ wX kI kZ x XP xn) C [.int (iI (sgAt XP xn (i - 1))), .int (iI (t0))] [] (c_C_shiftedPlace kI kZ x (sgAt XP xn (i - 1)) t0 (by omega) (by omega)) ml_C_165 mk_C_shiftedPlace st_C_shiftedPlace [] [0, 1, 2, 3, 4] [0, 1, 2, 3, 4] rfl (by decide) rfl (by decide) (by decide) (wC kI kZ x ++ wP kI kZ x PW ++ wX kI kZ x XP xn) rfl (by decide) rfl rfl rfl (Nat.le_of_ble_eq_true rfl) ⟨Nat.le_of_ble_eq_true rfl, Nat.le_of_ble_eq_true rfl⟩ ⟨Nat.le_of_ble_eq_true rfl, Nat.le_of_ble_eq_true rfl⟩ d_C_shiftedSum_29 rfl ?_
        refine j_istore (q := 34) C [(0, .ref (x 0)), (1, .int (iI (t0))), (2, .long (lI (t))), (4, .int (iI (i))), (5, .int (iI (((sgAt XP xn (i - 1)) + t0) % 26)))] rfl (by decide) d_C_shiftedSum_32 rfl ?_
        refine j_aload_n (q := 35) C 0 rfl d_C_shiftedSum_34 rfl ?_
        refine j_get (q := 38) C i_C rfl 0 rfl 5 (by decide) rfl rfl fl_C_49 d_C_shiftedSum_35 rfl ?_
        refine j_iload (q := 40) C 3 rfl d_C_shiftedSum_38 rfl ?_
        have e40 := sgAt_r hX.b xn i
        refine j_callV (q := 43) (wr := wC kI kZ x ++ wP kI kZ x PW) C [.int (iI (i))] [] (c_X_placeAt kI kZ x XP xn hX i (by omega)) ml_C_128 mk_X_placeAt in_X_placeAt se_X_placeAt rfl rfl rfl [3, 4] [0, 1, 2] [0, 1, 2, 3, 4] rfl (by decide) rfl (by decide) (by decide) (wC kI kZ x ++ wP kI kZ x PW ++ wX kI kZ x XP xn) rfl (by decide) rfl rfl rfl (Nat.le_of_ble_eq_true rfl) ⟨Nat.le_of_ble_eq_true rfl, Nat.le_of_ble_eq_true rfl⟩ ⟨Nat.le_of_ble_eq_true rfl, Nat.le_of_ble_eq_true rfl⟩ d_C_shiftedSum_40 rfl ?_
        refine j_iload_n (q := 44) C 1 rfl d_C_shiftedSum_43 rfl ?_
        have g44 : 0 ≤ sgAt XP xn i := by have := hXP i.toNat; unfold sgAt; rw [if_pos (by omega)]; omega
        have e44 : 0 ≤ ((sgAt XP xn i) + t0) % 26 ∧ ((sgAt XP xn i) + t0) % 26 < 26 := by omega
        refine j_callS (q := 47) (wr := wC kI kZ x ++ wP kI kZ x PW ++ wX kI kZ x XP xn) C [.int (iI (sgAt XP xn i)), .int (iI (t0))] [] (c_C_shiftedPlace kI kZ x (sgAt XP xn i) t0 (by omega) (by omega)) ml_C_165 mk_C_shiftedPlace st_C_shiftedPlace [] [0, 1, 2, 3, 4] [0, 1, 2, 3, 4] rfl (by decide) rfl (by decide) (by decide) (wC kI kZ x ++ wP kI kZ x PW ++ wX kI kZ x XP xn) rfl (by decide) rfl rfl rfl (Nat.le_of_ble_eq_true rfl) ⟨Nat.le_of_ble_eq_true rfl, Nat.le_of_ble_eq_true rfl⟩ ⟨Nat.le_of_ble_eq_true rfl, Nat.le_of_ble_eq_true rfl⟩ d_C_shiftedSum_44 rfl ?_
        refine j_istore (q := 49) C [(0, .ref (x 0)), (1, .int (iI (t0))), (2, .long (lI (t))), (4, .int (iI (i))), (5, .int (iI (((sgAt XP xn (i - 1)) + t0) % 26))), (6, .int (iI (((sgAt XP xn i) + t0) % 26)))] rfl (by decide) d_C_shiftedSum_47 rfl ?_
        refine j_lload_n (q := 50) C 2 rfl d_C_shiftedSum_49 rfl ?_
        refine j_aload_n (q := 51) C 0 rfl d_C_shiftedSum_50 rfl ?_
        refine j_get (q := 54) C i_C rfl 0 rfl 2 (by decide) rfl rfl fl_C_26 d_C_shiftedSum_51 rfl ?_
        refine j_iload (q := 56) C 4 rfl d_C_shiftedSum_54 rfl ?_
        refine j_iload (q := 58) C 5 rfl d_C_shiftedSum_56 rfl ?_
        have e58 := wtOf_r hP (((sgAt XP xn (i - 1)) + t0) % 26) (((sgAt XP xn i) + t0) % 26)
        refine j_callV (q := 61) (wr := wC kI kZ x ++ wX kI kZ x XP xn) C [.int (iI (((sgAt XP xn (i - 1)) + t0) % 26)), .int (iI (((sgAt XP xn i) + t0) % 26))] [.long (lI (t))] (c_P_weightOf kI kZ x PW hP (((sgAt XP xn (i - 1)) + t0) % 26) (((sgAt XP xn i) + t0) % 26) (by omega) (by omega)) ml_C_161 mk_P_weightOf in_P_weightOf se_P_weightOf rfl rfl rfl [1, 2] [0, 3, 4] [0, 3, 4, 1, 2] rfl (by decide) rfl (by decide) (by decide) (wC kI kZ x ++ wP kI kZ x PW ++ wX kI kZ x XP xn) rfl (by decide) rfl rfl rfl (Nat.le_of_ble_eq_true rfl) ⟨Nat.le_of_ble_eq_true rfl, Nat.le_of_ble_eq_true rfl⟩ ⟨Nat.le_of_ble_eq_true rfl, Nat.le_of_ble_eq_true rfl⟩ d_C_shiftedSum_58 rfl ?_
        refine j_i2l (q := 62) C (by omega) d_C_shiftedSum_61 rfl ?_
        refine j_ladd (q := 63) C d_C_shiftedSum_62 rfl ?_
        refine j_lstore_n (q := 64) C [(0, .ref (x 0)), (1, .int (iI (t0))), (2, .long (lI (t + (wtOf PW (((sgAt XP xn (i - 1)) + t0) % 26) (((sgAt XP xn i) + t0) % 26))))), (4, .int (iI (i))), (5, .int (iI (((sgAt XP xn (i - 1)) + t0) % 26))), (6, .int (iI (((sgAt XP xn i) + t0) % 26)))] rfl (by decide) d_C_shiftedSum_63 rfl ?_
        refine j_iinc (q := 67) C 3 [(0, .ref (x 0)), (1, .int (iI (t0))), (2, .long (lI (t + (wtOf PW (((sgAt XP xn (i - 1)) + t0) % 26) (((sgAt XP xn i) + t0) % 26))))), (4, .int (iI (i + 1))), (5, .int (iI (((sgAt XP xn (i - 1)) + t0) % 26))), (6, .int (iI (((sgAt XP xn i) + t0) % 26)))] rfl rfl (by decide) d_C_shiftedSum_64 rfl ?_
        refine j_goto C 5 d_C_shiftedSum_67 rfl ?_
        refine j_lv [0, 1, 2, 3] rfl ?_
        exact ih5 (i + 1) _ (by omega) (by rw [show i + 1 - 1 = i from by omega, smI_s _ i0.1, ← i1]; rfl) (by omega)
  exact lp5 61 1 0 (by omega) rfl (by omega)
set_option maxRecDepth 100000 in
set_option maxHeartbeats 4000000 in
theorem c_C_bestShift {l : Launch} {D : va_G} (kI kZ : ClassId) (x : Nat → Nat) (PW : Nat → Int) (hP : ∀ j, -1000 ≤ PW j ∧ PW j ≤ 1000) (XP : Nat → Int) (xn : Int) (hX : IX XP xn) : Dt l D (ty2 kI kZ) y_C_bestShift w_C_bestShift { frames := 3, cells := 0, slots := 0, locals := 68 } [.ref (x 0)] (wC kI kZ x ++ wP kI kZ x PW ++ wX kI kZ x XP xn) (some (.int (iI ((bsI (shC PW XP xn) 26).1)))) (wC kI kZ x ++ wP kI kZ x PW ++ wX kI kZ x XP xn) := by
  refine Met.toJ (own := R_C) (QD D (some (.int (iI ((bsI (shC PW XP xn) 26).1)))) (wC kI kZ x ++ wP kI kZ x PW ++ wX kI kZ x XP xn)) mk_C_bestShift rfl (Nat.le_of_ble_eq_true rfl) ?_
  intro p e s m args below meth c A C hr hlk hnm
  show JJ p l e { frames := 3, cells := 0, slots := 0, locals := 68 } s m args below meth c D A 7 (MQ below (QD D (some (.int (iI ((bsI (shC PW XP xn) 26).1)))) (wC kI kZ x ++ wP kI kZ x PW ++ wX kI kZ x XP xn) A) args s 0 0 A) 0 0 0 [(0, .ref (x 0))] [] (wC kI kZ x ++ wP kI kZ x PW ++ wX kI kZ x XP xn)
  obtain ⟨hxn, hXP⟩ := id hX
  refine j_iconst (q := 1) C d_C_bestShift_0 rfl ?_
  refine j_istore_n (q := 2) C [(0, .ref (x 0)), (1, .int (iI (0)))] rfl (by decide) d_C_bestShift_1 rfl ?_
  refine j_aload_n (q := 3) C 0 rfl d_C_bestShift_2 rfl ?_
  refine j_iconst (q := 4) C d_C_bestShift_3 rfl ?_
  have e4 := shC_r (XP := XP) hP hxn (0 : Int)
  refine j_callV (q := 7) (wr := []) C [.int (iI (0))] [] (c_C_shiftedSum kI kZ x PW hP XP xn hX 0 (by omega)) ml_C_139 mk_C_shiftedSum in_C_shiftedSum se_C_shiftedSum rfl rfl rfl [0, 1, 2, 3, 4] [] [0, 1, 2, 3, 4] rfl (by decide) rfl (by decide) (by decide) (wC kI kZ x ++ wP kI kZ x PW ++ wX kI kZ x XP xn) rfl (by decide) rfl rfl rfl (Nat.le_of_ble_eq_true rfl) ⟨Nat.le_of_ble_eq_true rfl, Nat.le_of_ble_eq_true rfl⟩ ⟨Nat.le_of_ble_eq_true rfl, Nat.le_of_ble_eq_true rfl⟩ d_C_bestShift_4 rfl ?_
  refine j_lstore_n (q := 8) C [(0, .ref (x 0)), (1, .int (iI (0))), (2, .long (lI (shC PW XP xn 0)))] rfl (by decide) d_C_bestShift_7 rfl ?_
  refine j_iconst (q := 9) C d_C_bestShift_8 rfl ?_
  refine j_istore (q := 11) C [(0, .ref (x 0)), (1, .int (iI (0))), (2, .long (lI (shC PW XP xn 0))), (4, .int (iI (1)))] rfl (by decide) d_C_bestShift_9 rfl ?_
  have lp11 : ∀ (N : Nat) (i b t : Int), (1 ≤ i ∧ i ≤ 26) → ((b, t) = bsI (shC PW XP xn) i.toNat) → ((0 ≤ b ∧ b ≤ i) ∧ (-100000 ≤ t ∧ t ≤ 100000)) → (26 - i).toNat < N → JJ p l e { frames := 3, cells := 0, slots := 0, locals := 68 } s m args below meth c D A 7 (MQ below (QD D (some (.int (iI ((bsI (shC PW XP xn) 26).1)))) (wC kI kZ x ++ wP kI kZ x PW ++ wX kI kZ x XP xn) A) args s 0 0 A) 0 0 11 [(0, .ref (x 0)), (1, .int (iI (b))), (2, .long (lI (t))), (4, .int (iI (i)))] [] (wC kI kZ x ++ wP kI kZ x PW ++ wX kI kZ x XP xn) := by
    intro N
    induction N with
    | zero =>
      intro i b t i0 i1 i2 hN
      omega
    | succ N ih11 =>
      intro i b t i0 i1 i2 hN
      refine j_iload (q := 13) C 3 rfl d_C_bestShift_11 rfl ?_
      refine j_bipush (q := 15) C d_C_bestShift_13 rfl rfl ?_
      refine j_icmp_ge C 45 18 d_C_bestShift_15 rfl rfl (by omega) (by omega) (fun c1 => ?_) (fun c1 => ?_)
      · refine j_iload_n (q := 46) C 1 rfl d_C_bestShift_45 rfl ?_
        exact j_iret C hr hlk d_C_bestShift_46 (congrArg (fun z => some (Value.int (iI z))) (show ((bsI (shC PW XP xn) 26).1) = (b) from by rw [show (26 : Nat) = i.toNat from by omega, ← i1])) rfl
      · refine j_aload_n (q := 19) C 0 rfl d_C_bestShift_18 rfl ?_
        refine j_iload (q := 21) C 3 rfl d_C_bestShift_19 rfl ?_
        have e21 := shC_r (XP := XP) hP hxn i
        refine j_callV (q := 24) (wr := []) C [.int (iI (i))] [] (c_C_shiftedSum kI kZ x PW hP XP xn hX i (by omega)) ml_C_139 mk_C_shiftedSum in_C_shiftedSum se_C_shiftedSum rfl rfl rfl [0, 1, 2, 3, 4] [] [0, 1, 2, 3, 4] rfl (by decide) rfl (by decide) (by decide) (wC kI kZ x ++ wP kI kZ x PW ++ wX kI kZ x XP xn) rfl (by decide) rfl rfl rfl (Nat.le_of_ble_eq_true rfl) ⟨Nat.le_of_ble_eq_true rfl, Nat.le_of_ble_eq_true rfl⟩ ⟨Nat.le_of_ble_eq_true rfl, Nat.le_of_ble_eq_true rfl⟩ d_C_bestShift_21 rfl ?_
        refine j_lstore (q := 26) C [(0, .ref (x 0)), (1, .int (iI (b))), (2, .long (lI (t))), (4, .int (iI (i))), (5, .long (lI (shC PW XP xn i)))] rfl (by decide) d_C_bestShift_24 rfl ?_
        refine j_lload (q := 28) C 4 rfl d_C_bestShift_26 rfl ?_
        refine j_lload_n (q := 29) C 2 rfl d_C_bestShift_28 rfl ?_
        refine j_lcmp (q := 30) C (by omega) (by omega) d_C_bestShift_29 rfl ?_
        have r30 : -1 ≤ (if t < shC PW XP xn i then (1 : Int) else if shC PW XP xn i = t then 0 else -1) ∧ (if t < shC PW XP xn i then (1 : Int) else if shC PW XP xn i = t then 0 else -1) ≤ 1 := by split <;> (try split) <;> omega
        refine j_if_le C 39 33 d_C_bestShift_30 rfl rfl (by omega) (fun c2 => ?_) (fun c2 => ?_)
        · have c2 : shC PW XP xn i ≤ t := by split at c2 <;> (try split at c2) <;> omega
          refine j_iinc (q := 42) C 3 [(0, .ref (x 0)), (1, .int (iI (b))), (2, .long (lI (t))), (4, .int (iI (i + 1))), (5, .long (lI (shC PW XP xn i)))] rfl rfl (by decide) d_C_bestShift_39 rfl ?_
          refine j_goto C 11 d_C_bestShift_42 rfl ?_
          refine j_lv [0, 1, 2, 3] rfl ?_
          exact ih11 (i + 1) _ _ (by omega) (by rw [bsI_s _ (show 0 ≤ i by omega), ← i1]; first | rw [if_pos (by dsimp only; omega)] | rw [if_neg (by dsimp only; omega)]) (by omega) (by omega)
        · have c2 : t < shC PW XP xn i := by split at c2 <;> (try split at c2) <;> omega
          refine j_iload (q := 35) C 3 rfl d_C_bestShift_33 rfl ?_
          refine j_istore_n (q := 36) C [(0, .ref (x 0)), (1, .int (iI (i))), (2, .long (lI (t))), (4, .int (iI (i))), (5, .long (lI (shC PW XP xn i)))] rfl (by decide) d_C_bestShift_35 rfl ?_
          refine j_lload (q := 38) C 4 rfl d_C_bestShift_36 rfl ?_
          refine j_lstore_n (q := 39) C [(0, .ref (x 0)), (1, .int (iI (i))), (2, .long (lI (shC PW XP xn i))), (4, .int (iI (i))), (5, .long (lI (shC PW XP xn i)))] rfl (by decide) d_C_bestShift_38 rfl ?_
          refine j_iinc (q := 42) C 3 [(0, .ref (x 0)), (1, .int (iI (i))), (2, .long (lI (shC PW XP xn i))), (4, .int (iI (i + 1))), (5, .long (lI (shC PW XP xn i)))] rfl rfl (by decide) d_C_bestShift_39 rfl ?_
          refine j_goto C 11 d_C_bestShift_42 rfl ?_
          refine j_lv [0, 1, 2, 3] rfl ?_
          exact ih11 (i + 1) _ _ (by omega) (by rw [bsI_s _ (show 0 ≤ i by omega), ← i1]; first | rw [if_pos (by dsimp only; omega)] | rw [if_neg (by dsimp only; omega)]) (by omega) (by omega)
  exact lp11 26 1 0 _ (by omega) rfl (by omega) (by omega)
