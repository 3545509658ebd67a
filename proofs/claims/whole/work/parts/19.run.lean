/-- the letters kept, given to the numbers in the code: letters, letters taken, 0 when two have one letter -/
def bgF (KZ KV : Nat → Int) (f0 t0 : Nat → Int) : Nat → ((Nat → Int) × (Nat → Int)) × Int
  | 0 => ((f0, t0), 1)
  | i + 1 => if (bgF KZ KV f0 t0 i).2 = 0 then bgF KZ KV f0 t0 i else if ¬ ctK KZ i = 0 ∧ (0 ≤ kpAt KV i ∧ kpAt KV i < 26) then (if (bgF KZ KV f0 t0 i).1.2 (kpAt KV i).toNat = 0 then ((uI (bgF KZ KV f0 t0 i).1.1 (i : Int).toNat (kpAt KV i), uI (bgF KZ KV f0 t0 i).1.2 (kpAt KV i).toNat 1), 1) else ((bgF KZ KV f0 t0 i).1, 0)) else bgF KZ KV f0 t0 i
theorem bgF_1 (KZ KV f0 t0 : Nat → Int) (i : Nat) : bgF KZ KV f0 t0 (i + 1) = if (bgF KZ KV f0 t0 i).2 = 0 then bgF KZ KV f0 t0 i else if ¬ ctK KZ i = 0 ∧ (0 ≤ kpAt KV i ∧ kpAt KV i < 26) then (if (bgF KZ KV f0 t0 i).1.2 (kpAt KV i).toNat = 0 then ((uI (bgF KZ KV f0 t0 i).1.1 (i : Int).toNat (kpAt KV i), uI (bgF KZ KV f0 t0 i).1.2 (kpAt KV i).toNat 1), 1) else ((bgF KZ KV f0 t0 i).1, 0)) else bgF KZ KV f0 t0 i := rfl
theorem bgF_s (KZ KV f0 t0 : Nat → Int) {i : Int} (h : 0 ≤ i) : bgF KZ KV f0 t0 (i + 1).toNat = if (bgF KZ KV f0 t0 i.toNat).2 = 0 then bgF KZ KV f0 t0 i.toNat else if ¬ ctK KZ i = 0 ∧ (0 ≤ kpAt KV i ∧ kpAt KV i < 26) then (if (bgF KZ KV f0 t0 i.toNat).1.2 (kpAt KV i).toNat = 0 then ((uI (bgF KZ KV f0 t0 i.toNat).1.1 i.toNat (kpAt KV i), uI (bgF KZ KV f0 t0 i.toNat).1.2 (kpAt KV i).toNat 1), 1) else ((bgF KZ KV f0 t0 i.toNat).1, 0)) else bgF KZ KV f0 t0 i.toNat := by
  obtain ⟨n, rfl⟩ := Int.eq_ofNat_of_zero_le h
  rfl
theorem bgF_z {KZ KV f0 t0 : Nat → Int} {i : Nat} (h : (bgF KZ KV f0 t0 i).2 = 0) (k : Nat) : bgF KZ KV f0 t0 (i + k) = bgF KZ KV f0 t0 i := by
  induction k with
  | zero => rfl
  | succ k ih =>
    rw [show i + (k + 1) = (i + k) + 1 from rfl, bgF_1, if_pos (by rw [ih]; exact h)]
    exact ih
theorem bgF_r {KZ KV f0 t0 : Nat → Int} (h1 : ∀ j, -1 ≤ f0 j ∧ f0 j < 26) (h2 : ∀ j, 0 ≤ t0 j ∧ t0 j ≤ 1) (i : Nat) : ((∀ j, -1 ≤ (bgF KZ KV f0 t0 i).1.1 j ∧ (bgF KZ KV f0 t0 i).1.1 j < 26) ∧ ∀ j, 0 ≤ (bgF KZ KV f0 t0 i).1.2 j ∧ (bgF KZ KV f0 t0 i).1.2 j ≤ 1) ∧ (0 ≤ (bgF KZ KV f0 t0 i).2 ∧ (bgF KZ KV f0 t0 i).2 ≤ 1) := by
  induction i with
  | zero => exact ⟨⟨h1, h2⟩, by show 0 ≤ (1 : Int) ∧ (1 : Int) ≤ 1; omega⟩
  | succ i ih =>
    rw [bgF_1]
    split
    · exact ih
    · split
      · split
        · refine ⟨⟨fun j => ?_, fun j => ?_⟩, by show 0 ≤ (1 : Int) ∧ (1 : Int) ≤ 1; omega⟩
          · have := ih.1.1 j; show -1 ≤ uI _ _ _ j ∧ uI _ _ _ j < 26; unfold uI; split <;> omega
          · have := ih.1.2 j; show 0 ≤ uI _ _ _ j ∧ uI _ _ _ j ≤ 1; unfold uI; split <;> omega
        · exact ⟨ih.1, by show 0 ≤ (0 : Int) ∧ (0 : Int) ≤ 1; omega⟩
      · exact ih

set_option maxRecDepth 100000 in
set_option maxHeartbeats 4000000 in
theorem c_S_beginWithKept {l : Launch} {D : va_G} (kI kZ : ClassId) (x : Nat → Nat) (σ : T4) (hσ : I4 σ) (sa sm sf ss : Int) (KS KB KE KZ KV : Nat → Int) (kn kw : Int) (hK : IK KS KB KE KZ KV kn kw) : Dt l D (ty2 kI kZ) y_S_beginWithKept w_S_beginWithKept { frames := 2, cells := 0, slots := 0, locals := 41 } [.ref (x 16)] (wS kI kZ x σ.2.1 σ.2.2.1 σ.2.2.2 sa sm sf ss ++ wY kI kZ x σ.1 ++ wK kI kZ x KS KB KE KZ KV kn kw) (some (.int (iI ((bgF KZ KV (zrB σ.1 (-1)) (zrB σ.2.1 0) 26).2)))) (wS kI kZ x ((bgF KZ KV (zrB σ.1 (-1)) (zrB σ.2.1 0) 26).1.2) σ.2.2.1 0 sa sm sf ss ++ wY kI kZ x ((bgF KZ KV (zrB σ.1 (-1)) (zrB σ.2.1 0) 26).1.1) ++ wK kI kZ x KS KB KE KZ KV kn kw) := by
  refine Met.toJ (own := R_S) (QD D (some (.int (iI ((bgF KZ KV (zrB σ.1 (-1)) (zrB σ.2.1 0) 26).2)))) (wS kI kZ x ((bgF KZ KV (zrB σ.1 (-1)) (zrB σ.2.1 0) 26).1.2) σ.2.2.1 0 sa sm sf ss ++ wY kI kZ x ((bgF KZ KV (zrB σ.1 (-1)) (zrB σ.2.1 0) 26).1.1) ++ wK kI kZ x KS KB KE KZ KV kn kw)) mk_S_beginWithKept rfl (Nat.le_of_ble_eq_true rfl) ?_
  intro p e s m args below meth c A C hr hlk hnm
  show JJ p l e { frames := 2, cells := 0, slots := 0, locals := 41 } s m args below meth c D A 3 (MQ below (QD D (some (.int (iI ((bgF KZ KV (zrB σ.1 (-1)) (zrB σ.2.1 0) 26).2)))) (wS kI kZ x ((bgF KZ KV (zrB σ.1 (-1)) (zrB σ.2.1 0) 26).1.2) σ.2.2.1 0 sa sm sf ss ++ wY kI kZ x ((bgF KZ KV (zrB σ.1 (-1)) (zrB σ.2.1 0) 26).1.1) ++ wK kI kZ x KS KB KE KZ KV kn kw) A) args s 0 0 A) 0 0 0 [(0, .ref (x 16))] [] (wS kI kZ x σ.2.1 σ.2.2.1 σ.2.2.2 sa sm sf ss ++ wY kI kZ x σ.1 ++ wK kI kZ x KS KB KE KZ KV kn kw)
  obtain ⟨hY, hST, hSG, hsg⟩ := id hσ
  obtain ⟨hkn, hkw, hKS, hKB, hKE, hKZ, hKV⟩ := id hK
  refine j_aload_n (q := 1) C 0 rfl d_S_beginWithKept_0 rfl ?_
  refine j_iconst (q := 2) C d_S_beginWithKept_1 rfl ?_
  refine j_put (q := 5) (ty := .int) C i_S rfl t_S t_S_ok n_S 0 rfl 6 (by decide) rfl fl_S_22 rfl (by decide +kernel) rfl rfl (Nat.le_of_ble_eq_true rfl) (wS kI kZ x σ.2.1 σ.2.2.1 0 sa sm sf ss ++ wY kI kZ x σ.1 ++ wK kI kZ x KS KB KE KZ KV kn kw) rfl d_S_beginWithKept_2 rfl ?_
  refine j_aload_n (q := 6) C 0 rfl d_S_beginWithKept_5 rfl ?_
  refine j_get (q := 9) C i_S rfl 0 rfl 3 (by decide) rfl rfl fl_S_9 d_S_beginWithKept_6 rfl ?_
  refine j_iconst (q := 10) C d_S_beginWithKept_9 rfl ?_
  refine j_callS (q := 13) (wr := wS kI kZ x σ.2.1 σ.2.2.1 0 sa sm sf ss ++ wK kI kZ x KS KB KE KZ KV kn kw) C [.ref (x 17), .int (iI (-1))] [] (c_A_fill kI kZ x σ.1 (-1)) ml_S_64 mk_A_fill st_A_fill [3] [0, 1, 2, 4, 5, 6, 7, 8, 9] [0, 1, 2, 9, 3, 4, 5, 6, 7, 8] rfl (by decide) rfl (by decide) (by decide) (wS kI kZ x σ.2.1 σ.2.2.1 0 sa sm sf ss ++ wY kI kZ x (zrB σ.1 (-1)) ++ wK kI kZ x KS KB KE KZ KV kn kw) rfl (by decide) rfl rfl rfl (Nat.le_of_ble_eq_true rfl) ⟨Nat.le_of_ble_eq_true rfl, Nat.le_of_ble_eq_true rfl⟩ ⟨Nat.le_of_ble_eq_true rfl, Nat.le_of_ble_eq_true rfl⟩ d_S_beginWithKept_10 rfl ?_
  refine j_iconst (q := 14) C d_S_beginWithKept_13 rfl ?_
  refine j_istore_n (q := 15) C [(0, .ref (x 16)), (1, .int (iI (0)))] rfl (by decide) d_S_beginWithKept_14 rfl ?_
  have lp15 : ∀ (N : Nat) (i : Int) (T : Nat → Int), (0 ≤ i ∧ i ≤ 26) → (∀ j : Nat, T j = if (j : Int) < i then 0 else σ.2.1 j) → (26 - i).toNat < N → JJ p l e { frames := 2, cells := 0, slots := 0, locals := 41 } s m args below meth c D A 3 (MQ below (QD D (some (.int (iI ((bgF KZ KV (zrB σ.1 (-1)) (zrB σ.2.1 0) 26).2)))) (wS kI kZ x ((bgF KZ KV (zrB σ.1 (-1)) (zrB σ.2.1 0) 26).1.2) σ.2.2.1 0 sa sm sf ss ++ wY kI kZ x ((bgF KZ KV (zrB σ.1 (-1)) (zrB σ.2.1 0) 26).1.1) ++ wK kI kZ x KS KB KE KZ KV kn kw) A) args s 0 0 A) 0 0 15 [(0, .ref (x 16)), (1, .int (iI (i)))] [] (wS kI kZ x T σ.2.2.1 0 sa sm sf ss ++ wY kI kZ x (zrB σ.1 (-1)) ++ wK kI kZ x KS KB KE KZ KV kn kw) := by
    intro N
    induction N with
    | zero =>
      intro i T i0 i1 hN
      omega
    | succ N ih15 =>
      intro i T i0 i1 hN
      refine j_iload_n (q := 16) C 1 rfl d_S_beginWithKept_15 rfl ?_
      refine j_bipush (q := 18) C d_S_beginWithKept_16 rfl rfl ?_
      refine j_icmp_ge C 34 21 d_S_beginWithKept_18 rfl rfl (by omega) (by omega) (fun c1 => ?_) (fun c1 => ?_)
      · obtain rfl : T = zrB σ.2.1 0 := by funext j; rw [i1 j]; unfold zrB; split <;> split <;> first | rfl | omega
        refine j_iconst (q := 35) C d_S_beginWithKept_34 rfl ?_
        refine j_istore_n (q := 36) C [(0, .ref (x 16)), (1, .int (iI (0)))] rfl (by decide) d_S_beginWithKept_35 rfl ?_
        have lp36 : ∀ (N : Nat) (j0 : Int) (τ : (Nat → Int) × (Nat → Int)), (0 ≤ j0 ∧ j0 ≤ 26) → ((τ, (1 : Int)) = bgF KZ KV (zrB σ.1 (-1)) (zrB σ.2.1 0) j0.toNat) → ((∀ j, -1 ≤ τ.1 j ∧ τ.1 j < 26) ∧ ∀ j, 0 ≤ τ.2 j ∧ τ.2 j ≤ 1) → (26 - j0).toNat < N → JJ p l e { frames := 2, cells := 0, slots := 0, locals := 41 } s m args below meth c D A 3 (MQ below (QD D (some (.int (iI ((bgF KZ KV (zrB σ.1 (-1)) (zrB σ.2.1 0) 26).2)))) (wS kI kZ x ((bgF KZ KV (zrB σ.1 (-1)) (zrB σ.2.1 0) 26).1.2) σ.2.2.1 0 sa sm sf ss ++ wY kI kZ x ((bgF KZ KV (zrB σ.1 (-1)) (zrB σ.2.1 0) 26).1.1) ++ wK kI kZ x KS KB KE KZ KV kn kw) A) args s 0 0 A) 0 0 36 [(0, .ref (x 16)), (1, .int (iI (j0)))] [] (wS kI kZ x τ.2 σ.2.2.1 0 sa sm sf ss ++ wY kI kZ x τ.1 ++ wK kI kZ x KS KB KE KZ KV kn kw) := by
          intro N
          induction N with
          | zero =>
            intro j0 τ j0r j1 j2 hN
            omega
          | succ N ih36 =>
            intro j0 τ j0r j1 j2 hN
            refine j_iload_n (q := 37) C 1 rfl d_S_beginWithKept_36 rfl ?_
            refine j_bipush (q := 39) C d_S_beginWithKept_37 rfl rfl ?_
            refine j_icmp_ge C 100 42 d_S_beginWithKept_39 rfl rfl (by omega) (by omega) (fun c2 => ?_) (fun c2 => ?_)
            · refine j_iconst (q := 101) C d_S_beginWithKept_100 rfl ?_
              first | (exfalso; omega) | exact j_zret C hr hlk (by omega) d_S_beginWithKept_101 (congrArg (fun z => some (Value.int (iI z))) (show ((bgF KZ KV (zrB σ.1 (-1)) (zrB σ.2.1 0) 26).2) = (1) from by rw [show (26 : Nat) = j0.toNat from by omega, ← j1])) (by rw [show (26 : Nat) = j0.toNat from by omega, ← j1])
            · refine j_aload_n (q := 43) C 0 rfl d_S_beginWithKept_42 rfl ?_
              refine j_get (q := 46) C i_S rfl 0 rfl 1 (by decide) rfl rfl fl_S_43 d_S_beginWithKept_43 rfl ?_
              refine j_iload_n (q := 47) C 1 rfl d_S_beginWithKept_46 rfl ?_
              have e47 := kpAt_r hKV j0
              refine j_callV (q := 50) (wr := wS kI kZ x τ.2 σ.2.2.1 0 sa sm sf ss ++ wY kI kZ x τ.1) C [.int (iI (j0))] [] (c_K_keptPlace kI kZ x KS KB KE KZ KV kn kw hK j0 (by omega)) ml_S_70 mk_K_keptPlace in_K_keptPlace se_K_keptPlace rfl rfl rfl [4, 5, 6, 7, 8, 9] [0, 1, 2, 3] [0, 1, 2, 3, 4, 5, 6, 7, 8, 9] rfl (by decide) rfl (by decide) (by decide) (wS kI kZ x τ.2 σ.2.2.1 0 sa sm sf ss ++ wY kI kZ x τ.1 ++ wK kI kZ x KS KB KE KZ KV kn kw) rfl (by decide) rfl rfl rfl (Nat.le_of_ble_eq_true rfl) ⟨Nat.le_of_ble_eq_true rfl, Nat.le_of_ble_eq_true rfl⟩ ⟨Nat.le_of_ble_eq_true rfl, Nat.le_of_ble_eq_true rfl⟩ d_S_beginWithKept_47 rfl ?_
              refine j_istore_n (q := 51) C [(0, .ref (x 16)), (1, .int (iI (j0))), (2, .int (iI (kpAt KV j0)))] rfl (by decide) d_S_beginWithKept_50 rfl ?_
              refine j_aload_n (q := 52) C 0 rfl d_S_beginWithKept_51 rfl ?_
              refine j_get (q := 55) C i_S rfl 0 rfl 1 (by decide) rfl rfl fl_S_43 d_S_beginWithKept_52 rfl ?_
              refine j_iload_n (q := 56) C 1 rfl d_S_beginWithKept_55 rfl ?_
              have e56 := ctK_r KZ j0
              refine j_callV (q := 59) (wr := wS kI kZ x τ.2 σ.2.2.1 0 sa sm sf ss ++ wY kI kZ x τ.1) C [.int (iI (j0))] [] (c_K_contains kI kZ x KS KB KE KZ KV kn kw hK j0 (by omega)) ml_S_76 mk_K_contains in_K_contains se_K_contains rfl rfl rfl [4, 5, 6, 7, 8, 9] [0, 1, 2, 3] [0, 1, 2, 3, 4, 5, 6, 7, 8, 9] rfl (by decide) rfl (by decide) (by decide) (wS kI kZ x τ.2 σ.2.2.1 0 sa sm sf ss ++ wY kI kZ x τ.1 ++ wK kI kZ x KS KB KE KZ KV kn kw) rfl (by decide) rfl rfl rfl (Nat.le_of_ble_eq_true rfl) ⟨Nat.le_of_ble_eq_true rfl, Nat.le_of_ble_eq_true rfl⟩ ⟨Nat.le_of_ble_eq_true rfl, Nat.le_of_ble_eq_true rfl⟩ d_S_beginWithKept_56 rfl ?_
              refine j_if_eq C 94 62 d_S_beginWithKept_59 rfl rfl (by omega) (fun c3 => ?_) (fun c3 => ?_)
              · refine j_iinc (q := 97) C 1 [(0, .ref (x 16)), (1, .int (iI (j0 + 1))), (2, .int (iI (kpAt KV j0)))] rfl rfl (by decide) d_S_beginWithKept_94 rfl ?_
                refine j_goto C 36 d_S_beginWithKept_97 rfl ?_
                refine j_lv [0, 1] rfl ?_
                exact ih36 (j0 + 1) (τ.1, τ.2) (by omega) (by rw [bgF_s _ _ _ _ j0r.1, ← j1, if_neg (show ¬ (1 : Int) = 0 by decide)]; first | rw [if_neg (by omega)] | rw [if_pos (by omega), if_pos (by show τ.2 (kpAt KV j0).toNat = 0; omega)]) ⟨fun j => j2.1 j, fun j => j2.2 j⟩ (by omega)
              · refine j_iload_n (q := 63) C 2 rfl d_S_beginWithKept_62 rfl ?_
                have e63 := bP_r (kpAt KV j0)
                refine j_callN (q := 66) (wr := wS kI kZ x τ.2 σ.2.2.1 0 sa sm sf ss ++ wY kI kZ x τ.1 ++ wK kI kZ x KS KB KE KZ KV kn kw) C [.int (iI (kpAt KV j0))] [] (c_C_isPlace kI kZ x (kpAt KV j0) (by omega)) nl_S_80 mk_C_isPlace st_C_isPlace [] [0, 1, 2, 3, 4, 5, 6, 7, 8, 9] [0, 1, 2, 3, 4, 5, 6, 7, 8, 9] rfl (by decide) rfl (by decide) (by decide) (wS kI kZ x τ.2 σ.2.2.1 0 sa sm sf ss ++ wY kI kZ x τ.1 ++ wK kI kZ x KS KB KE KZ KV kn kw) rfl (by decide) rfl rfl rfl (Nat.le_of_ble_eq_true rfl) ⟨Nat.le_of_ble_eq_true rfl, Nat.le_of_ble_eq_true rfl⟩ ⟨Nat.le_of_ble_eq_true rfl, Nat.le_of_ble_eq_true rfl⟩ d_S_beginWithKept_63 rfl ?_
                refine j_if_eq C 94 69 d_S_beginWithKept_66 rfl rfl (by omega) (fun c4 => ?_) (fun c4 => ?_)
                · have c4 := bP_0 c4
                  refine j_iinc (q := 97) C 1 [(0, .ref (x 16)), (1, .int (iI (j0 + 1))), (2, .int (iI (kpAt KV j0)))] rfl rfl (by decide) d_S_beginWithKept_94 rfl ?_
                  refine j_goto C 36 d_S_beginWithKept_97 rfl ?_
                  refine j_lv [0, 1] rfl ?_
                  exact ih36 (j0 + 1) (τ.1, τ.2) (by omega) (by rw [bgF_s _ _ _ _ j0r.1, ← j1, if_neg (show ¬ (1 : Int) = 0 by decide)]; first | rw [if_neg (by omega)] | rw [if_pos (by omega), if_pos (by show τ.2 (kpAt KV j0).toNat = 0; omega)]) ⟨fun j => j2.1 j, fun j => j2.2 j⟩ (by omega)
                · have c4 := bP_1 c4
                  refine j_aload_n (q := 70) C 0 rfl d_S_beginWithKept_69 rfl ?_
                  refine j_get (q := 73) C i_S rfl 0 rfl 4 (by decide) rfl rfl fl_S_15 d_S_beginWithKept_70 rfl ?_
                  refine j_iload_n (q := 74) C 2 rfl d_S_beginWithKept_73 rfl ?_
                  refine j_zald (q := 75) C 1 1 rfl rfl (by decide) (by omega) d_S_beginWithKept_74 rfl ?_
                  have h74 := j2.2 (kpAt KV j0).toNat
                  refine j_if_eq C 80 78 d_S_beginWithKept_75 rfl rfl (by omega) (fun c5 => ?_) (fun c5 => ?_)
                  · refine j_aload_n (q := 81) C 0 rfl d_S_beginWithKept_80 rfl ?_
                    refine j_get (q := 84) C i_S rfl 0 rfl 3 (by decide) rfl rfl fl_S_9 d_S_beginWithKept_81 rfl ?_
                    refine j_iload_n (q := 85) C 1 rfl d_S_beginWithKept_84 rfl ?_
                    refine j_iload_n (q := 86) C 2 rfl d_S_beginWithKept_85 rfl ?_
                    refine j_iast (q := 87) C 3 0 rfl rfl (by decide) (by omega) (wS kI kZ x τ.2 σ.2.2.1 0 sa sm sf ss ++ wY kI kZ x (uI τ.1 j0.toNat (kpAt KV j0)) ++ wK kI kZ x KS KB KE KZ KV kn kw) rfl d_S_beginWithKept_86 rfl ?_
                    refine j_aload_n (q := 88) C 0 rfl d_S_beginWithKept_87 rfl ?_
                    refine j_get (q := 91) C i_S rfl 0 rfl 4 (by decide) rfl rfl fl_S_15 d_S_beginWithKept_88 rfl ?_
                    refine j_iload_n (q := 92) C 2 rfl d_S_beginWithKept_91 rfl ?_
                    refine j_iconst (q := 93) C d_S_beginWithKept_92 rfl ?_
                    refine j_zast (q := 94) C 1 1 rfl rfl (by decide) (by omega) (by omega) (wS kI kZ x (uI τ.2 (kpAt KV j0).toNat 1) σ.2.2.1 0 sa sm sf ss ++ wY kI kZ x (uI τ.1 j0.toNat (kpAt KV j0)) ++ wK kI kZ x KS KB KE KZ KV kn kw) rfl d_S_beginWithKept_93 rfl ?_
                    refine j_iinc (q := 97) C 1 [(0, .ref (x 16)), (1, .int (iI (j0 + 1))), (2, .int (iI (kpAt KV j0)))] rfl rfl (by decide) d_S_beginWithKept_94 rfl ?_
                    refine j_goto C 36 d_S_beginWithKept_97 rfl ?_
                    refine j_lv [0, 1] rfl ?_
                    exact ih36 (j0 + 1) (uI τ.1 j0.toNat (kpAt KV j0), uI τ.2 (kpAt KV j0).toNat 1) (by omega) (by rw [bgF_s _ _ _ _ j0r.1, ← j1, if_neg (show ¬ (1 : Int) = 0 by decide)]; first | rw [if_neg (by omega)] | rw [if_pos (by omega), if_pos (by show τ.2 (kpAt KV j0).toNat = 0; omega)]) ⟨fun j => (by have q := j2.1 j; show -1 ≤ uI _ _ _ j ∧ uI _ _ _ j < 26; unfold uI; split <;> omega), fun j => (by have q := j2.2 j; show 0 ≤ uI _ _ _ j ∧ uI _ _ _ j ≤ 1; unfold uI; split <;> omega)⟩ (by omega)
                  · have k79 : bgF KZ KV (zrB σ.1 (-1)) (zrB σ.2.1 0) (j0 + 1).toNat = (τ, 0) := by rw [bgF_s _ _ _ _ j0r.1, ← j1, if_neg (show ¬ (1 : Int) = 0 by decide)]; rw [if_pos (by omega), if_neg (by show ¬ τ.2 (kpAt KV j0).toNat = 0; omega)]
                    have k78 := bgF_z (i := (j0 + 1).toNat) (by rw [k79]) (26 - (j0 + 1).toNat)
                    rw [show (j0 + 1).toNat + (26 - (j0 + 1).toNat) = 26 from by omega] at k78
                    refine j_iconst (q := 79) C d_S_beginWithKept_78 rfl ?_
                    first | (exfalso; omega) | exact j_zret C hr hlk (by omega) d_S_beginWithKept_79 (congrArg (fun z => some (Value.int (iI z))) (show ((bgF KZ KV (zrB σ.1 (-1)) (zrB σ.2.1 0) 26).2) = (0) from by rw [k78, k79])) (by rw [k78, k79])
        exact lp36 27 0 (zrB σ.1 (-1), zrB σ.2.1 0) (by omega) rfl ⟨fun j => (by have q := hY j; unfold zrB; dsimp only; split <;> omega), fun j => (by have q := hST j; unfold zrB; dsimp only; split <;> omega)⟩ (by omega)
      · refine j_aload_n (q := 22) C 0 rfl d_S_beginWithKept_21 rfl ?_
        refine j_get (q := 25) C i_S rfl 0 rfl 4 (by decide) rfl rfl fl_S_15 d_S_beginWithKept_22 rfl ?_
        refine j_iload_n (q := 26) C 1 rfl d_S_beginWithKept_25 rfl ?_
        refine j_iconst (q := 27) C d_S_beginWithKept_26 rfl ?_
        refine j_zast (q := 28) C 1 1 rfl rfl (by decide) (by omega) (by omega) (wS kI kZ x (uI T i.toNat 0) σ.2.2.1 0 sa sm sf ss ++ wY kI kZ x (zrB σ.1 (-1)) ++ wK kI kZ x KS KB KE KZ KV kn kw) rfl d_S_beginWithKept_27 rfl ?_
        refine j_iinc (q := 31) C 1 [(0, .ref (x 16)), (1, .int (iI (i + 1)))] rfl rfl (by decide) d_S_beginWithKept_28 rfl ?_
        refine j_goto C 15 d_S_beginWithKept_31 rfl ?_
        exact ih15 (i + 1) _ (by omega) (fun j => by unfold uI; rw [i1 j]; split <;> split <;> first | rfl | omega) (by omega)
  exact lp15 27 0 σ.2.1 (by omega) (fun j => by rw [if_neg (by omega)]) (by omega)
theorem bg_SI {KZ KV f0 t0 : Nat → Int} (h1 : ∀ j, j < 26 → f0 j = -1) (h2 : ∀ j, j < 26 → t0 j = 0) (i : Nat) : i ≤ 26 → (∀ k : Nat, i ≤ k → k < 26 → (bgF KZ KV f0 t0 i).1.1 k = -1) ∧ ∀ q : Int, 0 ≤ q → q < 26 → ((bgF KZ KV f0 t0 i).1.2 q.toNat = 0 ↔ ∀ n : Int, 0 ≤ n → n < 26 → ¬ (bgF KZ KV f0 t0 i).1.1 n.toNat = q) := by
  induction i with
  | zero =>
    intro _
    refine ⟨fun k _ hk => h1 k hk, fun q hq1 hq2 => ⟨fun _ n hn1 hn2 hh => ?_, fun _ => h2 _ (by omega)⟩⟩
    have := h1 n.toNat (by omega)
    have hh2 : f0 n.toNat = q := hh
    omega
  | succ i ih =>
    intro hi
    obtain ⟨a1, a2⟩ := ih (by omega)
    rw [bgF_1]
    split
    · exact ⟨fun k hk1 hk2 => a1 k (by omega) hk2, a2⟩
    · split
      · rename_i c0 c1
        split
        · rename_i c2
          refine ⟨fun k hk1 hk2 => ?_, fun q hq1 hq2 => ?_⟩
          · show uI _ _ _ k = -1
            rw [show uI (bgF KZ KV f0 t0 i).1.1 (i : Int).toNat (kpAt KV i) k = (bgF KZ KV f0 t0 i).1.1 k from if_neg (by omega)]
            exact a1 k (by omega) hk2
          · show uI (bgF KZ KV f0 t0 i).1.2 (kpAt KV i).toNat 1 q.toNat = 0 ↔ ∀ n : Int, 0 ≤ n → n < 26 → ¬ uI (bgF KZ KV f0 t0 i).1.1 (i : Int).toNat (kpAt KV i) n.toNat = q
            by_cases c3 : q = kpAt KV i
            · constructor
              · intro z
                rw [c3, show uI (bgF KZ KV f0 t0 i).1.2 (kpAt KV i).toNat 1 (kpAt KV i).toNat = 1 from if_pos rfl] at z
                omega
              · intro z
                exact absurd (show uI (bgF KZ KV f0 t0 i).1.1 (i : Int).toNat (kpAt KV i) (i : Int).toNat = q by rw [c3]; exact if_pos rfl) (z i (by omega) (by omega))
            · rw [show uI (bgF KZ KV f0 t0 i).1.2 (kpAt KV i).toNat 1 q.toNat = (bgF KZ KV f0 t0 i).1.2 q.toNat from if_neg (by omega), a2 q hq1 hq2]
              have hi1 := a1 i (Nat.le_refl i) (by omega)
              constructor
              · intro z n hn1 hn2
                by_cases c4 : n = i
                · rw [c4, show uI (bgF KZ KV f0 t0 i).1.1 (i : Int).toNat (kpAt KV i) (i : Int).toNat = kpAt KV i from if_pos rfl]; omega
                · rw [show uI (bgF KZ KV f0 t0 i).1.1 (i : Int).toNat (kpAt KV i) n.toNat = (bgF KZ KV f0 t0 i).1.1 n.toNat from if_neg (by omega)]; exact z n hn1 hn2
              · intro z n hn1 hn2
                by_cases c4 : n = i
                · rw [show n.toNat = i from by omega, hi1]; omega
                · have := z n hn1 hn2
                  rwa [show uI (bgF KZ KV f0 t0 i).1.1 (i : Int).toNat (kpAt KV i) n.toNat = (bgF KZ KV f0 t0 i).1.1 n.toNat from if_neg (by omega)] at this
        · exact ⟨fun k hk1 hk2 => a1 k (by omega) hk2, a2⟩
      · exact ⟨fun k hk1 hk2 => a1 k (by omega) hk2, a2⟩
/-- the letters that numbers have at the beginning of a run -/
def bg1 (KZ KV SP ST : Nat → Int) : Nat → Int := (bgF KZ KV (zrB SP (-1)) (zrB ST 0) 26).1.1
def bg0 (KZ KV SP ST : Nat → Int) : Int := (bgF KZ KV (zrB SP (-1)) (zrB ST 0) 26).2
/-- the whole run -/
noncomputable def rnC (WP WL : Nat → Int) (wn : Int) (KS KB KE KZ KV : Nat → Int) (kn kw sa : Int) (SP ST RP RS : Nat → Int) : X3 A4 := if bg0 KZ KV SP ST = 0 then (0, 0, 0, RP, RS, 0) else skC WP WL wn KS KB KE kn kw sa kw.toNat 0 (bg1 KZ KV SP ST) (0, 0, 0, RP, RS, 0)

set_option maxRecDepth 100000 in
set_option maxHeartbeats 4000000 in
theorem c_S_seekAll {l : Launch} {D : va_G} (kI kZ : ClassId) (x : Nat → Nat) (WP WL WC : Nat → Int) (wn wk : Int) (hW : IW WP WL WC wn wk) (KS KB KE KZ KV : Nat → Int) (kn kw : Int) (hK : IK KS KB KE KZ KV kn kw) (hPl : ∀ a j, 0 ≤ j → j < lnOf WL wn a → 0 ≤ plAt WP WL wn a j) (hNm : ∀ a j, 0 ≤ a → a < kw → 0 ≤ j → j < lnOf KE kw a → 0 ≤ nmAt KS KB KE kn kw a j) (sa : Int) (hsa : 0 ≤ sa ∧ sa ≤ 100000) (σ : T4) (hσ : I4 σ) (sa0 sm sf ss : Int) (RP RS : Nat → Int) (rn : Int) (hR : IR RP RS rn) : Dx l D (ty2 kI kZ) y_S_seekAll w_S_seekAll { frames := 80, cells := 0, slots := 0, locals := 2200 } [.ref (x 16), .int (iI (sa))] (wS kI kZ x σ.2.1 σ.2.2.1 σ.2.2.2 sa0 sm sf ss ++ wY kI kZ x σ.1 ++ wW kI kZ x WP WL WC wn wk ++ wK kI kZ x KS KB KE KZ KV kn kw ++ wR kI kZ x RP RS rn) (some (.int (iI (if (rnC WP WL wn KS KB KE KZ KV kn kw sa σ.1 σ.2.1 RP RS).2.1 = 0 then (rnC WP WL wn KS KB KE KZ KV kn kw sa σ.1 σ.2.1 RP RS).2.2.1 else -1)))) (fun σ2 : { σ2 : T4 // I4 σ2 } => wS kI kZ x σ2.1.2.1 σ2.1.2.2.1 σ2.1.2.2.2 sa ((rnC WP WL wn KS KB KE KZ KV kn kw sa σ.1 σ.2.1 RP RS).1) ((rnC WP WL wn KS KB KE KZ KV kn kw sa σ.1 σ.2.1 RP RS).2.2.1) ((rnC WP WL wn KS KB KE KZ KV kn kw sa σ.1 σ.2.1 RP RS).2.1) ++ wY kI kZ x σ2.1.1 ++ wW kI kZ x WP WL WC wn wk ++ wK kI kZ x KS KB KE KZ KV kn kw ++ wR kI kZ x ((rnC WP WL wn KS KB KE KZ KV kn kw sa σ.1 σ.2.1 RP RS).2.2.2.1) ((rnC WP WL wn KS KB KE KZ KV kn kw sa σ.1 σ.2.1 RP RS).2.2.2.2.1) (if (rnC WP WL wn KS KB KE KZ KV kn kw sa σ.1 σ.2.1 RP RS).2.1 = 0 then (rnC WP WL wn KS KB KE KZ KV kn kw sa σ.1 σ.2.1 RP RS).2.2.2.2.2 else 0)) := by
  refine Met.toJ (own := R_S) (QX D (some (.int (iI (if (rnC WP WL wn KS KB KE KZ KV kn kw sa σ.1 σ.2.1 RP RS).2.1 = 0 then (rnC WP WL wn KS KB KE KZ KV kn kw sa σ.1 σ.2.1 RP RS).2.2.1 else -1)))) (fun σ2 : { σ2 : T4 // I4 σ2 } => wS kI kZ x σ2.1.2.1 σ2.1.2.2.1 σ2.1.2.2.2 sa ((rnC WP WL wn KS KB KE KZ KV kn kw sa σ.1 σ.2.1 RP RS).1) ((rnC WP WL wn KS KB KE KZ KV kn kw sa σ.1 σ.2.1 RP RS).2.2.1) ((rnC WP WL wn KS KB KE KZ KV kn kw sa σ.1 σ.2.1 RP RS).2.1) ++ wY kI kZ x σ2.1.1 ++ wW kI kZ x WP WL WC wn wk ++ wK kI kZ x KS KB KE KZ KV kn kw ++ wR kI kZ x ((rnC WP WL wn KS KB KE KZ KV kn kw sa σ.1 σ.2.1 RP RS).2.2.2.1) ((rnC WP WL wn KS KB KE KZ KV kn kw sa σ.1 σ.2.1 RP RS).2.2.2.2.1) (if (rnC WP WL wn KS KB KE KZ KV kn kw sa σ.1 σ.2.1 RP RS).2.1 = 0 then (rnC WP WL wn KS KB KE KZ KV kn kw sa σ.1 σ.2.1 RP RS).2.2.2.2.2 else 0))) mk_S_seekAll rfl (Nat.le_of_ble_eq_true rfl) ?_
  intro p e s m args below meth c A C hr hlk hnm
  show JJ p l e { frames := 80, cells := 0, slots := 0, locals := 2200 } s m args below meth c D A 2 (MQ below (QX D (some (.int (iI (if (rnC WP WL wn KS KB KE KZ KV kn kw sa σ.1 σ.2.1 RP RS).2.1 = 0 then (rnC WP WL wn KS KB KE KZ KV kn kw sa σ.1 σ.2.1 RP RS).2.2.1 else -1)))) (fun σ2 : { σ2 : T4 // I4 σ2 } => wS kI kZ x σ2.1.2.1 σ2.1.2.2.1 σ2.1.2.2.2 sa ((rnC WP WL wn KS KB KE KZ KV kn kw sa σ.1 σ.2.1 RP RS).1) ((rnC WP WL wn KS KB KE KZ KV kn kw sa σ.1 σ.2.1 RP RS).2.2.1) ((rnC WP WL wn KS KB KE KZ KV kn kw sa σ.1 σ.2.1 RP RS).2.1) ++ wY kI kZ x σ2.1.1 ++ wW kI kZ x WP WL WC wn wk ++ wK kI kZ x KS KB KE KZ KV kn kw ++ wR kI kZ x ((rnC WP WL wn KS KB KE KZ KV kn kw sa σ.1 σ.2.1 RP RS).2.2.2.1) ((rnC WP WL wn KS KB KE KZ KV kn kw sa σ.1 σ.2.1 RP RS).2.2.2.2.1) (if (rnC WP WL wn KS KB KE KZ KV kn kw sa σ.1 σ.2.1 RP RS).2.1 = 0 then (rnC WP WL wn KS KB KE KZ KV kn kw sa σ.1 σ.2.1 RP RS).2.2.2.2.2 else 0)) A) args s 0 0 A) 0 0 0 [(0, .ref (x 16)), (1, .int (iI (sa)))] [] (wS kI kZ x σ.2.1 σ.2.2.1 σ.2.2.2 sa0 sm sf ss ++ wY kI kZ x σ.1 ++ wW kI kZ x WP WL WC wn wk ++ wK kI kZ x KS KB KE KZ KV kn kw ++ wR kI kZ x RP RS rn)
  obtain ⟨hY, hST, hSG, hsg⟩ := id hσ
  obtain ⟨hwn, hwk, hWL, hWP, hWC⟩ := id hW
  obtain ⟨hkn, hkw, hKS, hKB, hKE, hKZ, hKV⟩ := id hK
  have hIA0 : IA sa (0, 0, 0, RP, RS, 0) := ⟨⟨Int.le_refl 0, hsa.1⟩, Or.inl rfl, IRR.nil hR⟩
  refine j_aload_n (q := 1) C 0 rfl d_S_seekAll_0 rfl ?_
  refine j_get (q := 4) C i_S rfl 0 rfl 2 (by decide) rfl rfl fl_S_47 d_S_seekAll_1 rfl ?_
  refine j_callV (q := 7) (wr := wS kI kZ x σ.2.1 σ.2.2.1 σ.2.2.2 sa0 sm sf ss ++ wY kI kZ x σ.1 ++ wW kI kZ x WP WL WC wn wk ++ wK kI kZ x KS KB KE KZ KV kn kw) C [] [] (c_R_forget kI kZ x RP RS rn hR) ml_S_51 mk_R_forget in_R_forget se_R_forget rfl rfl rfl [14, 15, 16] [0, 1, 2, 3, 4, 5, 6, 7, 8, 9, 10, 11, 12, 13] [0, 1, 2, 3, 4, 5, 6, 7, 8, 9, 10, 11, 12, 13, 14, 15, 16] rfl (by decide) rfl (by decide) (by decide) (wS kI kZ x σ.2.1 σ.2.2.1 σ.2.2.2 sa0 sm sf ss ++ wY kI kZ x σ.1 ++ wW kI kZ x WP WL WC wn wk ++ wK kI kZ x KS KB KE KZ KV kn kw ++ wR kI kZ x RP RS 0) rfl (by decide) rfl rfl rfl (Nat.le_of_ble_eq_true rfl) ⟨Nat.le_of_ble_eq_true rfl, Nat.le_of_ble_eq_true rfl⟩ ⟨Nat.le_of_ble_eq_true rfl, Nat.le_of_ble_eq_true rfl⟩ d_S_seekAll_4 rfl ?_
  refine j_aload_n (q := 8) C 0 rfl d_S_seekAll_7 rfl ?_
  refine j_iload_n (q := 9) C 1 rfl d_S_seekAll_8 rfl ?_
  refine j_put (q := 12) (ty := .int) C i_S rfl t_S t_S_ok n_S 0 rfl 7 (by decide) rfl fl_S_26 rfl (by decide +kernel) rfl rfl (Nat.le_of_ble_eq_true rfl) (wS kI kZ x σ.2.1 σ.2.2.1 σ.2.2.2 sa sm sf ss ++ wY kI kZ x σ.1 ++ wW kI kZ x WP WL WC wn wk ++ wK kI kZ x KS KB KE KZ KV kn kw ++ wR kI kZ x RP RS 0) rfl d_S_seekAll_9 rfl ?_
  refine j_aload_n (q := 13) C 0 rfl d_S_seekAll_12 rfl ?_
  refine j_iconst (q := 14) C d_S_seekAll_13 rfl ?_
  refine j_put (q := 17) (ty := .int) C i_S rfl t_S t_S_ok n_S 0 rfl 8 (by decide) rfl fl_S_29 rfl (by decide +kernel) rfl rfl (Nat.le_of_ble_eq_true rfl) (wS kI kZ x σ.2.1 σ.2.2.1 σ.2.2.2 sa 0 sf ss ++ wY kI kZ x σ.1 ++ wW kI kZ x WP WL WC wn wk ++ wK kI kZ x KS KB KE KZ KV kn kw ++ wR kI kZ x RP RS 0) rfl d_S_seekAll_14 rfl ?_
  refine j_aload_n (q := 18) C 0 rfl d_S_seekAll_17 rfl ?_
  refine j_iconst (q := 19) C d_S_seekAll_18 rfl ?_
  refine j_put (q := 22) (ty := .int) C i_S rfl t_S t_S_ok n_S 0 rfl 9 (by decide) rfl fl_S_32 rfl (by decide +kernel) rfl rfl (Nat.le_of_ble_eq_true rfl) (wS kI kZ x σ.2.1 σ.2.2.1 σ.2.2.2 sa 0 0 ss ++ wY kI kZ x σ.1 ++ wW kI kZ x WP WL WC wn wk ++ wK kI kZ x KS KB KE KZ KV kn kw ++ wR kI kZ x RP RS 0) rfl d_S_seekAll_19 rfl ?_
  refine j_aload_n (q := 23) C 0 rfl d_S_seekAll_22 rfl ?_
  refine j_iconst (q := 24) C d_S_seekAll_23 rfl ?_
  refine j_put (q := 27) (ty := .boolean) C i_S rfl t_S t_S_ok n_S 0 rfl 10 (by decide) rfl fl_S_35 rfl (by decide +kernel) (rfl) rfl (Nat.le_of_ble_eq_true rfl) (wS kI kZ x σ.2.1 σ.2.2.1 σ.2.2.2 sa 0 0 0 ++ wY kI kZ x σ.1 ++ wW kI kZ x WP WL WC wn wk ++ wK kI kZ x KS KB KE KZ KV kn kw ++ wR kI kZ x RP RS 0) rfl d_S_seekAll_24 rfl ?_
  refine j_aload_n (q := 28) C 0 rfl d_S_seekAll_27 rfl ?_
  have e28 := bgF_r (KZ := KZ) (KV := KV) (f0 := zrB σ.1 (-1)) (t0 := zrB σ.2.1 0) (fun j => (by have q := hY j; unfold zrB; split <;> omega)) (fun j => (by have q := hST j; unfold zrB; split <;> omega)) 26
  refine j_callV (q := 31) (wr := wW kI kZ x WP WL WC wn wk ++ wR kI kZ x RP RS 0) C [] [] (c_S_beginWithKept kI kZ x σ hσ sa 0 0 0 KS KB KE KZ KV kn kw hK) ml_S_56 mk_S_beginWithKept in_S_beginWithKept se_S_beginWithKept rfl rfl rfl [0, 1, 2, 3, 8, 9, 10, 11, 12, 13] [4, 5, 6, 7, 14, 15, 16] [7, 8, 9, 10, 0, 1, 2, 3, 11, 12, 13, 14, 15, 16, 4, 5, 6] rfl (by decide) rfl (by decide) (by decide) (wS kI kZ x ((bgF KZ KV (zrB σ.1 (-1)) (zrB σ.2.1 0) 26).1.2) σ.2.2.1 0 sa 0 0 0 ++ wY kI kZ x ((bgF KZ KV (zrB σ.1 (-1)) (zrB σ.2.1 0) 26).1.1) ++ wW kI kZ x WP WL WC wn wk ++ wK kI kZ x KS KB KE KZ KV kn kw ++ wR kI kZ x RP RS 0) rfl (by decide) rfl rfl rfl (Nat.le_of_ble_eq_true rfl) ⟨Nat.le_of_ble_eq_true rfl, Nat.le_of_ble_eq_true rfl⟩ ⟨Nat.le_of_ble_eq_true rfl, Nat.le_of_ble_eq_true rfl⟩ d_S_seekAll_28 rfl ?_
  refine j_if_eq C 39 34 d_S_seekAll_31 rfl rfl (by omega) (fun c1 => ?_) (fun c1 => ?_)
  · refine j_aload_n (q := 40) C 0 rfl d_S_seekAll_39 rfl ?_
    refine j_get (q := 43) C i_S rfl 0 rfl 10 (by decide) rfl rfl fl_S_35 d_S_seekAll_40 rfl ?_
    refine j_if_eq C 55 46 d_S_seekAll_43 rfl rfl (by omega) (fun c2 => ?_) (fun c2 => ?_)
    · refine j_aload_n (q := 56) C 0 rfl d_S_seekAll_55 rfl ?_
      refine j_get (q := 59) C i_S rfl 0 rfl 9 (by decide) rfl rfl fl_S_32 d_S_seekAll_56 rfl ?_
      first | (exfalso; omega) | exact j_iretX C hr hlk ⟨((bgF KZ KV (zrB σ.1 (-1)) (zrB σ.2.1 0) 26).1.1, (bgF KZ KV (zrB σ.1 (-1)) (zrB σ.2.1 0) 26).1.2, σ.2.2.1, 0), e28.1.1, e28.1.2, hSG, by show (0 : Int) ≤ 0 ∧ (0 : Int) ≤ 26; omega⟩ d_S_seekAll_59 (congrArg (fun z => some (Value.int (iI z))) (show (if (rnC WP WL wn KS KB KE KZ KV kn kw sa σ.1 σ.2.1 RP RS).2.1 = 0 then (rnC WP WL wn KS KB KE KZ KV kn kw sa σ.1 σ.2.1 RP RS).2.2.1 else -1) = (0) from (by rw [show rnC WP WL wn KS KB KE KZ KV kn kw sa σ.1 σ.2.1 RP RS = (0, 0, 0, RP, RS, 0) from (by unfold rnC bg0 bg1; exact if_pos (by omega))]; (try dsimp only); first | rw [if_pos (by omega)] | rw [if_neg (by omega)] | rfl))) (by show (wS kI kZ x ((bgF KZ KV (zrB σ.1 (-1)) (zrB σ.2.1 0) 26).1.2) σ.2.2.1 0 sa 0 0 0 ++ wY kI kZ x ((bgF KZ KV (zrB σ.1 (-1)) (zrB σ.2.1 0) 26).1.1) ++ wW kI kZ x WP WL WC wn wk ++ wK kI kZ x KS KB KE KZ KV kn kw ++ wR kI kZ x RP RS 0) = (wS kI kZ x (((bgF KZ KV (zrB σ.1 (-1)) (zrB σ.2.1 0) 26).1.1, (bgF KZ KV (zrB σ.1 (-1)) (zrB σ.2.1 0) 26).1.2, σ.2.2.1, 0).2.1) (((bgF KZ KV (zrB σ.1 (-1)) (zrB σ.2.1 0) 26).1.1, (bgF KZ KV (zrB σ.1 (-1)) (zrB σ.2.1 0) 26).1.2, σ.2.2.1, 0).2.2.1) (((bgF KZ KV (zrB σ.1 (-1)) (zrB σ.2.1 0) 26).1.1, (bgF KZ KV (zrB σ.1 (-1)) (zrB σ.2.1 0) 26).1.2, σ.2.2.1, 0).2.2.2) sa ((rnC WP WL wn KS KB KE KZ KV kn kw sa σ.1 σ.2.1 RP RS).1) ((rnC WP WL wn KS KB KE KZ KV kn kw sa σ.1 σ.2.1 RP RS).2.2.1) ((rnC WP WL wn KS KB KE KZ KV kn kw sa σ.1 σ.2.1 RP RS).2.1) ++ wY kI kZ x (((bgF KZ KV (zrB σ.1 (-1)) (zrB σ.2.1 0) 26).1.1, (bgF KZ KV (zrB σ.1 (-1)) (zrB σ.2.1 0) 26).1.2, σ.2.2.1, 0).1) ++ wW kI kZ x WP WL WC wn wk ++ wK kI kZ x KS KB KE KZ KV kn kw ++ wR kI kZ x ((rnC WP WL wn KS KB KE KZ KV kn kw sa σ.1 σ.2.1 RP RS).2.2.2.1) ((rnC WP WL wn KS KB KE KZ KV kn kw sa σ.1 σ.2.1 RP RS).2.2.2.2.1) (if (rnC WP WL wn KS KB KE KZ KV kn kw sa σ.1 σ.2.1 RP RS).2.1 = 0 then (rnC WP WL wn KS KB KE KZ KV kn kw sa σ.1 σ.2.1 RP RS).2.2.2.2.2 else 0)); rw [show rnC WP WL wn KS KB KE KZ KV kn kw sa σ.1 σ.2.1 RP RS = (0, 0, 0, RP, RS, 0) from (by unfold rnC bg0 bg1; exact if_pos (by omega))]; (try dsimp only); first | rw [if_pos (by omega)] | rw [if_neg (by omega)] | rfl)
    · exfalso; omega
  · refine j_aload_n (q := 35) C 0 rfl d_S_seekAll_34 rfl ?_
    refine j_iconst (q := 36) C d_S_seekAll_35 rfl ?_
    have hbs := (bg_SI (KZ := KZ) (KV := KV) (f0 := zrB σ.1 (-1)) (t0 := zrB σ.2.1 0) (fun j hj => if_pos hj) (fun j hj => if_pos hj) 26 (Nat.le_refl 26)).2
    have hSI0 : SI ((bgF KZ KV (zrB σ.1 (-1)) (zrB σ.2.1 0) 26).1.1, (bgF KZ KV (zrB σ.1 (-1)) (zrB σ.2.1 0) 26).1.2, σ.2.2.1, 0) := ⟨⟨e28.1.1, e28.1.2, hSG, by show (0 : Int) ≤ 0 ∧ (0 : Int) ≤ 26; omega⟩, hbs, (cnt_r _ 26).1⟩
    refine j_callVX (q := 39) (wr := []) C [.int (iI (0))] [] (c_S_both kI kZ x WP WL WC wn wk hW KS KB KE KZ KV kn kw hK hPl hNm sa hsa kw.toNat 0 ((bgF KZ KV (zrB σ.1 (-1)) (zrB σ.2.1 0) 26).1.1, (bgF KZ KV (zrB σ.1 (-1)) (zrB σ.2.1 0) 26).1.2, σ.2.2.1, 0) (0, 0, 0, RP, RS, 0) hSI0 hIA0 (by omega)) ml_S_60 mk_S_seekFrom in_S_seekFrom se_S_seekFrom rfl rfl rfl [0, 1, 2, 3, 4, 5, 6, 7, 8, 9, 10, 11, 12, 13, 14, 15, 16] [] [0, 1, 2, 3, 4, 5, 6, 7, 8, 9, 10, 11, 12, 13, 14, 15, 16] rfl (by decide) rfl (by decide) (by decide) (fun G1 : GT ((bgF KZ KV (zrB σ.1 (-1)) (zrB σ.2.1 0) 26).1.1, (bgF KZ KV (zrB σ.1 (-1)) (zrB σ.2.1 0) 26).1.2, σ.2.2.1, 0) => wS kI kZ x ((bgF KZ KV (zrB σ.1 (-1)) (zrB σ.2.1 0) 26).1.2) G1.1 0 sa ((skC WP WL wn KS KB KE kn kw sa kw.toNat 0 (bgF KZ KV (zrB σ.1 (-1)) (zrB σ.2.1 0) 26).1.1 (0, 0, 0, RP, RS, 0)).1) ((skC WP WL wn KS KB KE kn kw sa kw.toNat 0 (bgF KZ KV (zrB σ.1 (-1)) (zrB σ.2.1 0) 26).1.1 (0, 0, 0, RP, RS, 0)).2.2.1) ((skC WP WL wn KS KB KE kn kw sa kw.toNat 0 (bgF KZ KV (zrB σ.1 (-1)) (zrB σ.2.1 0) 26).1.1 (0, 0, 0, RP, RS, 0)).2.1) ++ wY kI kZ x ((bgF KZ KV (zrB σ.1 (-1)) (zrB σ.2.1 0) 26).1.1) ++ wW kI kZ x WP WL WC wn wk ++ wK kI kZ x KS KB KE KZ KV kn kw ++ wR kI kZ x ((skC WP WL wn KS KB KE kn kw sa kw.toNat 0 (bgF KZ KV (zrB σ.1 (-1)) (zrB σ.2.1 0) 26).1.1 (0, 0, 0, RP, RS, 0)).2.2.2.1) ((skC WP WL wn KS KB KE kn kw sa kw.toNat 0 (bgF KZ KV (zrB σ.1 (-1)) (zrB σ.2.1 0) 26).1.1 (0, 0, 0, RP, RS, 0)).2.2.2.2.1) ((skC WP WL wn KS KB KE kn kw sa kw.toNat 0 (bgF KZ KV (zrB σ.1 (-1)) (zrB σ.2.1 0) 26).1.1 (0, 0, 0, RP, RS, 0)).2.2.2.2.2)) (fun _ => rfl) (by decide) rfl rfl rfl (Nat.le_of_ble_eq_true rfl) ⟨by dsimp only; omega, by dsimp only; omega⟩ ⟨Nat.le_of_ble_eq_true rfl, Nat.le_of_ble_eq_true rfl⟩ d_S_seekAll_36 rfl (fun G1 => ?_)
    have hz := skC_inv hW KS KB KE kn kw sa kw.toNat 0 hIA0 (f := (bgF KZ KV (zrB σ.1 (-1)) (zrB σ.2.1 0) 26).1.1) e28.1.1
    have hz1 := hz.2.1
    have hz2 := hz.2.2
    refine j_aload_n (q := 40) C 0 rfl d_S_seekAll_39 rfl ?_
    refine j_get (q := 43) C i_S rfl 0 rfl 10 (by decide) rfl rfl fl_S_35 d_S_seekAll_40 rfl ?_
    refine j_if_eq C 55 46 d_S_seekAll_43 rfl rfl (by omega) (fun c3 => ?_) (fun c3 => ?_)
    · refine j_aload_n (q := 56) C 0 rfl d_S_seekAll_55 rfl ?_
      refine j_get (q := 59) C i_S rfl 0 rfl 9 (by decide) rfl rfl fl_S_32 d_S_seekAll_56 rfl ?_
      first | (exfalso; omega) | exact j_iretX C hr hlk ⟨((bgF KZ KV (zrB σ.1 (-1)) (zrB σ.2.1 0) 26).1.1, (bgF KZ KV (zrB σ.1 (-1)) (zrB σ.2.1 0) 26).1.2, G1.1, 0), e28.1.1, e28.1.2, G1.2.1, by show (0 : Int) ≤ 0 ∧ (0 : Int) ≤ 26; omega⟩ d_S_seekAll_59 (congrArg (fun z => some (Value.int (iI z))) (show (if (rnC WP WL wn KS KB KE KZ KV kn kw sa σ.1 σ.2.1 RP RS).2.1 = 0 then (rnC WP WL wn KS KB KE KZ KV kn kw sa σ.1 σ.2.1 RP RS).2.2.1 else -1) = ((skC WP WL wn KS KB KE kn kw sa kw.toNat 0 (bgF KZ KV (zrB σ.1 (-1)) (zrB σ.2.1 0) 26).1.1 (0, 0, 0, RP, RS, 0)).2.2.1) from (by rw [show rnC WP WL wn KS KB KE KZ KV kn kw sa σ.1 σ.2.1 RP RS = (skC WP WL wn KS KB KE kn kw sa kw.toNat 0 (bgF KZ KV (zrB σ.1 (-1)) (zrB σ.2.1 0) 26).1.1 (0, 0, 0, RP, RS, 0)) from (by unfold rnC bg0 bg1; exact if_neg (by omega))]; (try dsimp only); first | rw [if_pos (by omega)] | rw [if_neg (by omega)] | rfl))) (by show (wS kI kZ x ((bgF KZ KV (zrB σ.1 (-1)) (zrB σ.2.1 0) 26).1.2) G1.1 0 sa ((skC WP WL wn KS KB KE kn kw sa kw.toNat 0 (bgF KZ KV (zrB σ.1 (-1)) (zrB σ.2.1 0) 26).1.1 (0, 0, 0, RP, RS, 0)).1) ((skC WP WL wn KS KB KE kn kw sa kw.toNat 0 (bgF KZ KV (zrB σ.1 (-1)) (zrB σ.2.1 0) 26).1.1 (0, 0, 0, RP, RS, 0)).2.2.1) ((skC WP WL wn KS KB KE kn kw sa kw.toNat 0 (bgF KZ KV (zrB σ.1 (-1)) (zrB σ.2.1 0) 26).1.1 (0, 0, 0, RP, RS, 0)).2.1) ++ wY kI kZ x ((bgF KZ KV (zrB σ.1 (-1)) (zrB σ.2.1 0) 26).1.1) ++ wW kI kZ x WP WL WC wn wk ++ wK kI kZ x KS KB KE KZ KV kn kw ++ wR kI kZ x ((skC WP WL wn KS KB KE kn kw sa kw.toNat 0 (bgF KZ KV (zrB σ.1 (-1)) (zrB σ.2.1 0) 26).1.1 (0, 0, 0, RP, RS, 0)).2.2.2.1) ((skC WP WL wn KS KB KE kn kw sa kw.toNat 0 (bgF KZ KV (zrB σ.1 (-1)) (zrB σ.2.1 0) 26).1.1 (0, 0, 0, RP, RS, 0)).2.2.2.2.1) ((skC WP WL wn KS KB KE kn kw sa kw.toNat 0 (bgF KZ KV (zrB σ.1 (-1)) (zrB σ.2.1 0) 26).1.1 (0, 0, 0, RP, RS, 0)).2.2.2.2.2)) = (wS kI kZ x (((bgF KZ KV (zrB σ.1 (-1)) (zrB σ.2.1 0) 26).1.1, (bgF KZ KV (zrB σ.1 (-1)) (zrB σ.2.1 0) 26).1.2, G1.1, 0).2.1) (((bgF KZ KV (zrB σ.1 (-1)) (zrB σ.2.1 0) 26).1.1, (bgF KZ KV (zrB σ.1 (-1)) (zrB σ.2.1 0) 26).1.2, G1.1, 0).2.2.1) (((bgF KZ KV (zrB σ.1 (-1)) (zrB σ.2.1 0) 26).1.1, (bgF KZ KV (zrB σ.1 (-1)) (zrB σ.2.1 0) 26).1.2, G1.1, 0).2.2.2) sa ((rnC WP WL wn KS KB KE KZ KV kn kw sa σ.1 σ.2.1 RP RS).1) ((rnC WP WL wn KS KB KE KZ KV kn kw sa σ.1 σ.2.1 RP RS).2.2.1) ((rnC WP WL wn KS KB KE KZ KV kn kw sa σ.1 σ.2.1 RP RS).2.1) ++ wY kI kZ x (((bgF KZ KV (zrB σ.1 (-1)) (zrB σ.2.1 0) 26).1.1, (bgF KZ KV (zrB σ.1 (-1)) (zrB σ.2.1 0) 26).1.2, G1.1, 0).1) ++ wW kI kZ x WP WL WC wn wk ++ wK kI kZ x KS KB KE KZ KV kn kw ++ wR kI kZ x ((rnC WP WL wn KS KB KE KZ KV kn kw sa σ.1 σ.2.1 RP RS).2.2.2.1) ((rnC WP WL wn KS KB KE KZ KV kn kw sa σ.1 σ.2.1 RP RS).2.2.2.2.1) (if (rnC WP WL wn KS KB KE KZ KV kn kw sa σ.1 σ.2.1 RP RS).2.1 = 0 then (rnC WP WL wn KS KB KE KZ KV kn kw sa σ.1 σ.2.1 RP RS).2.2.2.2.2 else 0)); rw [show rnC WP WL wn KS KB KE KZ KV kn kw sa σ.1 σ.2.1 RP RS = (skC WP WL wn KS KB KE kn kw sa kw.toNat 0 (bgF KZ KV (zrB σ.1 (-1)) (zrB σ.2.1 0) 26).1.1 (0, 0, 0, RP, RS, 0)) from (by unfold rnC bg0 bg1; exact if_neg (by omega))]; (try dsimp only); first | rw [if_pos (by omega)] | rw [if_neg (by omega)] | rfl)
    · refine j_aload_n (q := 47) C 0 rfl d_S_seekAll_46 rfl ?_
      refine j_get (q := 50) C i_S rfl 0 rfl 2 (by decide) rfl rfl fl_S_47 d_S_seekAll_47 rfl ?_
      refine j_callV (q := 53) (wr := wS kI kZ x ((bgF KZ KV (zrB σ.1 (-1)) (zrB σ.2.1 0) 26).1.2) G1.1 0 sa ((skC WP WL wn KS KB KE kn kw sa kw.toNat 0 (bgF KZ KV (zrB σ.1 (-1)) (zrB σ.2.1 0) 26).1.1 (0, 0, 0, RP, RS, 0)).1) ((skC WP WL wn KS KB KE kn kw sa kw.toNat 0 (bgF KZ KV (zrB σ.1 (-1)) (zrB σ.2.1 0) 26).1.1 (0, 0, 0, RP, RS, 0)).2.2.1) ((skC WP WL wn KS KB KE kn kw sa kw.toNat 0 (bgF KZ KV (zrB σ.1 (-1)) (zrB σ.2.1 0) 26).1.1 (0, 0, 0, RP, RS, 0)).2.1) ++ wY kI kZ x ((bgF KZ KV (zrB σ.1 (-1)) (zrB σ.2.1 0) 26).1.1) ++ wW kI kZ x WP WL WC wn wk ++ wK kI kZ x KS KB KE KZ KV kn kw) C [] [] (c_R_forget kI kZ x ((skC WP WL wn KS KB KE kn kw sa kw.toNat 0 (bgF KZ KV (zrB σ.1 (-1)) (zrB σ.2.1 0) 26).1.1 (0, 0, 0, RP, RS, 0)).2.2.2.1) ((skC WP WL wn KS KB KE kn kw sa kw.toNat 0 (bgF KZ KV (zrB σ.1 (-1)) (zrB σ.2.1 0) 26).1.1 (0, 0, 0, RP, RS, 0)).2.2.2.2.1) ((skC WP WL wn KS KB KE kn kw sa kw.toNat 0 (bgF KZ KV (zrB σ.1 (-1)) (zrB σ.2.1 0) 26).1.1 (0, 0, 0, RP, RS, 0)).2.2.2.2.2) hz2.1) ml_S_51 mk_R_forget in_R_forget se_R_forget rfl rfl rfl [14, 15, 16] [0, 1, 2, 3, 4, 5, 6, 7, 8, 9, 10, 11, 12, 13] [0, 1, 2, 3, 4, 5, 6, 7, 8, 9, 10, 11, 12, 13, 14, 15, 16] rfl (by decide) rfl (by decide) (by decide) (wS kI kZ x ((bgF KZ KV (zrB σ.1 (-1)) (zrB σ.2.1 0) 26).1.2) G1.1 0 sa ((skC WP WL wn KS KB KE kn kw sa kw.toNat 0 (bgF KZ KV (zrB σ.1 (-1)) (zrB σ.2.1 0) 26).1.1 (0, 0, 0, RP, RS, 0)).1) ((skC WP WL wn KS KB KE kn kw sa kw.toNat 0 (bgF KZ KV (zrB σ.1 (-1)) (zrB σ.2.1 0) 26).1.1 (0, 0, 0, RP, RS, 0)).2.2.1) ((skC WP WL wn KS KB KE kn kw sa kw.toNat 0 (bgF KZ KV (zrB σ.1 (-1)) (zrB σ.2.1 0) 26).1.1 (0, 0, 0, RP, RS, 0)).2.1) ++ wY kI kZ x ((bgF KZ KV (zrB σ.1 (-1)) (zrB σ.2.1 0) 26).1.1) ++ wW kI kZ x WP WL WC wn wk ++ wK kI kZ x KS KB KE KZ KV kn kw ++ wR kI kZ x ((skC WP WL wn KS KB KE kn kw sa kw.toNat 0 (bgF KZ KV (zrB σ.1 (-1)) (zrB σ.2.1 0) 26).1.1 (0, 0, 0, RP, RS, 0)).2.2.2.1) ((skC WP WL wn KS KB KE kn kw sa kw.toNat 0 (bgF KZ KV (zrB σ.1 (-1)) (zrB σ.2.1 0) 26).1.1 (0, 0, 0, RP, RS, 0)).2.2.2.2.1) 0) rfl (by decide) rfl rfl rfl (Nat.le_of_ble_eq_true rfl) ⟨Nat.le_of_ble_eq_true rfl, Nat.le_of_ble_eq_true rfl⟩ ⟨Nat.le_of_ble_eq_true rfl, Nat.le_of_ble_eq_true rfl⟩ d_S_seekAll_50 rfl ?_
      refine j_iconst (q := 54) C d_S_seekAll_53 rfl ?_
      first | (exfalso; omega) | exact j_iretX C hr hlk ⟨((bgF KZ KV (zrB σ.1 (-1)) (zrB σ.2.1 0) 26).1.1, (bgF KZ KV (zrB σ.1 (-1)) (zrB σ.2.1 0) 26).1.2, G1.1, 0), e28.1.1, e28.1.2, G1.2.1, by show (0 : Int) ≤ 0 ∧ (0 : Int) ≤ 26; omega⟩ d_S_seekAll_54 (congrArg (fun z => some (Value.int (iI z))) (show (if (rnC WP WL wn KS KB KE KZ KV kn kw sa σ.1 σ.2.1 RP RS).2.1 = 0 then (rnC WP WL wn KS KB KE KZ KV kn kw sa σ.1 σ.2.1 RP RS).2.2.1 else -1) = (-1) from (by rw [show rnC WP WL wn KS KB KE KZ KV kn kw sa σ.1 σ.2.1 RP RS = (skC WP WL wn KS KB KE kn kw sa kw.toNat 0 (bgF KZ KV (zrB σ.1 (-1)) (zrB σ.2.1 0) 26).1.1 (0, 0, 0, RP, RS, 0)) from (by unfold rnC bg0 bg1; exact if_neg (by omega))]; (try dsimp only); first | rw [if_pos (by omega)] | rw [if_neg (by omega)] | rfl))) (by show (wS kI kZ x ((bgF KZ KV (zrB σ.1 (-1)) (zrB σ.2.1 0) 26).1.2) G1.1 0 sa ((skC WP WL wn KS KB KE kn kw sa kw.toNat 0 (bgF KZ KV (zrB σ.1 (-1)) (zrB σ.2.1 0) 26).1.1 (0, 0, 0, RP, RS, 0)).1) ((skC WP WL wn KS KB KE kn kw sa kw.toNat 0 (bgF KZ KV (zrB σ.1 (-1)) (zrB σ.2.1 0) 26).1.1 (0, 0, 0, RP, RS, 0)).2.2.1) ((skC WP WL wn KS KB KE kn kw sa kw.toNat 0 (bgF KZ KV (zrB σ.1 (-1)) (zrB σ.2.1 0) 26).1.1 (0, 0, 0, RP, RS, 0)).2.1) ++ wY kI kZ x ((bgF KZ KV (zrB σ.1 (-1)) (zrB σ.2.1 0) 26).1.1) ++ wW kI kZ x WP WL WC wn wk ++ wK kI kZ x KS KB KE KZ KV kn kw ++ wR kI kZ x ((skC WP WL wn KS KB KE kn kw sa kw.toNat 0 (bgF KZ KV (zrB σ.1 (-1)) (zrB σ.2.1 0) 26).1.1 (0, 0, 0, RP, RS, 0)).2.2.2.1) ((skC WP WL wn KS KB KE kn kw sa kw.toNat 0 (bgF KZ KV (zrB σ.1 (-1)) (zrB σ.2.1 0) 26).1.1 (0, 0, 0, RP, RS, 0)).2.2.2.2.1) 0) = (wS kI kZ x (((bgF KZ KV (zrB σ.1 (-1)) (zrB σ.2.1 0) 26).1.1, (bgF KZ KV (zrB σ.1 (-1)) (zrB σ.2.1 0) 26).1.2, G1.1, 0).2.1) (((bgF KZ KV (zrB σ.1 (-1)) (zrB σ.2.1 0) 26).1.1, (bgF KZ KV (zrB σ.1 (-1)) (zrB σ.2.1 0) 26).1.2, G1.1, 0).2.2.1) (((bgF KZ KV (zrB σ.1 (-1)) (zrB σ.2.1 0) 26).1.1, (bgF KZ KV (zrB σ.1 (-1)) (zrB σ.2.1 0) 26).1.2, G1.1, 0).2.2.2) sa ((rnC WP WL wn KS KB KE KZ KV kn kw sa σ.1 σ.2.1 RP RS).1) ((rnC WP WL wn KS KB KE KZ KV kn kw sa σ.1 σ.2.1 RP RS).2.2.1) ((rnC WP WL wn KS KB KE KZ KV kn kw sa σ.1 σ.2.1 RP RS).2.1) ++ wY kI kZ x (((bgF KZ KV (zrB σ.1 (-1)) (zrB σ.2.1 0) 26).1.1, (bgF KZ KV (zrB σ.1 (-1)) (zrB σ.2.1 0) 26).1.2, G1.1, 0).1) ++ wW kI kZ x WP WL WC wn wk ++ wK kI kZ x KS KB KE KZ KV kn kw ++ wR kI kZ x ((rnC WP WL wn KS KB KE KZ KV kn kw sa σ.1 σ.2.1 RP RS).2.2.2.1) ((rnC WP WL wn KS KB KE KZ KV kn kw sa σ.1 σ.2.1 RP RS).2.2.2.2.1) (if (rnC WP WL wn KS KB KE KZ KV kn kw sa σ.1 σ.2.1 RP RS).2.1 = 0 then (rnC WP WL wn KS KB KE KZ KV kn kw sa σ.1 σ.2.1 RP RS).2.2.2.2.2 else 0)); rw [show rnC WP WL wn KS KB KE KZ KV kn kw sa σ.1 σ.2.1 RP RS = (skC WP WL wn KS KB KE kn kw sa kw.toNat 0 (bgF KZ KV (zrB σ.1 (-1)) (zrB σ.2.1 0) 26).1.1 (0, 0, 0, RP, RS, 0)) from (by unfold rnC bg0 bg1; exact if_neg (by omega))]; (try dsimp only); first | rw [if_pos (by omega)] | rw [if_neg (by omega)] | rfl)
