/-! THE LAW: its loop and its start -/
set_option maxRecDepth 100000 in
set_option maxHeartbeats 4000000 in
theorem law_loop {p : Program} {l : Launch} {e : Env} {s : State} {m : MethodId} {below : List Frame} {meth : Method} {c : Code} {D : va_G} {A : Nat → Prop} {b L : Nat} {xs : Nat → Int32} {kI kZ : ClassId} {x y : Nat → Nat} (C : Cx p s m #[Value.ref b] c D (ty2 kI kZ) A 4 code R_law) (hX0 : va_X b L xs s s.heap) (hbl : b < s.heap.size) (hbA : ¬ A b) (hL : L ≤ 2048) (hr : meth.sig.returnType = ret) (hlk : meth.locks = false) (hA2 : ∀ q, A q → s.heap.size ≤ q) (N : Nat) : ∀ (i : Int) (ws : va_W), 0 ≤ i → i ≤ (L : Int) → ((L : Int) - i).toNat < N → HW kI kZ x y ws → JJ p l e room_1 s m #[Value.ref b] below meth c D A 4 (lw_Z below #[Value.ref b] s) 600000 7302250 18 [(0, .ref b), (1, .ref (x 0)), (2, .ref (y 0)), (3, .int (iI (i)))] [] ws := by
  induction N with
  | zero => intro i ws _ _ hN; omega
  | succ N ih =>
    intro i ws i0 i1 hN hw
    refine j_iload_n (q := 19) C 3 rfl d_L_law_18 rfl ?_
    refine j_aload_n (q := 20) C 0 rfl d_L_law_19 rfl ?_
    refine j_slen (q := 21) C hX0 hbl hbA d_L_law_20 rfl ?_
    refine j_iconst (q := 22) C d_L_law_21 rfl ?_
    refine j_isub (q := 23) C d_L_law_22 rfl ?_
    refine j_icmp_gt C 546 26 d_L_law_23 rfl rfl (by omega) (by omega) (fun c1 => ?_) (fun c1 => ?_)
    · refine j_iconst (q := 547) C d_L_law_546 rfl ?_
      intro H locs ls hP hD hS hl
      refine va_forget (fun q hq => hA2 _ (hS.2.2 q hq)) ?_
      exact lw_ret C.1 C.2.1 hr hlk d_L_law_547
    · have hi : 0 ≤ i ∧ i + 3 < (L : Int) := by omega
      have hk : ∀ ws, HW kI kZ x y ws → JJ p l e room_1 s m #[Value.ref b] below meth c D A 4 (lw_Z below #[Value.ref b] s) 600000 7302250 540 [(0, .ref b), (1, .ref (x 0)), (2, .ref (y 0)), (3, .int (iI (i)))] [] ws := by
        intro ws h
        refine j_iinc (q := 543) C 3 [(0, .ref b), (1, .ref (x 0)), (2, .ref (y 0)), (3, .int (iI (i + 4)))] rfl rfl (by decide) d_L_law_540 rfl ?_
        refine j_goto C 18 d_L_law_543 rfl ?_
        exact ih (i + 4) ws (by omega) (by omega) (by omega) h
      refine j_aload_n (q := 27) C 0 rfl d_L_law_26 rfl ?_
      refine j_iload_n (q := 28) C 3 rfl d_L_law_27 rfl ?_
      refine j_sld (q := 29) C hX0 hbl hbA hL (by omega) d_L_law_28 rfl ?_
      refine j_bipush (q := 31) C d_L_law_29 rfl rfl ?_
      refine j_and31 (q := 32) C d_L_law_31 rfl (fun z z0 z1 => ?_)
      rcases (show 18 < z ∨ z = 0 ∨ z = 1 ∨ z = 2 ∨ z = 3 ∨ z = 4 ∨ z = 5 ∨ z = 6 ∨ z = 7 ∨ z = 8 ∨ z = 9 ∨ z = 10 ∨ z = 11 ∨ z = 12 ∨ z = 13 ∨ z = 14 ∨ z = 15 ∨ z = 16 ∨ z = 17 ∨ z = 18 by omega) with hz | rfl | rfl | rfl | rfl | rfl | rfl | rfl | rfl | rfl | rfl | rfl | rfl | rfl | rfl | rfl | rfl | rfl | rfl | rfl
      · exact j_swOut C 540 d_L_law_32 (by omega) (Or.inr hz) rfl (hk ws hw)
      all_goals obtain ⟨WP, WL, WC, wn, wk, KS, KB, KE, KZ, KV, kn, kw, PW, RP, RS, rn, σ, sa, sm, sf, ss, XP, xn, BF, th, co, Rw, nw, Le, Lt, sn, Cd, Kp, We, mn, Bg, Sz, Td, Mp, ts, nr, Fo, np, Pl, Fw, hI, rfl⟩ := hw
      all_goals obtain rfl : We = PW := hI.2.2.1
      all_goals obtain rfl : ts = sm := hI.2.2.2.2.2.2.2.2.1
      · exact j_swIn C 124 d_L_law_32 (by omega) (by omega) (by omega) rfl rfl (lc_unit C hX0 hbl hbA hL hi hI hk)
      · exact j_swIn C 147 d_L_law_32 (by omega) (by omega) (by omega) rfl rfl (lc_word C hX0 hbl hbA hL hi hI hk)
      · exact j_swIn C 160 d_L_law_32 (by omega) (by omega) (by omega) rfl rfl (lc_sign C hX0 hbl hbA hL hi hI hk)
      · exact j_swIn C 183 d_L_law_32 (by omega) (by omega) (by omega) rfl rfl (lc_keep C hX0 hbl hbA hL hi hI hk)
      · exact j_swIn C 216 d_L_law_32 (by omega) (by omega) (by omega) rfl rfl (lc_pair C hX0 hbl hbA hL hi hI hk)
      · exact j_swIn C 259 d_L_law_32 (by omega) (by omega) (by omega) rfl rfl (lc_run C hX0 hbl hbA hL hi hI hk)
      · exact j_swIn C 282 d_L_law_32 (by omega) (by omega) (by omega) rfl rfl (lc_steps C hX0 hbl hbA hL hi hI hk)
      · exact j_swIn C 295 d_L_law_32 (by omega) (by omega) (by omega) rfl rfl (lc_letter C hX0 hbl hbA hL hi hI hk)
      · exact j_swIn C 328 d_L_law_32 (by omega) (by omega) (by omega) rfl rfl (lc_rank C hX0 hbl hbA hL hi hI hk)
      · exact j_swIn C 352 d_L_law_32 (by omega) (by omega) (by omega) rfl rfl (lc_best C hX0 hbl hbA hL hi hI hk)
      · exact j_swIn C 365 d_L_law_32 (by omega) (by omega) (by omega) rfl rfl (lc_hint C hX0 hbl hbA hL hi hI hk)
      · exact j_swIn C 378 d_L_law_32 (by omega) (by omega) (by omega) rfl rfl (lc_codewords C hX0 hbl hbA hL hi hI hk)
      · exact j_swIn C 391 d_L_law_32 (by omega) (by omega) (by omega) rfl rfl (lc_plain C hX0 hbl hbA hL hi hI hk)
      · exact j_swIn C 414 d_L_law_32 (by omega) (by omega) (by omega) rfl rfl (lc_shifted C hX0 hbl hbA hL hi hI hk)
      · exact j_swIn C 447 d_L_law_32 (by omega) (by omega) (by omega) rfl rfl (lc_bestShift C hX0 hbl hbA hL hi hI hk)
      · exact j_swIn C 460 d_L_law_32 (by omega) (by omega) (by omega) rfl rfl (lc_keyed C hX0 hbl hbA hL hi hI hk)
      · exact j_swIn C 493 d_L_law_32 (by omega) (by omega) (by omega) rfl rfl (lc_breaks C hX0 hbl hbA hL hi hI hk)
      · exact j_swIn C 506 d_L_law_32 (by omega) (by omega) (by omega) rfl rfl (lc_breakAt C hX0 hbl hbA hL hi hI hk)
      · exact j_swIn C 529 d_L_law_32 (by omega) (by omega) (by omega) rfl rfl (lc_clear C hX0 hbl hbA hL hi hI hk)
theorem arr_k {args : Array Value} {s : State} {ty : FieldType} (h : (Cond.arrayClass ty).before args s = true) : ∃ cA, ArrOfT s cA ty ∧ s.vm.findClass ("[" ++ ty.toString) = some cA := by
  obtain ⟨cA, kA, comp, h1, h2, h3⟩ := Cond.arrayClass_spec h
  exact ⟨cA, fun n z => ⟨fun k h => (by cases h), kA, h2, comp, h3⟩, h1⟩
def z0 : Nat → Int := fun _ => 0
theorem z0_r {a b : Int} (h : a ≤ 0 ∧ 0 ≤ b) : ∀ j, a ≤ z0 j ∧ z0 j ≤ b := fun _ => h
theorem z0_l {a b : Int} (h : a ≤ 0 ∧ 0 < b) : ∀ j, a ≤ z0 j ∧ z0 j < b := fun _ => h
theorem inv0 (th mn sa sf ss : Int) : INV z0 z0 z0 0 0 z0 z0 z0 z0 (zrB z0 (-1)) 0 0 z0 z0 z0 0 (z0, z0, z0, 0) sa 0 sf ss z0 0 z0 th 0 z0 0 z0 z0 0 z0 z0 z0 mn z0 z0 z0 z0 0 0 z0 0 z0 z0 := by
  have hV : ∀ j, -1 ≤ zrB z0 (-1) j ∧ zrB z0 (-1) j < 26 := fun j => by unfold zrB z0; split <;> omega
  have hK : IK z0 z0 z0 z0 (zrB z0 (-1)) 0 0 := ⟨by omega, by omega, z0_l (by omega), z0_l (by omega), z0_r (by omega), z0_r (by omega), hV⟩
  have hP : PT z0 z0 z0 0 0 := ⟨fun B S => ⟨rfl, fun k k0 k1 => absurd k1 (by omega)⟩, ⟨by omega, fun _ => by omega⟩, fun h => absurd h (by omega), fun k k0 k1 => absurd k1 (by omega), fun i i0 i1 => absurd i1 (by omega)⟩
  refine ⟨⟨⟨by omega, by omega, z0_r (by omega), z0_l (by omega), z0_l (by omega)⟩, rfl, rfl, fun a a0 a1 => absurd a1 (by omega), fun a j a0 a1 => absurd a1 (by omega), fun i i0 i1 => absurd i1 (by omega), z0_r (by omega), z0_r (by omega), z0_r (by omega)⟩,
    ⟨⟨by omega, z0_l (by omega)⟩, rfl, fun i i0 i1 => absurd i1 (by omega), z0_r (by omega)⟩, rfl, z0_r (by omega),
    ⟨hK, rfl, z0_r (by omega), fun i i0 i1 => absurd i1 (by omega), z0_r (by omega), fun n n0 n1 => ?_, fun n n0 n1 => ⟨fun h => absurd rfl h, fun ⟨i, i0, i1, _⟩ => absurd i1 (by omega)⟩, hP⟩,
    ⟨IRR.nil (rn := 0) ⟨by omega, z0_l (by omega), z0_l (by omega)⟩, rfl, fun k n k0 k1 => absurd k1 (by omega), z0_r (by omega)⟩, CR.nil,
    ⟨z0_l (by omega), z0_r (by omega), z0_l (by omega), by show (0 : Int) ≤ 0 ∧ (0 : Int) ≤ 26; omega⟩, rfl, z0_r (by omega), z0_r (by omega), z0_r (by omega), z0_r (by omega), fun _ _ => rfl, z0_r (by omega), z0_r (by omega)⟩
  rw [show zrB z0 (-1) n.toNat = -1 from if_pos (by omega)]
  rfl

def yM (h : Nat) (a : Nat × Nat × Nat × Nat × Nat × Nat × Nat × Nat × Nat × Nat × Nat × Nat × Nat) : Nat → Nat := fun k => match k with
  | 0 => h
  | 1 => a.1
  | 2 => a.2.1
  | 3 => a.2.2.1
  | 4 => a.2.2.2.1
  | 5 => a.2.2.2.2.1
  | 6 => a.2.2.2.2.2.1
  | 7 => a.2.2.2.2.2.2.1
  | 8 => a.2.2.2.2.2.2.2.1
  | 9 => a.2.2.2.2.2.2.2.2.1
  | 10 => a.2.2.2.2.2.2.2.2.2.1
  | 11 => a.2.2.2.2.2.2.2.2.2.2.1
  | 12 => a.2.2.2.2.2.2.2.2.2.2.2.1
  | 13 => a.2.2.2.2.2.2.2.2.2.2.2.2
  | _ => 0
set_option maxRecDepth 100000 in
set_option maxHeartbeats 4000000 in
theorem whole_start {p : Program} {e : Env} {s : State} {m : MethodId} {below : List Frame} {meth : Method} {c : Code} (l : Launch) {b L : Nat} {xs : Nat → Int32} (hL : L ≤ 2048) (C0 : lw_At p s m meth c b L xs) : W p l e room_1 s m #[Value.ref b] below meth c s.heap [] 0 0 (lw_Z below #[Value.ref b] s) (entryFrame m ([Value.ref b] : List Value).toArray 4) := by
  obtain ⟨hx, hb, hr, hml, hown, hts, hX, hbl, hlocks, hgv⟩ := id C0
  have hW : ∀ w ∈ wtb, w.before #[Value.ref b] s = true := fun w hw => hts w (wtb_in hw)
  obtain ⟨c0, iS0, hKn0⟩ := u_known (C := R_K) (T := F_K) (N := 7) (n := 7) hW i_K (hW _ is_K)
  obtain ⟨c1, iS1, hKn1⟩ := u_known (C := R_P) (T := F_P) (N := 1) (n := 1) hW i_P (hW _ is_P)
  obtain ⟨c2, iS2, hKn2⟩ := u_known (C := R_X) (T := F_X) (N := 2) (n := 2) hW i_X (hW _ is_X)
  obtain ⟨c3, iS3, hKn3⟩ := u_known (C := R_R) (T := F_R) (N := 3) (n := 3) hW i_R (hW _ is_R)
  obtain ⟨c4, iS4, hKn4⟩ := u_known (C := R_S) (T := F_S) (N := 11) (n := 11) hW i_S (hW _ is_S)
  obtain ⟨c5, iS5, hKn5⟩ := u_known (C := R_B) (T := F_B) (N := 3) (n := 3) hW i_B (hW _ is_B)
  obtain ⟨c6, iS6, hKn6⟩ := u_known (C := R_W) (T := F_W) (N := 5) (n := 5) hW i_W (hW _ is_W)
  obtain ⟨c7, iS7, hKn7⟩ := u_known (C := R_C) (T := F_C) (N := 7) (n := 7) hW i_C (hW _ is_C)
  obtain ⟨c8, iS8, hKn8⟩ := u_known (C := R_M) (T := F_M) (N := 21) (n := 21) hW i_M (hW _ is_M)
  obtain ⟨kI, hI1, hI2⟩ := arr_k (hW _ ar_I)
  obtain ⟨kZ, hZ1, hZ2⟩ := arr_k (hW _ ar_Z)
  obtain ⟨D, hKc⟩ : ∃ D : va_G, ∀ (k : Nat) (q : vw_C), cls[k]? = some q → u_Kn s q.1 q.2.1 q.2.2 (D.1 k) (D.2 k) := by
    refine ⟨(fun k => match k with | 0 => c0 | 1 => c1 | 2 => c2 | 3 => c3 | 4 => c4 | 5 => c5 | 6 => c6 | 7 => c7 | 8 => c8 | _ => c0, fun k => match k with | 0 => iS0 | 1 => iS1 | 2 => iS2 | 3 => iS3 | 4 => iS4 | 5 => iS5 | 6 => iS6 | 7 => iS7 | 8 => iS8 | _ => iS0), ?_⟩
    intro k q hq
    match k, hq with
    | 0, hq => cases hq; exact hKn0
    | 1, hq => cases hq; exact hKn1
    | 2, hq => cases hq; exact hKn2
    | 3, hq => cases hq; exact hKn3
    | 4, hq => cases hq; exact hKn4
    | 5, hq => cases hq; exact hKn5
    | 6, hq => cases hq; exact hKn6
    | 7, hq => cases hq; exact hKn7
    | 8, hq => cases hq; exact hKn8
    | k + 9, hq => simp [cls] at hq
  have hK : va_K D cls (ty2 kI kZ) s := by
    refine ⟨hKc, fun k q hq => ?_⟩
    match k, hq with
    | 0, hq => cases hq; exact ⟨hI1, hI2⟩
    | 1, hq => cases hq; exact ⟨hZ1, hZ2⟩
    | k + 2, hq => simp at hq
  have hN : NN s := fun q hq => va_Nw.of rfl (hts _ (nst_in _ (List.mem_map_of_mem hq)))
  have C : Cx p s m #[Value.ref b] c D (ty2 kI kZ) (fun q : Nat => s.heap.size ≤ q) 4 code R_law := ⟨hx, hb, hml, hown, hW, hK, fun _ h => h, hN⟩
  have K : JJ p l e room_1 s m #[Value.ref b] below meth c D (fun q : Nat => s.heap.size ≤ q) 4 (lw_Z below #[Value.ref b] s) 0 0 0 [(0, .ref b)] [] [] := by
    refine j_new (q := 3) (ci := 7) (fs := [.null, .null, .null, .null, .null, .null, .null]) C i_C t_C t_C_ok rfl cl_L_7 is_C ini_C (fun j hj => by have hq : j = 0 ∨ j = 1 ∨ j = 2 ∨ j = 3 ∨ j = 4 ∨ j = 5 ∨ j = 6 := (by omega); rcases hq with rfl | rfl | rfl | rfl | rfl | rfl | rfl <;> rfl) (Nat.le_of_ble_eq_true rfl) (Nat.le_of_ble_eq_true rfl) d_L_law_0 rfl (fun h0 => ?_)
    refine j_dup (q := 4) C rfl d_L_law_3 rfl ?_
    refine j_callI (q := 7) (st' := []) (wr := []) C [] [.ref h0] (c_C_init kI kZ h0) ml_L_9 mk_C_init in_C_init rfl [0] [] [0, 1, 2, 3, 4, 5, 6, 7, 8, 9, 10, 11, 12, 13, 14, 15, 16, 17, 18, 19, 20, 21, 22, 23] rfl (by decide) rfl (by decide) (by decide) (fun x : { x : Nat → Nat // x 0 = h0 } => [(x.1 0, .inr (7, [.ref (x.1 1), .ref (x.1 5), .ref (x.1 11), .ref (x.1 13), .ref (x.1 16), .ref (x.1 20), .ref (x.1 22)])), (x.1 1, .inr (6, [.ref (x.1 2), .ref (x.1 3), .ref (x.1 4), .int (iI (0)), .int (iI (0))])), (x.1 2, aI kI 480 z0), (x.1 3, aI kI 60 z0), (x.1 4, aI kI 8 z0), (x.1 5, .inr (0, [.ref (x.1 6), .ref (x.1 7), .ref (x.1 8), .ref (x.1 9), .ref (x.1 10), .int (iI (0)), .int (iI (0))])), (x.1 6, aI kI 60 z0), (x.1 7, aI kI 30 z0), (x.1 8, aI kI 30 z0), (x.1 9, aI kZ 26 z0), (x.1 10, aI kI 26 (zrB z0 (-1))), (x.1 11, .inr (1, [.ref (x.1 12)])), (x.1 12, aI kI 676 z0), (x.1 13, .inr (3, [.ref (x.1 14), .ref (x.1 15), .int (iI (0))])), (x.1 14, aI kI 5200 z0), (x.1 15, aI kI 200 z0), (x.1 17, aI kI 26 z0), (x.1 16, .inr (4, [.ref (x.1 1), .ref (x.1 5), .ref (x.1 13), .ref (x.1 17), .ref (x.1 18), .ref (x.1 19), .int (iI (0)), .int (iI (0)), .int (iI (0)), .int (iI (0)), .int (iI (0))])), (x.1 18, aI kZ 26 z0), (x.1 19, aI kI 26 z0), (x.1 20, .inr (2, [.ref (x.1 21), .int (iI (0))])), (x.1 21, aI kI 60 z0), (x.1 22, .inr (5, [.ref (x.1 1), .ref (x.1 20), .ref (x.1 23)])), (x.1 23, aI kI 61 z0)]) (fun _ => rfl) (by decide) rfl rfl (Nat.le_of_ble_eq_true rfl) ⟨Nat.le_of_ble_eq_true rfl, Nat.le_of_ble_eq_true rfl⟩ ⟨Nat.le_of_ble_eq_true rfl, Nat.le_of_ble_eq_true rfl⟩ d_L_law_4 rfl (fun x2 => ?_)
    obtain ⟨x, hx0⟩ := x2
    subst hx0
    refine j_widen (k := 30) (n := 10000) (Nat.le_of_ble_eq_true rfl) (Nat.le_of_ble_eq_true rfl) ?_
    show JJ p l e room_1 s m #[Value.ref b] below meth c D (fun q : Nat => s.heap.size ≤ q) 4 (lw_Z below #[Value.ref b] s) 30 10000 7 [(0, .ref b)] [.ref (x 0)] [(x 0, .inr (7, [.ref (x 1), .ref (x 5), .ref (x 11), .ref (x 13), .ref (x 16), .ref (x 20), .ref (x 22)])), (x 1, .inr (6, [.ref (x 2), .ref (x 3), .ref (x 4), .int (iI (0)), .int (iI (0))])), (x 2, aI kI 480 z0), (x 3, aI kI 60 z0), (x 4, aI kI 8 z0), (x 5, .inr (0, [.ref (x 6), .ref (x 7), .ref (x 8), .ref (x 9), .ref (x 10), .int (iI (0)), .int (iI (0))])), (x 6, aI kI 60 z0), (x 7, aI kI 30 z0), (x 8, aI kI 30 z0), (x 9, aI kZ 26 z0), (x 10, aI kI 26 (zrB z0 (-1))), (x 11, .inr (1, [.ref (x 12)])), (x 12, aI kI 676 z0), (x 13, .inr (3, [.ref (x 14), .ref (x 15), .int (iI (0))])), (x 14, aI kI 5200 z0), (x 15, aI kI 200 z0), (x 17, aI kI 26 z0), (x 16, .inr (4, [.ref (x 1), .ref (x 5), .ref (x 13), .ref (x 17), .ref (x 18), .ref (x 19), .int (iI (0)), .int (iI (0)), .int (iI (0)), .int (iI (0)), .int (iI (0))])), (x 18, aI kZ 26 z0), (x 19, aI kI 26 z0), (x 20, .inr (2, [.ref (x 21), .int (iI (0))])), (x 21, aI kI 60 z0), (x 22, .inr (5, [.ref (x 1), .ref (x 20), .ref (x 23)])), (x 23, aI kI 61 z0)]
    refine j_astore_n (q := 8) C [(0, .ref b), (1, .ref (x 0))] rfl (by decide) d_L_law_7 rfl ?_
    refine j_new (q := 11) (ci := 8) (fs := [.int (iI (0)), .int (iI (0)), .null, .int (iI (0)), .null, .null, .int (iI (0)), .null, .null, .null, .int (iI (0)), .null, .null, .null, .null, .int (iI (0)), .int (iI (0)), .null, .int (iI (0)), .null, .null]) C i_M t_M t_M_ok rfl cl_L_10 is_M ini_M (fun j hj => by have hq : j = 0 ∨ j = 1 ∨ j = 2 ∨ j = 3 ∨ j = 4 ∨ j = 5 ∨ j = 6 ∨ j = 7 ∨ j = 8 ∨ j = 9 ∨ j = 10 ∨ j = 11 ∨ j = 12 ∨ j = 13 ∨ j = 14 ∨ j = 15 ∨ j = 16 ∨ j = 17 ∨ j = 18 ∨ j = 19 ∨ j = 20 := (by omega); rcases hq with rfl | rfl | rfl | rfl | rfl | rfl | rfl | rfl | rfl | rfl | rfl | rfl | rfl | rfl | rfl | rfl | rfl | rfl | rfl | rfl | rfl <;> rfl) (Nat.le_of_ble_eq_true rfl) (Nat.le_of_ble_eq_true rfl) d_L_law_8 rfl (fun h1 => ?_)
    refine j_dup (q := 12) C rfl d_L_law_11 rfl ?_
    refine j_callI (q := 15) (st' := []) (wr := [(x 0, .inr (7, [.ref (x 1), .ref (x 5), .ref (x 11), .ref (x 13), .ref (x 16), .ref (x 20), .ref (x 22)])), (x 1, .inr (6, [.ref (x 2), .ref (x 3), .ref (x 4), .int (iI (0)), .int (iI (0))])), (x 2, aI kI 480 z0), (x 3, aI kI 60 z0), (x 4, aI kI 8 z0), (x 5, .inr (0, [.ref (x 6), .ref (x 7), .ref (x 8), .ref (x 9), .ref (x 10), .int (iI (0)), .int (iI (0))])), (x 6, aI kI 60 z0), (x 7, aI kI 30 z0), (x 8, aI kI 30 z0), (x 9, aI kZ 26 z0), (x 10, aI kI 26 (zrB z0 (-1))), (x 11, .inr (1, [.ref (x 12)])), (x 12, aI kI 676 z0), (x 13, .inr (3, [.ref (x 14), .ref (x 15), .int (iI (0))])), (x 14, aI kI 5200 z0), (x 15, aI kI 200 z0), (x 17, aI kI 26 z0), (x 16, .inr (4, [.ref (x 1), .ref (x 5), .ref (x 13), .ref (x 17), .ref (x 18), .ref (x 19), .int (iI (0)), .int (iI (0)), .int (iI (0)), .int (iI (0)), .int (iI (0))])), (x 18, aI kZ 26 z0), (x 19, aI kI 26 z0), (x 20, .inr (2, [.ref (x 21), .int (iI (0))])), (x 21, aI kI 60 z0), (x 22, .inr (5, [.ref (x 1), .ref (x 20), .ref (x 23)])), (x 23, aI kI 61 z0)]) C [] [.ref h1] (c_M_init kI kZ h1) ml_L_12 mk_M_init in_M_init rfl [24] [0, 1, 2, 3, 4, 5, 6, 7, 8, 9, 10, 11, 12, 13, 14, 15, 16, 17, 18, 19, 20, 21, 22, 23] [0, 1, 2, 3, 4, 5, 6, 7, 8, 9, 10, 11, 12, 13, 14, 15, 16, 17, 18, 19, 20, 21, 22, 23, 24, 25, 26, 27, 28, 29, 30, 31, 32, 33, 34, 35, 36, 37] rfl (by decide) rfl (by decide) (by decide) (fun a => [(x 0, .inr (7, [.ref (x 1), .ref (x 5), .ref (x 11), .ref (x 13), .ref (x 16), .ref (x 20), .ref (x 22)])), (x 1, .inr (6, [.ref (x 2), .ref (x 3), .ref (x 4), .int (iI (0)), .int (iI (0))])), (x 2, aI kI 480 z0), (x 3, aI kI 60 z0), (x 4, aI kI 8 z0), (x 5, .inr (0, [.ref (x 6), .ref (x 7), .ref (x 8), .ref (x 9), .ref (x 10), .int (iI (0)), .int (iI (0))])), (x 6, aI kI 60 z0), (x 7, aI kI 30 z0), (x 8, aI kI 30 z0), (x 9, aI kZ 26 z0), (x 10, aI kI 26 (zrB z0 (-1))), (x 11, .inr (1, [.ref (x 12)])), (x 12, aI kI 676 z0), (x 13, .inr (3, [.ref (x 14), .ref (x 15), .int (iI (0))])), (x 14, aI kI 5200 z0), (x 15, aI kI 200 z0), (x 17, aI kI 26 z0), (x 16, .inr (4, [.ref (x 1), .ref (x 5), .ref (x 13), .ref (x 17), .ref (x 18), .ref (x 19), .int (iI (0)), .int (iI (0)), .int (iI (0)), .int (iI (0)), .int (iI (0))])), (x 18, aI kZ 26 z0), (x 19, aI kI 26 z0), (x 20, .inr (2, [.ref (x 21), .int (iI (0))])), (x 21, aI kI 60 z0), (x 22, .inr (5, [.ref (x 1), .ref (x 20), .ref (x 23)])), (x 23, aI kI 61 z0), (h1, .inr (8, [.int (iI (0)), .int (iI (0)), .ref a.1, .int (iI (0)), .ref a.2.1, .ref a.2.2.1, .int (iI (0)), .ref a.2.2.2.1, .ref a.2.2.2.2.1, .ref a.2.2.2.2.2.1, .int (iI (0)), .ref a.2.2.2.2.2.2.1, .ref a.2.2.2.2.2.2.2.1, .ref a.2.2.2.2.2.2.2.2.1, .ref a.2.2.2.2.2.2.2.2.2.1, .int (iI (0)), .int (iI (0)), .ref a.2.2.2.2.2.2.2.2.2.2.1, .int (iI (0)), .ref a.2.2.2.2.2.2.2.2.2.2.2.1, .ref a.2.2.2.2.2.2.2.2.2.2.2.2])), (a.1, aI kI 8 z0), (a.2.1, aI kI 60 z0), (a.2.2.1, aI kI 480 z0), (a.2.2.2.1, aI kI 60 z0), (a.2.2.2.2.1, aI kI 26 z0), (a.2.2.2.2.2.1, aI kI 676 z0), (a.2.2.2.2.2.2.1, aI kI 60 z0), (a.2.2.2.2.2.2.2.1, aI kI 60 z0), (a.2.2.2.2.2.2.2.2.1, aI kI 61 z0), (a.2.2.2.2.2.2.2.2.2.1, aI kI 26 z0), (a.2.2.2.2.2.2.2.2.2.2.1, aI kI 5200 z0), (a.2.2.2.2.2.2.2.2.2.2.2.1, aI kI 60 z0), (a.2.2.2.2.2.2.2.2.2.2.2.2, aI kI 61 z0)]) (fun _ => rfl) (by decide) rfl rfl (Nat.le_of_ble_eq_true rfl) ⟨Nat.le_of_ble_eq_true rfl, Nat.le_of_ble_eq_true rfl⟩ ⟨Nat.le_of_ble_eq_true rfl, Nat.le_of_ble_eq_true rfl⟩ d_L_law_12 rfl (fun a => ?_)
    refine j_widen (k := 600000) (n := 7302250) (Nat.le_of_ble_eq_true rfl) (Nat.le_of_ble_eq_true rfl) ?_
    show JJ p l e room_1 s m #[Value.ref b] below meth c D (fun q : Nat => s.heap.size ≤ q) 4 (lw_Z below #[Value.ref b] s) 600000 7302250 15 [(0, .ref b), (1, .ref (x 0))] [.ref (yM h1 a 0)] [(x 0, .inr (7, [.ref (x 1), .ref (x 5), .ref (x 11), .ref (x 13), .ref (x 16), .ref (x 20), .ref (x 22)])), (x 1, .inr (6, [.ref (x 2), .ref (x 3), .ref (x 4), .int (iI (0)), .int (iI (0))])), (x 2, aI kI 480 z0), (x 3, aI kI 60 z0), (x 4, aI kI 8 z0), (x 5, .inr (0, [.ref (x 6), .ref (x 7), .ref (x 8), .ref (x 9), .ref (x 10), .int (iI (0)), .int (iI (0))])), (x 6, aI kI 60 z0), (x 7, aI kI 30 z0), (x 8, aI kI 30 z0), (x 9, aI kZ 26 z0), (x 10, aI kI 26 (zrB z0 (-1))), (x 11, .inr (1, [.ref (x 12)])), (x 12, aI kI 676 z0), (x 13, .inr (3, [.ref (x 14), .ref (x 15), .int (iI (0))])), (x 14, aI kI 5200 z0), (x 15, aI kI 200 z0), (x 17, aI kI 26 z0), (x 16, .inr (4, [.ref (x 1), .ref (x 5), .ref (x 13), .ref (x 17), .ref (x 18), .ref (x 19), .int (iI (0)), .int (iI (0)), .int (iI (0)), .int (iI (0)), .int (iI (0))])), (x 18, aI kZ 26 z0), (x 19, aI kI 26 z0), (x 20, .inr (2, [.ref (x 21), .int (iI (0))])), (x 21, aI kI 60 z0), (x 22, .inr (5, [.ref (x 1), .ref (x 20), .ref (x 23)])), (x 23, aI kI 61 z0), ((yM h1 a 0), .inr (8, [.int (iI (0)), .int (iI (0)), .ref (yM h1 a 1), .int (iI (0)), .ref (yM h1 a 2), .ref (yM h1 a 3), .int (iI (0)), .ref (yM h1 a 4), .ref (yM h1 a 5), .ref (yM h1 a 6), .int (iI (0)), .ref (yM h1 a 7), .ref (yM h1 a 8), .ref (yM h1 a 9), .ref (yM h1 a 10), .int (iI (0)), .int (iI (0)), .ref (yM h1 a 11), .int (iI (0)), .ref (yM h1 a 12), .ref (yM h1 a 13)])), ((yM h1 a 1), aI kI 8 z0), ((yM h1 a 2), aI kI 60 z0), ((yM h1 a 3), aI kI 480 z0), ((yM h1 a 4), aI kI 60 z0), ((yM h1 a 5), aI kI 26 z0), ((yM h1 a 6), aI kI 676 z0), ((yM h1 a 7), aI kI 60 z0), ((yM h1 a 8), aI kI 60 z0), ((yM h1 a 9), aI kI 61 z0), ((yM h1 a 10), aI kI 26 z0), ((yM h1 a 11), aI kI 5200 z0), ((yM h1 a 12), aI kI 60 z0), ((yM h1 a 13), aI kI 61 z0)]
    generalize yM h1 a = y
    refine j_astore_n (q := 16) C [(0, .ref b), (1, .ref (x 0)), (2, .ref (y 0))] rfl (by decide) d_L_law_15 rfl ?_
    refine j_iconst (q := 17) C d_L_law_16 rfl ?_
    refine j_istore_n (q := 18) C [(0, .ref b), (1, .ref (x 0)), (2, .ref (y 0)), (3, .int (iI 0))] rfl (by decide) d_L_law_17 rfl ?_
    exact law_loop C hX hbl (Nat.not_le.mpr hbl) hL hr hlocks (fun _ h => h) (L + 1) 0 _ (by omega) (by omega) (by omega) ⟨z0, z0, z0, 0, 0, z0, z0, z0, z0, zrB z0 (-1), 0, 0, z0, z0, z0, 0, (z0, z0, z0, 0), 0, 0, 0, 0, z0, 0, z0, 0, 0, z0, 0, z0, z0, 0, z0, z0, z0, 0, z0, z0, z0, z0, 0, 0, z0, 0, z0, z0, inv0 0 0 0 0 0, rfl⟩
  have hl := lv_entry ([.ref b]) (n := 4) (Nat.le_of_ble_eq_true rfl)
  rw [lg_entry_eq]
  exact K s.heap [] _ (fun k q h => by simp at h) ⟨fun i j p q h => by simp at h, fun k q h => by simp at h⟩ va_S.rf hl
