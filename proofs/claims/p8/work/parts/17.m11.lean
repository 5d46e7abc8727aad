set_option maxRecDepth 100000 in
set_option maxHeartbeats 4000000 in
theorem c_J_bitCount (l : Launch) (x : Int64) : Met l y_J_bitCount (wS y_J_bitCount b_J_bitCount 2 (some .int)) (rD 0) (va_Pc [.long x] (fun U => NWs U)) (vp_Si (fun r => ∃ v, v < 128 ∧ r = nI v)) 0 0 (fun _ => False) := by
  refine x_enter (by decide) (Nat.le_of_ble_eq_true rfl) ?_
  intro p e s m below meth c ls hx hb hr hml hT hown hlk hnm hl hB
  have hN : NWs s := hB
  have hl : lv_has ls 2 [(0, .long x)] := hl
  have hown : s.vm.findClass R_J = some m.cls := hown
  refine lv_lload_n hx hb d_J_bitCount_0 rfl (lv_at hl 0 rfl) ?_
  refine lv_lload_n hx hb d_J_bitCount_1 rfl (lv_at hl 0 rfl) ?_
  refine lv_iconst (v := nI 1) hx hb d_J_bitCount_2 (by decide) ?_
  refine lv_lushr hx hb d_J_bitCount_3 rfl ?_
  refine lv_topl (fun y1_ _ => ?_)
  refine lv_ldc2 (v := 6148914691236517205) hx hb hown (hT _ k_J_314) d_J_bitCount_4 ?_
  refine lv_land hx hb d_J_bitCount_7 ?_
  refine lv_topl (fun y2_ _ => ?_)
  refine lv_lsub hx hb d_J_bitCount_8 ?_
  refine lv_topl (fun y3_ _ => ?_)
  refine lv_lstore_n (lv' := [(0, .long y3_)]) hx hb d_J_bitCount_9 rfl hl (by decide) rfl (fun ls hl => ?_)
  refine lv_lload_n hx hb d_J_bitCount_10 rfl (lv_at hl 0 rfl) ?_
  refine lv_ldc2 (v := 3689348814741910323) hx hb hown (hT _ k_J_316) d_J_bitCount_11 ?_
  refine lv_land hx hb d_J_bitCount_14 ?_
  refine lv_topl (fun y4_ _ => ?_)
  refine lv_lload_n hx hb d_J_bitCount_15 rfl (lv_at hl 0 rfl) ?_
  refine lv_iconst (v := nI 2) hx hb d_J_bitCount_16 (by decide) ?_
  refine lv_lushr hx hb d_J_bitCount_17 rfl ?_
  refine lv_topl (fun y5_ _ => ?_)
  refine lv_ldc2 (v := 3689348814741910323) hx hb hown (hT _ k_J_316) d_J_bitCount_18 ?_
  refine lv_land hx hb d_J_bitCount_21 ?_
  refine lv_topl (fun y6_ _ => ?_)
  refine lv_ladd hx hb d_J_bitCount_22 ?_
  refine lv_topl (fun y7_ _ => ?_)
  refine lv_lstore_n (lv' := [(0, .long y7_)]) hx hb d_J_bitCount_23 rfl hl (by decide) rfl (fun ls hl => ?_)
  refine lv_lload_n hx hb d_J_bitCount_24 rfl (lv_at hl 0 rfl) ?_
  refine lv_lload_n hx hb d_J_bitCount_25 rfl (lv_at hl 0 rfl) ?_
  refine lv_iconst (v := nI 4) hx hb d_J_bitCount_26 (by decide) ?_
  refine lv_lushr hx hb d_J_bitCount_27 rfl ?_
  refine lv_topl (fun y8_ _ => ?_)
  refine lv_ladd hx hb d_J_bitCount_28 ?_
  refine lv_topl (fun y9_ _ => ?_)
  refine lv_ldc2 (v := 1085102592571150095) hx hb hown (hT _ k_J_318) d_J_bitCount_29 ?_
  refine lv_land hx hb d_J_bitCount_32 ?_
  refine lv_topl (fun y10_ _ => ?_)
  refine lv_lstore_n (lv' := [(0, .long y10_)]) hx hb d_J_bitCount_33 rfl hl (by decide) rfl (fun ls hl => ?_)
  refine lv_lload_n hx hb d_J_bitCount_34 rfl (lv_at hl 0 rfl) ?_
  refine lv_lload_n hx hb d_J_bitCount_35 rfl (lv_at hl 0 rfl) ?_
  refine lv_bipush (v := nI 8) hx hb d_J_bitCount_36 (by decide) ?_
  refine lv_lushr hx hb d_J_bitCount_38 rfl ?_
  refine lv_topl (fun y11_ _ => ?_)
  refine lv_ladd hx hb d_J_bitCount_39 ?_
  refine lv_topl (fun y12_ _ => ?_)
  refine lv_lstore_n (lv' := [(0, .long y12_)]) hx hb d_J_bitCount_40 rfl hl (by decide) rfl (fun ls hl => ?_)
  refine lv_lload_n hx hb d_J_bitCount_41 rfl (lv_at hl 0 rfl) ?_
  refine lv_lload_n hx hb d_J_bitCount_42 rfl (lv_at hl 0 rfl) ?_
  refine lv_bipush (v := nI 16) hx hb d_J_bitCount_43 (by decide) ?_
  refine lv_lushr hx hb d_J_bitCount_45 rfl ?_
  refine lv_topl (fun y13_ _ => ?_)
  refine lv_ladd hx hb d_J_bitCount_46 ?_
  refine lv_topl (fun y14_ _ => ?_)
  refine lv_lstore_n (lv' := [(0, .long y14_)]) hx hb d_J_bitCount_47 rfl hl (by decide) rfl (fun ls hl => ?_)
  refine lv_lload_n hx hb d_J_bitCount_48 rfl (lv_at hl 0 rfl) ?_
  refine lv_lload_n hx hb d_J_bitCount_49 rfl (lv_at hl 0 rfl) ?_
  refine lv_bipush (v := nI 32) hx hb d_J_bitCount_50 (by decide) ?_
  refine lv_lushr hx hb d_J_bitCount_52 rfl ?_
  refine lv_topl (fun y15_ _ => ?_)
  refine lv_ladd hx hb d_J_bitCount_53 ?_
  refine lv_topl (fun y16_ _ => ?_)
  refine lv_lstore_n (lv' := [(0, .long y16_)]) hx hb d_J_bitCount_54 rfl hl (by decide) rfl (fun ls hl => ?_)
  refine lv_lload_n hx hb d_J_bitCount_55 rfl (lv_at hl 0 rfl) ?_
  refine lv_l2i hx hb d_J_bitCount_56 rfl ?_
  refine lv_topi (fun y17_ _ => ?_)
  refine lv_bipush (v := nI 127) hx hb d_J_bitCount_57 (by decide) ?_
  refine lv_iand hx hb d_J_bitCount_59 ?_
  exact x_ri hx hb hr hlk d_J_bitCount_60 ⟨_, Nat.mod_lt _ (by decide), pk_and _ 7 (by decide)⟩

set_option maxRecDepth 100000 in
set_option maxHeartbeats 4000000 in
theorem c_A_broader (l : Launch) (dC : Nat → ClassId) (dI : Nat → Nat → Nat) (a : Nat → Nat) (t : Nat → ClassId) (σ : SA) (hG : GA σ) (x y : Int32) : Met l y_A_broader (wS y_A_broader b_A_broader 10 (some .int)) (rD 3) (va_Pc [.ref (a 0), .int x, .int y] (RB (dC, dI) (yA t) (wA a t σ))) (vp_Si (fun r => (¬ (∃ j i, 1 ≤ j ∧ j ≤ a_hn σ ∧ a_lv σ j = 1 ∧ x = nI j ∧ i < 2 ^ 31 ∧ y = nI i) ∧ r = nI 0) ∨ ((∃ j i, 1 ≤ j ∧ j ≤ a_hn σ ∧ a_lv σ j = 1 ∧ x = nI j ∧ i < 2 ^ 31 ∧ y = nI i) ∧ ∃ v, v ≤ 60 ∧ r = nI v))) 0 0 (fun _ => False) := by
  refine x_enter (by decide) (Nat.le_of_ble_eq_true rfl) ?_
  intro p e s m below meth c ls hx hb hr hml hT hown hlk hnm hl hB
  obtain ⟨hP, hK, hN⟩ := hB
  have hl : lv_has ls 10 [(0, .ref (a 0)), (1, .int x), (2, .int y)] := hl
  have hown : s.vm.findClass R_A = some m.cls := hown
  have hG2 := hG
  obtain ⟨g_sn, g_sg, g_tn, g_tx, g_kd, g_lv, g_le, g_ln, g_hn, g_lf, g_lt, g_lc, g_rh, g_rn, g_ws, g_wn⟩ := hG
  refine lv_aload_n hx hb d_A_broader_0 rfl (lv_at hl 0 rfl) ?_
  refine va_get (D := (dC, dI)) (C := R_A) (T := F_A) (N := 6) hx hb hT i_A hown hK hP 0 rfl rfl 2 (by decide) (hT _ k_A_26) (fun _ h9 => h9) (v := .ref (a 5)) rfl d_A_broader_1 ?_
  refine lv_iload_n hx hb d_A_broader_4 rfl (lv_at hl 1 rfl) ?_
  refine x_ci (x_runV ⟨hx, hb, hml, hown, hT⟩ (c_H_isLive l dC dI a t σ hG2 x) f_H_isLive k_A_63 blR (va_recv hK hP (ci := 2) (q0 := 5) rfl rfl) (x_bR hK hP hN) hl.1 d_A_broader_5 rfl (lv_room (Nat.le_of_ble_eq_true rfl)) ⟨Nat.le_of_ble_eq_true rfl, Nat.le_of_ble_eq_true rfl⟩ ⟨rfl, rfl⟩ ⟨Nat.le_refl 0, Nat.le_refl 0⟩ rfl) (fun r5 q5 => ?_)
  rcases q5 with ⟨rfl, j, hj1, hj2, hj3, rfl⟩ | ⟨rfl, hnj⟩
  · refine x_if_eq (tgt := 15) hx hb d_A_broader_8 (by decide) (fun h => absurd h (by decide)) (fun _ => ?_)
    refine lv_iload_n hx hb d_A_broader_11 rfl (lv_at hl 2 rfl) ?_
    refine lv_if_ge (tgt := 17) hx hb d_A_broader_12 (by decide) (fun c12 => ?_) (fun c12 => ?_)
    · obtain ⟨i, hi, rfl⟩ := nI_of (show ¬ y < 0 from Int32.not_lt.mpr c12)
      refine lv_iload_n hx hb d_A_broader_17 rfl (lv_at hl 2 rfl) ?_
      refine lv_istore_n (lv' := [(3, .int (nI i)), (0, .ref (a 0)), (1, .int (nI j)), (2, .int (nI i))]) hx hb d_A_broader_18 rfl hl (by decide) rfl (fun ls hl => ?_)
      refine lv_iload_n hx hb d_A_broader_19 rfl (lv_at hl 2 rfl) ?_
      refine x_cl (x_runS ⟨hx, hb, hml, hown, hT⟩ (c_A_setOf l j (by omega)) f_A_setOf k_A_104 blT (x_bT hN) hl.1 d_A_broader_20 rfl (lv_room (Nat.le_of_ble_eq_true rfl)) ⟨Nat.le_of_ble_eq_true rfl, Nat.le_of_ble_eq_true rfl⟩ ⟨rfl, rfl⟩ ⟨Nat.le_refl 0, Nat.le_refl 0⟩ rfl) (fun r20 q20 => ?_)
      subst q20
      refine lv_lstore (lv' := [(4, .long (sg j)), (3, .int (nI i)), (0, .ref (a 0)), (1, .int (nI j)), (2, .int (nI i))]) hx hb d_A_broader_23 hl (by decide) rfl (fun ls hl => ?_)
      refine lv_aload_n hx hb d_A_broader_25 rfl (lv_at hl 2 rfl) ?_
      refine va_get (D := (dC, dI)) (C := R_A) (T := F_A) (N := 6) hx hb hT i_A hown hK hP 0 rfl rfl 3 (by decide) (hT _ k_A_33) (fun _ h9 => h9) (v := .ref (a 10)) rfl d_A_broader_26 ?_
      refine lv_iconst (v := nI 2) hx hb d_A_broader_29 (by decide) ?_
      refine lv_iload_n hx hb d_A_broader_30 rfl (lv_at hl 3 rfl) ?_
      refine x_cl (x_runV ⟨hx, hb, hml, hown, hT⟩ (c_K_targetsOf l dC dI a t σ 2 j (by omega) (by omega) (by omega)) f_K_targetsOf k_A_116 blR (va_recv hK hP (ci := 3) (q0 := 10) rfl rfl) (x_bR hK hP hN) hl.1 d_A_broader_31 rfl (lv_room (Nat.le_of_ble_eq_true rfl)) ⟨Nat.le_of_ble_eq_true rfl, Nat.le_of_ble_eq_true rfl⟩ ⟨rfl, rfl⟩ ⟨Nat.le_refl 0, Nat.le_refl 0⟩ rfl) (fun r31 q31 => ?_)
      subst q31
      refine lv_lstore (lv' := [(6, .long (a_tg σ (2 * 61 + j))), (4, .long (sg j)), (3, .int (nI i)), (0, .ref (a 0)), (1, .int (nI j)), (2, .int (nI i))]) hx hb d_A_broader_34 hl (by decide) rfl (fun ls hl => ?_)
      refine lv_iconst (v := nI 1) hx hb d_A_broader_36 (by decide) ?_
      refine lv_istore (lv' := [(8, .int (nI 1)), (6, .long (a_tg σ (2 * 61 + j))), (4, .long (sg j)), (3, .int (nI i)), (0, .ref (a 0)), (1, .int (nI j)), (2, .int (nI i))]) hx hb d_A_broader_37 hl (by decide) rfl (fun ls hl => ?_)
      have hloop39 : ∀ (n39 : Nat) (k : Nat) (f : Nat) (sv : Int64) (lx : Int64) (ls : Array Slot), 1 ≤ k ∧ k ≤ 60 → f < 2 ^ 31 → 61 - k < n39 → lv_has ls 10 [(0, .ref (a 0)), (1, .int (nI j)), (2, .int (nI i)), (3, .int (nI f)), (4, .long sv), (6, .long lx), (8, .int (nI k))] → W p l e (rD 3) s m ([.ref (a 0), .int (nI j), .int (nI i)] : List Value).toArray below meth c s.heap [] 0 0 (MQ below (vp_Si (fun r => (¬ (∃ j' i', 1 ≤ j' ∧ j' ≤ a_hn σ ∧ a_lv σ j' = 1 ∧ nI j = nI j' ∧ i' < 2 ^ 31 ∧ nI i = nI i') ∧ r = nI 0) ∨ ((∃ j' i', 1 ≤ j' ∧ j' ≤ a_hn σ ∧ a_lv σ j' = 1 ∧ nI j = nI j' ∧ i' < 2 ^ 31 ∧ nI i = nI i') ∧ ∃ v, v ≤ 60 ∧ r = nI v))) ([.ref (a 0), .int (nI j), .int (nI i)] : List Value).toArray s 0 0 (fun _ => False)) (F0 m 39 ls []) := by
        intro n39
        induction n39 with
        | zero => intro k f sv lx ls _ _ h9; exact absurd h9 (Nat.not_lt_zero _)
        | succ n39 ih39 =>
          intro k f sv lx ls hk hf hmu39 hl
          refine lv_iload hx hb d_A_broader_39 (lv_at hl 6 rfl) ?_
          refine lv_bipush (v := nI 60) hx hb d_A_broader_41 (by decide) ?_
          refine x_icmp_ge (tgt := 110) hx hb d_A_broader_43 (by decide) (fun c43 => ?_) (fun c43 => ?_)
          · refine lv_iconst (v := nI 0) hx hb d_A_broader_110 (by decide) ?_
            exact x_ri hx hb hr hlk d_A_broader_111 (Or.inr ⟨⟨j, i, hj1, hj2, hj3, rfl, hi, rfl⟩, 0, by omega, rfl⟩)
          · refine lv_lload hx hb d_A_broader_46 (lv_at hl 5 rfl) ?_
            refine lv_lconst (v := 0) hx hb d_A_broader_48 (by decide) ?_
            refine x_lif_eq (tgt := 110) hx hb d_A_broader_49 d_A_broader_50 (by decide) (fun c49 => ?_) (fun c49 => ?_)
            · refine lv_iconst (v := nI 0) hx hb d_A_broader_110 (by decide) ?_
              exact x_ri hx hb hr hlk d_A_broader_111 (Or.inr ⟨⟨j, i, hj1, hj2, hj3, rfl, hi, rfl⟩, 0, by omega, rfl⟩)
            · refine lv_lload hx hb d_A_broader_53 (lv_at hl 5 rfl) ?_
              refine x_ci (x_runS ⟨hx, hb, hml, hown, hT⟩ (c_J_bitCount l lx) f_J_bitCount k_A_120 blT (x_bT hN) hl.1 d_A_broader_55 rfl (lv_room (Nat.le_of_ble_eq_true rfl)) ⟨Nat.le_of_ble_eq_true rfl, Nat.le_of_ble_eq_true rfl⟩ ⟨rfl, rfl⟩ ⟨Nat.le_refl 0, Nat.le_refl 0⟩ rfl) (fun r55 q55 => ?_)
              obtain ⟨bc, hbc, rfl⟩ := q55
              refine lv_istore (lv' := [(9, .int (nI bc)), (0, .ref (a 0)), (1, .int (nI j)), (2, .int (nI i)), (3, .int (nI f)), (4, .long sv), (6, .long lx), (8, .int (nI k))]) hx hb d_A_broader_58 hl (by decide) rfl (fun ls hl => ?_)
              refine lv_iload_n hx hb d_A_broader_60 rfl (lv_at hl 4 rfl) ?_
              refine lv_iload hx hb d_A_broader_61 (lv_at hl 0 rfl) ?_
              refine x_icmp_ge (tgt := 73) hx hb d_A_broader_63 (by decide) (fun c63 => ?_) (fun c63 => ?_)
              · refine lv_iload_n hx hb d_A_broader_73 rfl (lv_at hl 4 rfl) ?_
                refine lv_iload hx hb d_A_broader_74 (lv_at hl 0 rfl) ?_
                refine x_isub hx hb d_A_broader_76 ?_
                refine lv_istore_n (lv' := [(3, .int (nI (f - bc))), (9, .int (nI bc)), (0, .ref (a 0)), (1, .int (nI j)), (2, .int (nI i)), (4, .long sv), (6, .long lx), (8, .int (nI k))]) hx hb d_A_broader_77 rfl hl (by decide) rfl (fun ls hl => ?_)
                refine lv_lload hx hb d_A_broader_78 (lv_at hl 5 rfl) ?_
                refine lv_lload hx hb d_A_broader_80 (lv_at hl 6 rfl) ?_
                refine lv_lor hx hb d_A_broader_82 ?_
                refine lv_lstore (lv' := [(4, .long (sv ||| lx)), (3, .int (nI (f - bc))), (9, .int (nI bc)), (0, .ref (a 0)), (1, .int (nI j)), (2, .int (nI i)), (6, .long lx), (8, .int (nI k))]) hx hb d_A_broader_83 hl (by decide) rfl (fun ls hl => ?_)
                refine lv_aload_n hx hb d_A_broader_85 rfl (lv_at hl 3 rfl) ?_
                refine va_get (D := (dC, dI)) (C := R_A) (T := F_A) (N := 6) hx hb hT i_A hown hK hP 0 rfl rfl 3 (by decide) (hT _ k_A_33) (fun _ h9 => h9) (v := .ref (a 10)) rfl d_A_broader_86 ?_
                refine lv_iconst (v := nI 2) hx hb d_A_broader_89 (by decide) ?_
                refine lv_lload hx hb d_A_broader_90 (lv_at hl 6 rfl) ?_
                refine x_cl (x_runV ⟨hx, hb, hml, hown, hT⟩ (c_K_targetsOfAll l dC dI a t σ 2 lx (by omega)) f_K_targetsOfAll k_A_126 blR (va_recv hK hP (ci := 3) (q0 := 10) rfl rfl) (x_bR hK hP hN) hl.1 d_A_broader_92 rfl (lv_room (Nat.le_of_ble_eq_true rfl)) ⟨Nat.le_of_ble_eq_true rfl, Nat.le_of_ble_eq_true rfl⟩ ⟨rfl, rfl⟩ ⟨Nat.le_refl 0, Nat.le_refl 0⟩ rfl) (fun av q92 => ?_)
                refine lv_lload hx hb d_A_broader_95 (lv_at hl 0 rfl) ?_
                refine lv_ldc2 (v := -1) hx hb hown (hT _ k_A_129) d_A_broader_97 ?_
                refine lv_lxor hx hb d_A_broader_100 ?_
                refine lv_land hx hb d_A_broader_101 ?_
                refine lv_lstore (lv' := [(6, .long (av &&& ((sv ||| lx) ^^^ ((-1))))), (4, .long (sv ||| lx)), (3, .int (nI (f - bc))), (9, .int (nI bc)), (0, .ref (a 0)), (1, .int (nI j)), (2, .int (nI i)), (8, .int (nI k))]) hx hb d_A_broader_102 hl (by decide) rfl (fun ls hl => ?_)
                refine x_iinc (lv' := [(8, .int (nI (k + 1))), (6, .long (av &&& ((sv ||| lx) ^^^ ((-1))))), (4, .long (sv ||| lx)), (3, .int (nI (f - bc))), (9, .int (nI bc)), (0, .ref (a 0)), (1, .int (nI j)), (2, .int (nI i))]) hx hb d_A_broader_104 hl (k := 7) rfl (by decide) rfl (fun ls hl => ?_)
                refine lv_goto (tgt := 39) hx hb d_A_broader_107 (by decide) ?_
                exact ih39 (k + 1) _ _ _ ls (by omega) (by omega) (by omega) (lv_sub hl [5, 6, 7, 3, 2, 1, 0] rfl)
              · refine lv_lload hx hb d_A_broader_66 (lv_at hl 6 rfl) ?_
                refine lv_iload_n hx hb d_A_broader_68 rfl (lv_at hl 4 rfl) ?_
                refine x_ci (x_runS ⟨hx, hb, hml, hown, hT⟩ (c_A_nthOf l lx f hf) f_A_nthOf k_A_112 blT (x_bT hN) hl.1 d_A_broader_69 rfl (lv_room (Nat.le_of_ble_eq_true rfl)) ⟨Nat.le_of_ble_eq_true rfl, Nat.le_of_ble_eq_true rfl⟩ ⟨rfl, rfl⟩ ⟨Nat.le_refl 0, Nat.le_refl 0⟩ rfl) (fun r69 q69 => ?_)
                obtain ⟨v, hv, rfl, _⟩ := NTH_N q69
                exact x_ri hx hb hr hlk d_A_broader_72 (Or.inr ⟨⟨j, i, hj1, hj2, hj3, rfl, hi, rfl⟩, v, hv, rfl⟩)
      exact hloop39 _ 1 i _ _ ls (by omega) hi (Nat.lt_succ_self _) (lv_sub hl [4, 5, 6, 3, 2, 1, 0] rfl)
    · refine lv_iconst (v := nI 0) hx hb d_A_broader_15 (by decide) ?_
      exact x_ri hx hb hr hlk d_A_broader_16 (Or.inl ⟨by rintro ⟨j', i', h1, h2, h3, h4, h5, h6⟩; first | exact hnj ⟨j', h1, h2, h3, h4⟩ | (rw [h6] at c12; exact c12 (nI_pos' h5)), rfl⟩)
  · refine x_if_eq (tgt := 15) hx hb d_A_broader_8 (by decide) (fun _ => ?_) (fun h => absurd h (by decide))
    refine lv_iconst (v := nI 0) hx hb d_A_broader_15 (by decide) ?_
    exact x_ri hx hb hr hlk d_A_broader_16 (Or.inl ⟨by rintro ⟨j', i', h1, h2, h3, h4, h5, h6⟩; first | exact hnj ⟨j', h1, h2, h3, h4⟩ | (rw [h6] at c12; exact c12 (nI_pos' h5)), rfl⟩)

