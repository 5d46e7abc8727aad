/-- a link more -/
def ADK (σ : SA) (q f h : Nat) (d : Int64) : SA := if q = 3 then au_lc (au_ld (au_lt (au_lf (au_tg σ (vp_updL (a_tg σ) (q * 61 + f) (a_tg σ (q * 61 + f) ||| sg h))) (updN (a_lf σ) (a_lc σ) f)) (updN (a_lt σ) (a_lc σ) h)) (vp_updL (a_ld σ) (a_lc σ) d)) (a_lc σ + 1) else au_tg σ (vp_updL (a_tg σ) (q * 61 + f) (a_tg σ (q * 61 + f) ||| sg h))
/-- the way that would have been closed -/
def RNG (σ : SA) (q z x : Nat) (u : SA) : Prop := ∃ (V : Nat → Int64) (d : Nat) (S : Nat → Nat), d < 59 ∧ levA (a_tg σ) q z (d + 1) x ∧ u = au_wn (au_ws (au_aw σ V) S) (d + 2) ∧ (∀ j, S j ≤ 60) ∧ S 0 = x ∧ (∀ j, j < d + 1 → NTH (bt6 (a_tg σ (q * 61 + S j) &&& V (d - j))) 60 0 (nI (S (j + 1)))) ∧ ∀ e, e ≤ d + 1 → ∀ b, b < 64 → (bt6 (V e) b = true ↔ levA (a_tg σ) q z e b)
def CHN (σ : SA) (x z : Nat) : Prop := ¬ a_tg σ (0 * 61 + x) = 0 ∨ (∃ h, h < 60 ∧ bt6 (a_tg σ (0 * 61 + (h + 1))) x = true) ∨ ¬ a_tg σ (0 * 61 + z) = 0
def VLD (σ : SA) (x y z : Int32) (q i j : Nat) : Prop := q < 4 ∧ (1 ≤ i ∧ i ≤ a_hn σ ∧ a_lv σ i = 1) ∧ (1 ≤ j ∧ j ≤ a_hn σ ∧ a_lv σ j = 1) ∧ i ≠ j ∧ x = nI q ∧ y = nI i ∧ z = nI j
def LNK (σ : SA) (x y z : Int32) (d : Int64) (r : Int32) (u : SA) : Prop := ((¬ ∃ q i j, VLD σ x y z q i j) ∧ r = nI 0 ∧ u = σ) ∨ ∃ q i j, VLD σ x y z q i j ∧ ((bt6 (a_tg σ (q * 61 + i)) j = true ∧ r = nI 0 ∧ u = σ) ∨ (¬ bt6 (a_tg σ (q * 61 + i)) j = true ∧ ((q = 0 ∧ CHN σ i j ∧ r = nI 0 ∧ u = σ) ∨ (q = 0 ∧ ¬ CHN σ i j ∧ r = nI 1 ∧ u = ADK σ q i j d) ∨ (q = 1 ∧ r = nI 1 ∧ u = ADK σ q i j d) ∨ (2 ≤ q ∧ ((r = nI 0 ∧ RNG σ q i j u) ∨ ∃ V, r = nI 1 ∧ (∀ e, e < 60 → ¬ levA (a_tg σ) q i e j) ∧ u = ADK (au_aw σ V) q i j d)))))
set_option maxRecDepth 100000 in
set_option maxHeartbeats 4000000 in
theorem c_A_link (l : Launch) (dC : Nat → ClassId) (dI : Nat → Nat → Nat) (a : Nat → Nat) (t : Nat → ClassId) (σ : SA) (sz : Nat) (hG : GA σ) (x y z : Int32) (d : Int64) (hlc : a_lc σ < 512) : Met l y_A_link (wS y_A_link b_A_link 6 (some .int)) (rD 5) (va_Pc [.ref (a 0), .int x, .int y, .int z, .long d] (MB (dC, dI) (yA t) (wA a t σ) sz)) (va_Qi (fun (r : Int32) (u : SA) => LNK σ x y z d r u) (fun u => ME (dC, dI) (yA t) (va_A (wA a t σ) sz) (wA a t u)) (va_A (wA a t σ) sz)) 0 0 (va_A (wA a t σ) sz) := by
  refine x_enter (by decide) (Nat.le_of_ble_eq_true rfl) ?_
  intro p e s m below meth c ls hx hb hr hml hT hown hlk hnm hl hB
  obtain ⟨rfl, hP, hK, hN, hD0⟩ := hB
  have hD := hD0.self (sz := s.heap.size)
  generalize hAe : va_A (wA a t σ) s.heap.size = A at hD ⊢
  have hA : ∀ q : Nat, s.heap.size ≤ q → A q := fun q h => by rw [← hAe]; exact Or.inr h
  have hS : va_S A s.heap s.heap [] := va_S.rf
  have hP : va_P (dC, dI) classes (wA a t σ) s.heap := hP
  have hl : lv_has ls 6 [(0, .ref (a 0)), (1, .int x), (2, .int y), (3, .int z), (4, .long d)] := hl
  have hown : s.vm.findClass R_A = some m.cls := hown
  have hG2 := hG
  obtain ⟨g_sn, g_sg, g_tn, g_tx, g_kd, g_lv, g_le, g_ln, g_hn, g_lf, g_lt, g_lc, g_rh, g_rn, g_ws, g_wn⟩ := hG
  refine lv_iload_n hx hb d_A_link_0 rfl (lv_at hl 1 rfl) ?_
  refine lv_if_lt (tgt := 14) hx hb d_A_link_1 (by decide) (fun c1 => ?_) (fun c1 => ?_)
  · refine lv_iconst (v := nI 0) hx hb d_A_link_14 (by decide) ?_
    exact x_mi (wl := wA a t) σ hx hb hr hlk hK hP hD hS d_A_link_15 (Or.inl ⟨by rintro ⟨q', i', j', h1, h2, h3, h4, h5, h6, h7⟩; first | exact hni ⟨i', h2.1, h2.2.1, h2.2.2, h6⟩ | exact hnj ⟨j', h3.1, h3.2.1, h3.2.2, h7⟩ | (rw [h5] at c1; exact absurd c1 (nI_pos (by omega))) | (have h8 := (nI_eq (by omega) (by omega)).mp h5; omega) | (rw [h6, h7] at c11; exact h4 ((nI_eq (by omega) (by omega)).mp c11)), rfl, rfl⟩)
  · obtain ⟨q, hq0, rfl⟩ := nI_of c1
    refine lv_iload_n hx hb d_A_link_4 rfl (lv_at hl 1 rfl) ?_
    refine lv_iconst (v := nI 4) hx hb d_A_link_5 (by decide) ?_
    refine x_icmp_ge (tgt := 14) hx hb d_A_link_6 (by decide) (fun c6 => ?_) (fun c6 => ?_)
    · refine lv_iconst (v := nI 0) hx hb d_A_link_14 (by decide) ?_
      exact x_mi (wl := wA a t) σ hx hb hr hlk hK hP hD hS d_A_link_15 (Or.inl ⟨by rintro ⟨q', i', j', h1, h2, h3, h4, h5, h6, h7⟩; first | exact hni ⟨i', h2.1, h2.2.1, h2.2.2, h6⟩ | exact hnj ⟨j', h3.1, h3.2.1, h3.2.2, h7⟩ | (rw [h5] at c1; exact absurd c1 (nI_pos (by omega))) | (have h8 := (nI_eq (by omega) (by omega)).mp h5; omega) | (rw [h6, h7] at c11; exact h4 ((nI_eq (by omega) (by omega)).mp c11)), rfl, rfl⟩)
    · refine lv_iload_n hx hb d_A_link_9 rfl (lv_at hl 2 rfl) ?_
      refine lv_iload_n hx hb d_A_link_10 rfl (lv_at hl 3 rfl) ?_
      refine lv_icmp_ne (tgt := 16) hx hb d_A_link_11 (by decide) (fun c11 => ?_) (fun c11 => ?_)
      · refine lv_aload_n hx hb d_A_link_16 rfl (lv_at hl 0 rfl) ?_
        refine va_get (D := (dC, dI)) (C := R_A) (T := F_A) (N := 6) hx hb hT i_A hown hK hP 0 rfl rfl 2 (by decide) (hT _ k_A_26) (fun _ h9 => h9) (v := .ref (a 5)) rfl d_A_link_17 ?_
        refine lv_iload_n hx hb d_A_link_20 rfl (lv_at hl 2 rfl) ?_
        refine x_ci (x_runV ⟨hx, hb, hml, hown, hT⟩ (c_H_isLive l dC dI a t σ hG2 y) f_H_isLive k_A_63 blR (va_recv hK hP (ci := 2) (q0 := 5) rfl rfl) (x_bR hK hP hN) hl.1 d_A_link_21 rfl (lv_room (Nat.le_of_ble_eq_true rfl)) ⟨Nat.le_of_ble_eq_true rfl, Nat.le_of_ble_eq_true rfl⟩ ⟨rfl, rfl⟩ ⟨Nat.le_refl 0, Nat.le_refl 0⟩ rfl) (fun r21 q21 => ?_)
        rcases q21 with ⟨rfl, i, hi1, hi2, hi3, rfl⟩ | ⟨rfl, hni⟩
        · refine x_if_eq (tgt := 38) hx hb d_A_link_24 (by decide) (fun h => absurd h (by decide)) (fun _ => ?_)
          refine lv_aload_n hx hb d_A_link_27 rfl (lv_at hl 0 rfl) ?_
          refine va_get (D := (dC, dI)) (C := R_A) (T := F_A) (N := 6) hx hb hT i_A hown hK hP 0 rfl rfl 2 (by decide) (hT _ k_A_26) (fun _ h9 => h9) (v := .ref (a 5)) rfl d_A_link_28 ?_
          refine lv_iload_n hx hb d_A_link_31 rfl (lv_at hl 3 rfl) ?_
          refine x_ci (x_runV ⟨hx, hb, hml, hown, hT⟩ (c_H_isLive l dC dI a t σ hG2 z) f_H_isLive k_A_63 blR (va_recv hK hP (ci := 2) (q0 := 5) rfl rfl) (x_bR hK hP hN) hl.1 d_A_link_32 rfl (lv_room (Nat.le_of_ble_eq_true rfl)) ⟨Nat.le_of_ble_eq_true rfl, Nat.le_of_ble_eq_true rfl⟩ ⟨rfl, rfl⟩ ⟨Nat.le_refl 0, Nat.le_refl 0⟩ rfl) (fun r32 q32 => ?_)
          rcases q32 with ⟨rfl, j, hj1, hj2, hj3, rfl⟩ | ⟨rfl, hnj⟩
          · refine x_if_ne (tgt := 40) hx hb d_A_link_35 (by decide) (fun _ => ?_) (fun h => absurd h (by decide))
            refine lv_aload_n hx hb d_A_link_40 rfl (lv_at hl 0 rfl) ?_
            refine va_get (D := (dC, dI)) (C := R_A) (T := F_A) (N := 6) hx hb hT i_A hown hK hP 0 rfl rfl 3 (by decide) (hT _ k_A_33) (fun _ h9 => h9) (v := .ref (a 10)) rfl d_A_link_41 ?_
            refine lv_iload_n hx hb d_A_link_44 rfl (lv_at hl 1 rfl) ?_
            refine lv_iload_n hx hb d_A_link_45 rfl (lv_at hl 2 rfl) ?_
            refine lv_iload_n hx hb d_A_link_46 rfl (lv_at hl 3 rfl) ?_
            have hij : i ≠ j := fun h9 => c11 (by rw [h9])
            have hvl : VLD σ (nI q) (nI i) (nI j) q i j := ⟨by omega, ⟨hi1, hi2, hi3⟩, ⟨hj1, hj2, hj3⟩, hij, rfl, rfl, rfl⟩
            refine x_ci (x_runV ⟨hx, hb, hml, hown, hT⟩ (c_K_has l dC dI a t σ q i j (by omega) (by omega) (by omega) (by omega)) f_K_has k_A_67 blR (va_recv hK hP (ci := 3) (q0 := 10) rfl rfl) (x_bR hK hP hN) hl.1 d_A_link_47 rfl (lv_room (Nat.le_of_ble_eq_true rfl)) ⟨Nat.le_of_ble_eq_true rfl, Nat.le_of_ble_eq_true rfl⟩ ⟨rfl, rfl⟩ ⟨Nat.le_refl 0, Nat.le_refl 0⟩ rfl) (fun r47 q47 => ?_)
            rcases q47 with ⟨rfl, hhas⟩ | ⟨rfl, hhas⟩
            · refine x_if_ne (tgt := 63) hx hb d_A_link_50 (by decide) (fun _ => ?_) (fun h => absurd h (by decide))
              refine lv_iconst (v := nI 0) hx hb d_A_link_63 (by decide) ?_
              exact x_mi (wl := wA a t) σ hx hb hr hlk hK hP hD hS d_A_link_64 (Or.inr ⟨q, i, j, hvl, Or.inl ⟨hhas, rfl, rfl⟩⟩)
            · refine x_if_ne (tgt := 63) hx hb d_A_link_50 (by decide) (fun h => absurd h (by decide)) (fun _ => ?_)
              refine lv_aload_n hx hb d_A_link_53 rfl (lv_at hl 0 rfl) ?_
              refine va_get (D := (dC, dI)) (C := R_A) (T := F_A) (N := 6) hx hb hT i_A hown hK hP 0 rfl rfl 3 (by decide) (hT _ k_A_33) (fun _ h9 => h9) (v := .ref (a 10)) rfl d_A_link_54 ?_
              refine x_ci (x_runV ⟨hx, hb, hml, hown, hT⟩ (c_K_isFull l dC dI a t σ hG2) f_K_isFull k_A_71 blR (va_recv hK hP (ci := 3) (q0 := 10) rfl rfl) (x_bR hK hP hN) hl.1 d_A_link_57 rfl (lv_room (Nat.le_of_ble_eq_true rfl)) ⟨Nat.le_of_ble_eq_true rfl, Nat.le_of_ble_eq_true rfl⟩ ⟨rfl, rfl⟩ ⟨Nat.le_refl 0, Nat.le_refl 0⟩ rfl) (fun r57 q57 => ?_)
              rcases q57 with ⟨_, h9⟩ | ⟨rfl, _⟩
              · exact absurd h9 (by omega)
              refine x_if_eq (tgt := 65) hx hb d_A_link_60 (by decide) (fun _ => ?_) (fun h => absurd h (by decide))
              refine lv_iload_n hx hb d_A_link_65 rfl (lv_at hl 1 rfl) ?_
              refine x_if_ne (tgt := 80) hx hb d_A_link_66 (by decide) (fun c66 => ?_) (fun c66 => ?_)
              · refine lv_iload_n hx hb d_A_link_80 rfl (lv_at hl 1 rfl) ?_
                refine lv_iconst (v := nI 2) hx hb d_A_link_81 (by decide) ?_
                refine x_icmp_eq (tgt := 90) hx hb d_A_link_82 (by decide) (fun c82 => ?_) (fun c82 => ?_)
                · refine lv_aload_n hx hb d_A_link_90 rfl (lv_at hl 0 rfl) ?_
                  refine va_get (D := (dC, dI)) (C := R_A) (T := F_A) (N := 6) hx hb hT i_A hown hK hP 0 rfl rfl 5 (by decide) (hT _ k_A_47) (fun _ h9 => h9) (v := .ref (a 18)) rfl d_A_link_91 ?_
                  refine lv_aload_n hx hb d_A_link_94 rfl (lv_at hl 0 rfl) ?_
                  refine va_get (D := (dC, dI)) (C := R_A) (T := F_A) (N := 6) hx hb hT i_A hown hK hP 0 rfl rfl 3 (by decide) (hT _ k_A_33) (fun _ h9 => h9) (v := .ref (a 10)) rfl d_A_link_95 ?_
                  refine lv_iload_n hx hb d_A_link_98 rfl (lv_at hl 1 rfl) ?_
                  refine lv_iload_n hx hb d_A_link_99 rfl (lv_at hl 3 rfl) ?_
                  refine lv_iload_n hx hb d_A_link_100 rfl (lv_at hl 2 rfl) ?_
                  refine x_cMi (wl := wA a t) (x_runV ⟨hx, hb, hml, hown, hT⟩ (c_Y_lay l dC dI a t σ s.heap.size hG2 q j i (by omega) (by omega) (by omega) (Ne.symm hij) (by omega) (by omega)) f_Y_lay k_A_79 blM (va_recv hK hP (ci := 5) (q0 := 18) rfl rfl) (x_bM hK hP hN hD) hl.1 d_A_link_101 rfl (lv_room (Nat.le_of_ble_eq_true rfl)) ⟨Nat.le_of_ble_eq_true rfl, Nat.le_of_ble_eq_true rfl⟩ ⟨rfl, rfl⟩ ⟨Nat.le_refl 0, Nat.le_refl 0⟩ rfl) hD hS hA (fun r101 u101 H locs q101 hP hD hS => ?_)
                  obtain ⟨V, q101⟩ := q101
                  rcases q101 with ⟨rfl, rfl, hno⟩ | ⟨d0, S, rfl, hd0, hl9, hu9, hS9, hS0, hSj, hV⟩
                  · refine x_if_eq (tgt := 109) hx hb d_A_link_104 (by decide) (fun _ => ?_) (fun h => absurd h (by decide))
                    refine lv_aload_n hx hb d_A_link_109 rfl (lv_at hl 0 rfl) ?_
                    refine va_get (D := (dC, dI)) (C := R_A) (T := F_A) (N := 6) hx hb hT i_A hown hK hP 0 rfl rfl 3 (by decide) (hT _ k_A_33) (fun _ h9 => h9) (v := .ref (a 10)) rfl d_A_link_110 ?_
                    refine lv_iload_n hx hb d_A_link_113 rfl (lv_at hl 1 rfl) ?_
                    refine lv_iload_n hx hb d_A_link_114 rfl (lv_at hl 2 rfl) ?_
                    refine lv_iload_n hx hb d_A_link_115 rfl (lv_at hl 3 rfl) ?_
                    refine lv_lload hx hb d_A_link_116 (lv_at hl 4 rfl) ?_
                    refine x_cMv (wl := wA a t) (x_runV ⟨hx, hb, hml, hown, hT⟩ (c_K_add l dC dI a t (au_aw σ (V)) H.size (GA_aw hG2) q i j d (by omega) (by omega) (by omega) hlc (by omega) (by omega)) f_K_add k_A_83 blM (va_recv hK hP (ci := 3) (q0 := 10) rfl rfl) (x_bM hK hP hN hD) hl.1 d_A_link_118 rfl (lv_room (Nat.le_of_ble_eq_true rfl)) ⟨Nat.le_of_ble_eq_true rfl, Nat.le_of_ble_eq_true rfl⟩ ⟨rfl, rfl⟩ ⟨Nat.le_refl 0, Nat.le_refl 0⟩ rfl) hD hS hA (fun u118 H locs q118 hP hD hS => ?_)
                    refine lv_iconst (v := nI 1) hx hb d_A_link_121 (by decide) ?_
                    exact x_mi (wl := wA a t) u118 hx hb hr hlk hK hP hD hS d_A_link_122 (Or.inr ⟨q, i, j, hvl, Or.inr ⟨hhas, Or.inr (Or.inr (Or.inr ⟨by omega, Or.inr ⟨V, rfl, hno, q118⟩⟩))⟩⟩)
                  · refine x_if_eq (tgt := 109) hx hb d_A_link_104 (by decide) (fun h => absurd h (by decide)) (fun _ => ?_)
                    refine lv_iconst (v := nI 0) hx hb d_A_link_107 (by decide) ?_
                    exact x_mi (wl := wA a t) u101 hx hb hr hlk hK hP hD hS d_A_link_108 (Or.inr ⟨q, i, j, hvl, Or.inr ⟨hhas, Or.inr (Or.inr (Or.inr ⟨by omega, Or.inl ⟨rfl, V, d0, S, hd0, hl9, hu9, hS9, hS0, hSj, hV⟩⟩))⟩⟩)
                · refine lv_iload_n hx hb d_A_link_85 rfl (lv_at hl 1 rfl) ?_
                  refine lv_iconst (v := nI 3) hx hb d_A_link_86 (by decide) ?_
                  refine x_icmp_ne (tgt := 109) hx hb d_A_link_87 (by decide) (fun c87 => ?_) (fun c87 => ?_)
                  · refine lv_aload_n hx hb d_A_link_109 rfl (lv_at hl 0 rfl) ?_
                    refine va_get (D := (dC, dI)) (C := R_A) (T := F_A) (N := 6) hx hb hT i_A hown hK hP 0 rfl rfl 3 (by decide) (hT _ k_A_33) (fun _ h9 => h9) (v := .ref (a 10)) rfl d_A_link_110 ?_
                    refine lv_iload_n hx hb d_A_link_113 rfl (lv_at hl 1 rfl) ?_
                    refine lv_iload_n hx hb d_A_link_114 rfl (lv_at hl 2 rfl) ?_
                    refine lv_iload_n hx hb d_A_link_115 rfl (lv_at hl 3 rfl) ?_
                    refine lv_lload hx hb d_A_link_116 (lv_at hl 4 rfl) ?_
                    refine x_cMv (wl := wA a t) (x_runV ⟨hx, hb, hml, hown, hT⟩ (c_K_add l dC dI a t σ s.heap.size hG2 q i j d (by omega) (by omega) (by omega) hlc (by omega) (by omega)) f_K_add k_A_83 blM (va_recv hK hP (ci := 3) (q0 := 10) rfl rfl) (x_bM hK hP hN hD) hl.1 d_A_link_118 rfl (lv_room (Nat.le_of_ble_eq_true rfl)) ⟨Nat.le_of_ble_eq_true rfl, Nat.le_of_ble_eq_true rfl⟩ ⟨rfl, rfl⟩ ⟨Nat.le_refl 0, Nat.le_refl 0⟩ rfl) hD hS hA (fun u118 H locs q118 hP hD hS => ?_)
                    refine lv_iconst (v := nI 1) hx hb d_A_link_121 (by decide) ?_
                    exact x_mi (wl := wA a t) u118 hx hb hr hlk hK hP hD hS d_A_link_122 (Or.inr ⟨q, i, j, hvl, Or.inr ⟨hhas, by first | exact Or.inr (Or.inl ⟨by omega, hch, rfl, q118⟩) | exact Or.inr (Or.inr (Or.inl ⟨by omega, rfl, q118⟩)) | (exfalso; omega)⟩⟩)
                  · refine lv_aload_n hx hb d_A_link_90 rfl (lv_at hl 0 rfl) ?_
                    refine va_get (D := (dC, dI)) (C := R_A) (T := F_A) (N := 6) hx hb hT i_A hown hK hP 0 rfl rfl 5 (by decide) (hT _ k_A_47) (fun _ h9 => h9) (v := .ref (a 18)) rfl d_A_link_91 ?_
                    refine lv_aload_n hx hb d_A_link_94 rfl (lv_at hl 0 rfl) ?_
                    refine va_get (D := (dC, dI)) (C := R_A) (T := F_A) (N := 6) hx hb hT i_A hown hK hP 0 rfl rfl 3 (by decide) (hT _ k_A_33) (fun _ h9 => h9) (v := .ref (a 10)) rfl d_A_link_95 ?_
                    refine lv_iload_n hx hb d_A_link_98 rfl (lv_at hl 1 rfl) ?_
                    refine lv_iload_n hx hb d_A_link_99 rfl (lv_at hl 3 rfl) ?_
                    refine lv_iload_n hx hb d_A_link_100 rfl (lv_at hl 2 rfl) ?_
                    refine x_cMi (wl := wA a t) (x_runV ⟨hx, hb, hml, hown, hT⟩ (c_Y_lay l dC dI a t σ s.heap.size hG2 q j i (by omega) (by omega) (by omega) (Ne.symm hij) (by omega) (by omega)) f_Y_lay k_A_79 blM (va_recv hK hP (ci := 5) (q0 := 18) rfl rfl) (x_bM hK hP hN hD) hl.1 d_A_link_101 rfl (lv_room (Nat.le_of_ble_eq_true rfl)) ⟨Nat.le_of_ble_eq_true rfl, Nat.le_of_ble_eq_true rfl⟩ ⟨rfl, rfl⟩ ⟨Nat.le_refl 0, Nat.le_refl 0⟩ rfl) hD hS hA (fun r101 u101 H locs q101 hP hD hS => ?_)
                    obtain ⟨V, q101⟩ := q101
                    rcases q101 with ⟨rfl, rfl, hno⟩ | ⟨d0, S, rfl, hd0, hl9, hu9, hS9, hS0, hSj, hV⟩
                    · refine x_if_eq (tgt := 109) hx hb d_A_link_104 (by decide) (fun _ => ?_) (fun h => absurd h (by decide))
                      refine lv_aload_n hx hb d_A_link_109 rfl (lv_at hl 0 rfl) ?_
                      refine va_get (D := (dC, dI)) (C := R_A) (T := F_A) (N := 6) hx hb hT i_A hown hK hP 0 rfl rfl 3 (by decide) (hT _ k_A_33) (fun _ h9 => h9) (v := .ref (a 10)) rfl d_A_link_110 ?_
                      refine lv_iload_n hx hb d_A_link_113 rfl (lv_at hl 1 rfl) ?_
                      refine lv_iload_n hx hb d_A_link_114 rfl (lv_at hl 2 rfl) ?_
                      refine lv_iload_n hx hb d_A_link_115 rfl (lv_at hl 3 rfl) ?_
                      refine lv_lload hx hb d_A_link_116 (lv_at hl 4 rfl) ?_
                      refine x_cMv (wl := wA a t) (x_runV ⟨hx, hb, hml, hown, hT⟩ (c_K_add l dC dI a t (au_aw σ (V)) H.size (GA_aw hG2) q i j d (by omega) (by omega) (by omega) hlc (by omega) (by omega)) f_K_add k_A_83 blM (va_recv hK hP (ci := 3) (q0 := 10) rfl rfl) (x_bM hK hP hN hD) hl.1 d_A_link_118 rfl (lv_room (Nat.le_of_ble_eq_true rfl)) ⟨Nat.le_of_ble_eq_true rfl, Nat.le_of_ble_eq_true rfl⟩ ⟨rfl, rfl⟩ ⟨Nat.le_refl 0, Nat.le_refl 0⟩ rfl) hD hS hA (fun u118 H locs q118 hP hD hS => ?_)
                      refine lv_iconst (v := nI 1) hx hb d_A_link_121 (by decide) ?_
                      exact x_mi (wl := wA a t) u118 hx hb hr hlk hK hP hD hS d_A_link_122 (Or.inr ⟨q, i, j, hvl, Or.inr ⟨hhas, Or.inr (Or.inr (Or.inr ⟨by omega, Or.inr ⟨V, rfl, hno, q118⟩⟩))⟩⟩)
                    · refine x_if_eq (tgt := 109) hx hb d_A_link_104 (by decide) (fun h => absurd h (by decide)) (fun _ => ?_)
                      refine lv_iconst (v := nI 0) hx hb d_A_link_107 (by decide) ?_
                      exact x_mi (wl := wA a t) u101 hx hb hr hlk hK hP hD hS d_A_link_108 (Or.inr ⟨q, i, j, hvl, Or.inr ⟨hhas, Or.inr (Or.inr (Or.inr ⟨by omega, Or.inl ⟨rfl, V, d0, S, hd0, hl9, hu9, hS9, hS0, hSj, hV⟩⟩))⟩⟩)
              · refine lv_aload_n hx hb d_A_link_69 rfl (lv_at hl 0 rfl) ?_
                refine lv_iload_n hx hb d_A_link_70 rfl (lv_at hl 2 rfl) ?_
                refine lv_iload_n hx hb d_A_link_71 rfl (lv_at hl 3 rfl) ?_
                refine x_ci (x_runV ⟨hx, hb, hml, hown, hT⟩ (c_A_wouldChainSees l dC dI a t σ i j (by omega) (by omega) (by omega) (by omega)) f_A_wouldChainSees k_A_75 blR (va_recv hK hP (ci := 6) (q0 := 0) rfl rfl) (x_bR hK hP hN) hl.1 d_A_link_72 rfl (lv_room (Nat.le_of_ble_eq_true rfl)) ⟨Nat.le_of_ble_eq_true rfl, Nat.le_of_ble_eq_true rfl⟩ ⟨rfl, rfl⟩ ⟨Nat.le_refl 0, Nat.le_refl 0⟩ rfl) (fun r72 q72 => ?_)
                rcases q72 with ⟨rfl, hch⟩ | ⟨rfl, hch⟩
                · refine x_if_eq (tgt := 80) hx hb d_A_link_75 (by decide) (fun h => absurd h (by decide)) (fun _ => ?_)
                  refine lv_iconst (v := nI 0) hx hb d_A_link_78 (by decide) ?_
                  exact x_mi (wl := wA a t) σ hx hb hr hlk hK hP hD hS d_A_link_79 (Or.inr ⟨q, i, j, hvl, Or.inr ⟨hhas, Or.inl ⟨by omega, hch, rfl, rfl⟩⟩⟩)
                · refine x_if_eq (tgt := 80) hx hb d_A_link_75 (by decide) (fun _ => ?_) (fun h => absurd h (by decide))
                  refine lv_iload_n hx hb d_A_link_80 rfl (lv_at hl 1 rfl) ?_
                  refine lv_iconst (v := nI 2) hx hb d_A_link_81 (by decide) ?_
                  refine x_icmp_eq (tgt := 90) hx hb d_A_link_82 (by decide) (fun c82 => ?_) (fun c82 => ?_)
                  · refine lv_aload_n hx hb d_A_link_90 rfl (lv_at hl 0 rfl) ?_
                    refine va_get (D := (dC, dI)) (C := R_A) (T := F_A) (N := 6) hx hb hT i_A hown hK hP 0 rfl rfl 5 (by decide) (hT _ k_A_47) (fun _ h9 => h9) (v := .ref (a 18)) rfl d_A_link_91 ?_
                    refine lv_aload_n hx hb d_A_link_94 rfl (lv_at hl 0 rfl) ?_
                    refine va_get (D := (dC, dI)) (C := R_A) (T := F_A) (N := 6) hx hb hT i_A hown hK hP 0 rfl rfl 3 (by decide) (hT _ k_A_33) (fun _ h9 => h9) (v := .ref (a 10)) rfl d_A_link_95 ?_
                    refine lv_iload_n hx hb d_A_link_98 rfl (lv_at hl 1 rfl) ?_
                    refine lv_iload_n hx hb d_A_link_99 rfl (lv_at hl 3 rfl) ?_
                    refine lv_iload_n hx hb d_A_link_100 rfl (lv_at hl 2 rfl) ?_
                    refine x_cMi (wl := wA a t) (x_runV ⟨hx, hb, hml, hown, hT⟩ (c_Y_lay l dC dI a t σ s.heap.size hG2 q j i (by omega) (by omega) (by omega) (Ne.symm hij) (by omega) (by omega)) f_Y_lay k_A_79 blM (va_recv hK hP (ci := 5) (q0 := 18) rfl rfl) (x_bM hK hP hN hD) hl.1 d_A_link_101 rfl (lv_room (Nat.le_of_ble_eq_true rfl)) ⟨Nat.le_of_ble_eq_true rfl, Nat.le_of_ble_eq_true rfl⟩ ⟨rfl, rfl⟩ ⟨Nat.le_refl 0, Nat.le_refl 0⟩ rfl) hD hS hA (fun r101 u101 H locs q101 hP hD hS => ?_)
                    obtain ⟨V, q101⟩ := q101
                    rcases q101 with ⟨rfl, rfl, hno⟩ | ⟨d0, S, rfl, hd0, hl9, hu9, hS9, hS0, hSj, hV⟩
                    · refine x_if_eq (tgt := 109) hx hb d_A_link_104 (by decide) (fun _ => ?_) (fun h => absurd h (by decide))
                      refine lv_aload_n hx hb d_A_link_109 rfl (lv_at hl 0 rfl) ?_
                      refine va_get (D := (dC, dI)) (C := R_A) (T := F_A) (N := 6) hx hb hT i_A hown hK hP 0 rfl rfl 3 (by decide) (hT _ k_A_33) (fun _ h9 => h9) (v := .ref (a 10)) rfl d_A_link_110 ?_
                      refine lv_iload_n hx hb d_A_link_113 rfl (lv_at hl 1 rfl) ?_
                      refine lv_iload_n hx hb d_A_link_114 rfl (lv_at hl 2 rfl) ?_
                      refine lv_iload_n hx hb d_A_link_115 rfl (lv_at hl 3 rfl) ?_
                      refine lv_lload hx hb d_A_link_116 (lv_at hl 4 rfl) ?_
                      refine x_cMv (wl := wA a t) (x_runV ⟨hx, hb, hml, hown, hT⟩ (c_K_add l dC dI a t (au_aw σ (V)) H.size (GA_aw hG2) q i j d (by omega) (by omega) (by omega) hlc (by omega) (by omega)) f_K_add k_A_83 blM (va_recv hK hP (ci := 3) (q0 := 10) rfl rfl) (x_bM hK hP hN hD) hl.1 d_A_link_118 rfl (lv_room (Nat.le_of_ble_eq_true rfl)) ⟨Nat.le_of_ble_eq_true rfl, Nat.le_of_ble_eq_true rfl⟩ ⟨rfl, rfl⟩ ⟨Nat.le_refl 0, Nat.le_refl 0⟩ rfl) hD hS hA (fun u118 H locs q118 hP hD hS => ?_)
                      refine lv_iconst (v := nI 1) hx hb d_A_link_121 (by decide) ?_
                      exact x_mi (wl := wA a t) u118 hx hb hr hlk hK hP hD hS d_A_link_122 (Or.inr ⟨q, i, j, hvl, Or.inr ⟨hhas, Or.inr (Or.inr (Or.inr ⟨by omega, Or.inr ⟨V, rfl, hno, q118⟩⟩))⟩⟩)
                    · refine x_if_eq (tgt := 109) hx hb d_A_link_104 (by decide) (fun h => absurd h (by decide)) (fun _ => ?_)
                      refine lv_iconst (v := nI 0) hx hb d_A_link_107 (by decide) ?_
                      exact x_mi (wl := wA a t) u101 hx hb hr hlk hK hP hD hS d_A_link_108 (Or.inr ⟨q, i, j, hvl, Or.inr ⟨hhas, Or.inr (Or.inr (Or.inr ⟨by omega, Or.inl ⟨rfl, V, d0, S, hd0, hl9, hu9, hS9, hS0, hSj, hV⟩⟩))⟩⟩)
                  · refine lv_iload_n hx hb d_A_link_85 rfl (lv_at hl 1 rfl) ?_
                    refine lv_iconst (v := nI 3) hx hb d_A_link_86 (by decide) ?_
                    refine x_icmp_ne (tgt := 109) hx hb d_A_link_87 (by decide) (fun c87 => ?_) (fun c87 => ?_)
                    · refine lv_aload_n hx hb d_A_link_109 rfl (lv_at hl 0 rfl) ?_
                      refine va_get (D := (dC, dI)) (C := R_A) (T := F_A) (N := 6) hx hb hT i_A hown hK hP 0 rfl rfl 3 (by decide) (hT _ k_A_33) (fun _ h9 => h9) (v := .ref (a 10)) rfl d_A_link_110 ?_
                      refine lv_iload_n hx hb d_A_link_113 rfl (lv_at hl 1 rfl) ?_
                      refine lv_iload_n hx hb d_A_link_114 rfl (lv_at hl 2 rfl) ?_
                      refine lv_iload_n hx hb d_A_link_115 rfl (lv_at hl 3 rfl) ?_
                      refine lv_lload hx hb d_A_link_116 (lv_at hl 4 rfl) ?_
                      refine x_cMv (wl := wA a t) (x_runV ⟨hx, hb, hml, hown, hT⟩ (c_K_add l dC dI a t σ s.heap.size hG2 q i j d (by omega) (by omega) (by omega) hlc (by omega) (by omega)) f_K_add k_A_83 blM (va_recv hK hP (ci := 3) (q0 := 10) rfl rfl) (x_bM hK hP hN hD) hl.1 d_A_link_118 rfl (lv_room (Nat.le_of_ble_eq_true rfl)) ⟨Nat.le_of_ble_eq_true rfl, Nat.le_of_ble_eq_true rfl⟩ ⟨rfl, rfl⟩ ⟨Nat.le_refl 0, Nat.le_refl 0⟩ rfl) hD hS hA (fun u118 H locs q118 hP hD hS => ?_)
                      refine lv_iconst (v := nI 1) hx hb d_A_link_121 (by decide) ?_
                      exact x_mi (wl := wA a t) u118 hx hb hr hlk hK hP hD hS d_A_link_122 (Or.inr ⟨q, i, j, hvl, Or.inr ⟨hhas, by first | exact Or.inr (Or.inl ⟨by omega, hch, rfl, q118⟩) | exact Or.inr (Or.inr (Or.inl ⟨by omega, rfl, q118⟩)) | (exfalso; omega)⟩⟩)
                    · refine lv_aload_n hx hb d_A_link_90 rfl (lv_at hl 0 rfl) ?_
                      refine va_get (D := (dC, dI)) (C := R_A) (T := F_A) (N := 6) hx hb hT i_A hown hK hP 0 rfl rfl 5 (by decide) (hT _ k_A_47) (fun _ h9 => h9) (v := .ref (a 18)) rfl d_A_link_91 ?_
                      refine lv_aload_n hx hb d_A_link_94 rfl (lv_at hl 0 rfl) ?_
                      refine va_get (D := (dC, dI)) (C := R_A) (T := F_A) (N := 6) hx hb hT i_A hown hK hP 0 rfl rfl 3 (by decide) (hT _ k_A_33) (fun _ h9 => h9) (v := .ref (a 10)) rfl d_A_link_95 ?_
                      refine lv_iload_n hx hb d_A_link_98 rfl (lv_at hl 1 rfl) ?_
                      refine lv_iload_n hx hb d_A_link_99 rfl (lv_at hl 3 rfl) ?_
                      refine lv_iload_n hx hb d_A_link_100 rfl (lv_at hl 2 rfl) ?_
                      refine x_cMi (wl := wA a t) (x_runV ⟨hx, hb, hml, hown, hT⟩ (c_Y_lay l dC dI a t σ s.heap.size hG2 q j i (by omega) (by omega) (by omega) (Ne.symm hij) (by omega) (by omega)) f_Y_lay k_A_79 blM (va_recv hK hP (ci := 5) (q0 := 18) rfl rfl) (x_bM hK hP hN hD) hl.1 d_A_link_101 rfl (lv_room (Nat.le_of_ble_eq_true rfl)) ⟨Nat.le_of_ble_eq_true rfl, Nat.le_of_ble_eq_true rfl⟩ ⟨rfl, rfl⟩ ⟨Nat.le_refl 0, Nat.le_refl 0⟩ rfl) hD hS hA (fun r101 u101 H locs q101 hP hD hS => ?_)
                      obtain ⟨V, q101⟩ := q101
                      rcases q101 with ⟨rfl, rfl, hno⟩ | ⟨d0, S, rfl, hd0, hl9, hu9, hS9, hS0, hSj, hV⟩
                      · refine x_if_eq (tgt := 109) hx hb d_A_link_104 (by decide) (fun _ => ?_) (fun h => absurd h (by decide))
                        refine lv_aload_n hx hb d_A_link_109 rfl (lv_at hl 0 rfl) ?_
                        refine va_get (D := (dC, dI)) (C := R_A) (T := F_A) (N := 6) hx hb hT i_A hown hK hP 0 rfl rfl 3 (by decide) (hT _ k_A_33) (fun _ h9 => h9) (v := .ref (a 10)) rfl d_A_link_110 ?_
                        refine lv_iload_n hx hb d_A_link_113 rfl (lv_at hl 1 rfl) ?_
                        refine lv_iload_n hx hb d_A_link_114 rfl (lv_at hl 2 rfl) ?_
                        refine lv_iload_n hx hb d_A_link_115 rfl (lv_at hl 3 rfl) ?_
                        refine lv_lload hx hb d_A_link_116 (lv_at hl 4 rfl) ?_
                        refine x_cMv (wl := wA a t) (x_runV ⟨hx, hb, hml, hown, hT⟩ (c_K_add l dC dI a t (au_aw σ (V)) H.size (GA_aw hG2) q i j d (by omega) (by omega) (by omega) hlc (by omega) (by omega)) f_K_add k_A_83 blM (va_recv hK hP (ci := 3) (q0 := 10) rfl rfl) (x_bM hK hP hN hD) hl.1 d_A_link_118 rfl (lv_room (Nat.le_of_ble_eq_true rfl)) ⟨Nat.le_of_ble_eq_true rfl, Nat.le_of_ble_eq_true rfl⟩ ⟨rfl, rfl⟩ ⟨Nat.le_refl 0, Nat.le_refl 0⟩ rfl) hD hS hA (fun u118 H locs q118 hP hD hS => ?_)
                        refine lv_iconst (v := nI 1) hx hb d_A_link_121 (by decide) ?_
                        exact x_mi (wl := wA a t) u118 hx hb hr hlk hK hP hD hS d_A_link_122 (Or.inr ⟨q, i, j, hvl, Or.inr ⟨hhas, Or.inr (Or.inr (Or.inr ⟨by omega, Or.inr ⟨V, rfl, hno, q118⟩⟩))⟩⟩)
                      · refine x_if_eq (tgt := 109) hx hb d_A_link_104 (by decide) (fun h => absurd h (by decide)) (fun _ => ?_)
                        refine lv_iconst (v := nI 0) hx hb d_A_link_107 (by decide) ?_
                        exact x_mi (wl := wA a t) u101 hx hb hr hlk hK hP hD hS d_A_link_108 (Or.inr ⟨q, i, j, hvl, Or.inr ⟨hhas, Or.inr (Or.inr (Or.inr ⟨by omega, Or.inl ⟨rfl, V, d0, S, hd0, hl9, hu9, hS9, hS0, hSj, hV⟩⟩))⟩⟩)
          · refine x_if_ne (tgt := 40) hx hb d_A_link_35 (by decide) (fun h => absurd h (by decide)) (fun _ => ?_)
            refine lv_iconst (v := nI 0) hx hb d_A_link_38 (by decide) ?_
            exact x_mi (wl := wA a t) σ hx hb hr hlk hK hP hD hS d_A_link_39 (Or.inl ⟨by rintro ⟨q', i', j', h1, h2, h3, h4, h5, h6, h7⟩; first | exact hni ⟨i', h2.1, h2.2.1, h2.2.2, h6⟩ | exact hnj ⟨j', h3.1, h3.2.1, h3.2.2, h7⟩ | (rw [h5] at c1; exact absurd c1 (nI_pos (by omega))) | (have h8 := (nI_eq (by omega) (by omega)).mp h5; omega) | (rw [h6, h7] at c11; exact h4 ((nI_eq (by omega) (by omega)).mp c11)), rfl, rfl⟩)
        · refine x_if_eq (tgt := 38) hx hb d_A_link_24 (by decide) (fun _ => ?_) (fun h => absurd h (by decide))
          refine lv_iconst (v := nI 0) hx hb d_A_link_38 (by decide) ?_
          exact x_mi (wl := wA a t) σ hx hb hr hlk hK hP hD hS d_A_link_39 (Or.inl ⟨by rintro ⟨q', i', j', h1, h2, h3, h4, h5, h6, h7⟩; first | exact hni ⟨i', h2.1, h2.2.1, h2.2.2, h6⟩ | exact hnj ⟨j', h3.1, h3.2.1, h3.2.2, h7⟩ | (rw [h5] at c1; exact absurd c1 (nI_pos (by omega))) | (have h8 := (nI_eq (by omega) (by omega)).mp h5; omega) | (rw [h6, h7] at c11; exact h4 ((nI_eq (by omega) (by omega)).mp c11)), rfl, rfl⟩)
      · refine lv_iconst (v := nI 0) hx hb d_A_link_14 (by decide) ?_
        exact x_mi (wl := wA a t) σ hx hb hr hlk hK hP hD hS d_A_link_15 (Or.inl ⟨by rintro ⟨q', i', j', h1, h2, h3, h4, h5, h6, h7⟩; first | exact hni ⟨i', h2.1, h2.2.1, h2.2.2, h6⟩ | exact hnj ⟨j', h3.1, h3.2.1, h3.2.2, h7⟩ | (rw [h5] at c1; exact absurd c1 (nI_pos (by omega))) | (have h8 := (nI_eq (by omega) (by omega)).mp h5; omega) | (rw [h6, h7] at c11; exact h4 ((nI_eq (by omega) (by omega)).mp c11)), rfl, rfl⟩)

def DEL (σ : SA) (x : Int32) (r : Int32) (u : SA) : Prop := (¬ (∃ j, 1 ≤ j ∧ j ≤ a_hn σ ∧ a_lv σ j = 1 ∧ x = nI j) ∧ r = nI 0 ∧ u = σ) ∨ ∃ j, 1 ≤ j ∧ j ≤ a_hn σ ∧ a_lv σ j = 1 ∧ x = nI j ∧ ((0 < cntN (a_rh σ) j (a_rn σ) ∧ r = -nI (cntN (a_rh σ) j (a_rn σ)) ∧ u = σ) ∨ (cntN (a_rh σ) j (a_rn σ) = 0 ∧ r = nI 1 ∧ ∃ (T : Nat → Int64) (F G : Nat → Nat) (E : Nat → Int64) (k : Nat), u = au_lc (au_ld (au_lt (au_lf (au_tg (au_lv σ (updN (a_lv σ) j 0)) T) F) G) E) k ∧ k ≤ a_lc σ ∧ (∀ j, F j ≤ 60) ∧ (∀ j, G j ≤ 60) ∧ lst F G E k = (lst (a_lf σ) (a_lt σ) (a_ld σ) (a_lc σ)).filter (keepL j) ∧ ∀ q f, q < 4 → 1 ≤ f → f ≤ 60 → T (q * 61 + f) = clrT (a_tg σ) j q f))
set_option maxRecDepth 100000 in
set_option maxHeartbeats 4000000 in
theorem c_A_delete (l : Launch) (dC : Nat → ClassId) (dI : Nat → Nat → Nat) (a : Nat → Nat) (t : Nat → ClassId) (σ : SA) (sz : Nat) (hG : GA σ) (x : Int32) : Met l y_A_delete (wS y_A_delete b_A_delete 3 (some .int)) (rD 3) (va_Pc [.ref (a 0), .int x] (MB (dC, dI) (yA t) (wA a t σ) sz)) (va_Qi (fun (r : Int32) (u : SA) => DEL σ x r u) (fun u => ME (dC, dI) (yA t) (va_A (wA a t σ) sz) (wA a t u)) (va_A (wA a t σ) sz)) 0 0 (va_A (wA a t σ) sz) := by
  refine x_enter (by decide) (Nat.le_of_ble_eq_true rfl) ?_
  intro p e s m below meth c ls hx hb hr hml hT hown hlk hnm hl hB
  obtain ⟨rfl, hP, hK, hN, hD0⟩ := hB
  have hD := hD0.self (sz := s.heap.size)
  generalize hAe : va_A (wA a t σ) s.heap.size = A at hD ⊢
  have hA : ∀ q : Nat, s.heap.size ≤ q → A q := fun q h => by rw [← hAe]; exact Or.inr h
  have hS : va_S A s.heap s.heap [] := va_S.rf
  have hP : va_P (dC, dI) classes (wA a t σ) s.heap := hP
  have hl : lv_has ls 3 [(0, .ref (a 0)), (1, .int x)] := hl
  have hown : s.vm.findClass R_A = some m.cls := hown
  have hG2 := hG
  obtain ⟨g_sn, g_sg, g_tn, g_tx, g_kd, g_lv, g_le, g_ln, g_hn, g_lf, g_lt, g_lc, g_rh, g_rn, g_ws, g_wn⟩ := hG
  refine lv_aload_n hx hb d_A_delete_0 rfl (lv_at hl 0 rfl) ?_
  refine va_get (D := (dC, dI)) (C := R_A) (T := F_A) (N := 6) hx hb hT i_A hown hK hP 0 rfl rfl 2 (by decide) (hT _ k_A_26) (fun _ h9 => h9) (v := .ref (a 5)) rfl d_A_delete_1 ?_
  refine lv_iload_n hx hb d_A_delete_4 rfl (lv_at hl 1 rfl) ?_
  refine x_ci (x_runV ⟨hx, hb, hml, hown, hT⟩ (c_H_isLive l dC dI a t σ hG2 x) f_H_isLive k_A_63 blR (va_recv hK hP (ci := 2) (q0 := 5) rfl rfl) (x_bR hK hP hN) hl.1 d_A_delete_5 rfl (lv_room (Nat.le_of_ble_eq_true rfl)) ⟨Nat.le_of_ble_eq_true rfl, Nat.le_of_ble_eq_true rfl⟩ ⟨rfl, rfl⟩ ⟨Nat.le_refl 0, Nat.le_refl 0⟩ rfl) (fun r5 q5 => ?_)
  rcases q5 with ⟨rfl, j, hj1, hj2, hj3, rfl⟩ | ⟨rfl, hnj⟩
  · refine x_if_ne (tgt := 13) hx hb d_A_delete_8 (by decide) (fun _ => ?_) (fun h => absurd h (by decide))
    refine lv_aload_n hx hb d_A_delete_13 rfl (lv_at hl 0 rfl) ?_
    refine va_get (D := (dC, dI)) (C := R_A) (T := F_A) (N := 6) hx hb hT i_A hown hK hP 0 rfl rfl 4 (by decide) (hT _ k_A_40) (fun _ h9 => h9) (v := .ref (a 15)) rfl d_A_delete_14 ?_
    refine lv_iload_n hx hb d_A_delete_17 rfl (lv_at hl 1 rfl) ?_
    refine x_ci (x_runV ⟨hx, hb, hml, hown, hT⟩ (c_R_countOf l dC dI a t σ hG2 j (by omega)) f_R_countOf k_A_97 blR (va_recv hK hP (ci := 4) (q0 := 15) rfl rfl) (x_bR hK hP hN) hl.1 d_A_delete_18 rfl (lv_room (Nat.le_of_ble_eq_true rfl)) ⟨Nat.le_of_ble_eq_true rfl, Nat.le_of_ble_eq_true rfl⟩ ⟨rfl, rfl⟩ ⟨Nat.le_refl 0, Nat.le_refl 0⟩ rfl) (fun r18 q18 => ?_)
    subst q18
    have hcn := cntN_le (a_rh σ) j (a_rn σ)
    refine lv_istore_n (lv' := [(2, .int (nI (cntN (a_rh σ) j (a_rn σ)))), (0, .ref (a 0)), (1, .int (nI j))]) hx hb d_A_delete_21 rfl hl (by decide) rfl (fun ls hl => ?_)
    refine lv_iload_n hx hb d_A_delete_22 rfl (lv_at hl 0 rfl) ?_
    refine x_if_le (tgt := 29) hx hb d_A_delete_23 (by decide) (fun c23 => ?_) (fun c23 => ?_)
    · refine lv_aload_n hx hb d_A_delete_29 rfl (lv_at hl 1 rfl) ?_
      refine va_get (D := (dC, dI)) (C := R_A) (T := F_A) (N := 6) hx hb hT i_A hown hK hP 0 rfl rfl 2 (by decide) (hT _ k_A_26) (fun _ h9 => h9) (v := .ref (a 5)) rfl d_A_delete_30 ?_
      refine lv_iload_n hx hb d_A_delete_33 rfl (lv_at hl 2 rfl) ?_
      refine x_cMv (wl := wA a t) (x_runV ⟨hx, hb, hml, hown, hT⟩ (c_H_end l dC dI a t σ s.heap.size hG2 j (by omega) (by omega)) f_H_end k_A_131 blM (va_recv hK hP (ci := 2) (q0 := 5) rfl rfl) (x_bM hK hP hN hD) hl.1 d_A_delete_34 rfl (lv_room (Nat.le_of_ble_eq_true rfl)) ⟨Nat.le_of_ble_eq_true rfl, Nat.le_of_ble_eq_true rfl⟩ ⟨rfl, rfl⟩ ⟨Nat.le_refl 0, Nat.le_refl 0⟩ rfl) hD hS hA (fun u34 H locs q34 hP hD hS => ?_)
      subst q34
      have hP : va_P (dC, dI) classes (wA a t (au_lv σ (updN (a_lv σ) j 0))) H := hP
      have hD : va_D A (wA a t (au_lv σ (updN (a_lv σ) j 0))) := hD
      refine lv_aload_n hx hb d_A_delete_37 rfl (lv_at hl 1 rfl) ?_
      refine va_get (D := (dC, dI)) (C := R_A) (T := F_A) (N := 6) hx hb hT i_A hown hK hP 0 rfl rfl 3 (by decide) (hT _ k_A_33) (fun _ h9 => h9) (v := .ref (a 10)) rfl d_A_delete_38 ?_
      refine lv_iload_n hx hb d_A_delete_41 rfl (lv_at hl 2 rfl) ?_
      refine x_cMv (wl := wA a t) (x_runV ⟨hx, hb, hml, hown, hT⟩ (c_K_removeAllOf l dC dI a t (au_lv σ (updN (a_lv σ) j 0)) H.size (GA_lv hG2 (updN_lt g_lv (by decide))) j (by omega) (by omega)) f_K_removeAllOf k_A_135 blM (va_recv hK hP (ci := 3) (q0 := 10) rfl rfl) (x_bM hK hP hN hD) hl.1 d_A_delete_42 rfl (lv_room (Nat.le_of_ble_eq_true rfl)) ⟨Nat.le_of_ble_eq_true rfl, Nat.le_of_ble_eq_true rfl⟩ ⟨rfl, rfl⟩ ⟨Nat.le_refl 0, Nat.le_refl 0⟩ rfl) hD hS hA (fun u42 H locs q42 hP hD hS => ?_)
      refine lv_iconst (v := nI 1) hx hb d_A_delete_45 (by decide) ?_
      exact x_mi (wl := wA a t) u42 hx hb hr hlk hK hP hD hS d_A_delete_46 (Or.inr ⟨j, hj1, hj2, hj3, rfl, Or.inr ⟨by omega, rfl, q42⟩⟩)
    · refine lv_iload_n hx hb d_A_delete_26 rfl (lv_at hl 0 rfl) ?_
      refine lv_ineg hx hb d_A_delete_27 ?_
      exact x_mi (wl := wA a t) σ hx hb hr hlk hK hP hD hS d_A_delete_28 (Or.inr ⟨j, hj1, hj2, hj3, rfl, Or.inl ⟨by omega, rfl, rfl⟩⟩)
  · refine x_if_ne (tgt := 13) hx hb d_A_delete_8 (by decide) (fun h => absurd h (by decide)) (fun _ => ?_)
    refine lv_iconst (v := nI 0) hx hb d_A_delete_11 (by decide) ?_
    exact x_mi (wl := wA a t) σ hx hb hr hlk hK hP hD hS d_A_delete_12 (Or.inl ⟨hnj, rfl, rfl⟩)

set_option maxRecDepth 100000 in
set_option maxHeartbeats 4000000 in
theorem c_A_form (l : Launch) (dC : Nat → ClassId) (dI : Nat → Nat → Nat) (a : Nat → Nat) (t : Nat → ClassId) (σ : SA) (hG : GA σ) (x : Int32) (d : Int64) (hlt : ∀ j, j < a_lc σ → 1 ≤ a_lt σ j) : Met l y_A_form (wS y_A_form b_A_form 4 (some .int)) (rD 2) (va_Pc [.ref (a 0), .int x, .long d] (RB (dC, dI) (yA t) (wA a t σ))) (vp_Si (fun r => (¬ (∃ j, 1 ≤ j ∧ j ≤ a_hn σ ∧ a_lv σ j = 1 ∧ x = nI j) ∧ r = nI 0) ∨ ∃ j, 1 ≤ j ∧ j ≤ a_hn σ ∧ a_lv σ j = 1 ∧ x = nI j ∧ ∃ k v, k ≤ 60 ∧ v ≤ 60 ∧ r = nI v ∧ FRM (a_lf σ) (a_lt σ) (a_ld σ) (a_lc σ) d k (j) v ∧ (k = 60 ∨ NOB (a_lf σ) (a_ld σ) (a_lc σ) v d))) 0 0 (fun _ => False) := by
  refine x_enter (by decide) (Nat.le_of_ble_eq_true rfl) ?_
  intro p e s m below meth c ls hx hb hr hml hT hown hlk hnm hl hB
  obtain ⟨hP, hK, hN⟩ := hB
  have hl : lv_has ls 4 [(0, .ref (a 0)), (1, .int x), (2, .long d)] := hl
  have hown : s.vm.findClass R_A = some m.cls := hown
  have hG2 := hG
  obtain ⟨g_sn, g_sg, g_tn, g_tx, g_kd, g_lv, g_le, g_ln, g_hn, g_lf, g_lt, g_lc, g_rh, g_rn, g_ws, g_wn⟩ := hG
  refine lv_aload_n hx hb d_A_form_0 rfl (lv_at hl 0 rfl) ?_
  refine va_get (D := (dC, dI)) (C := R_A) (T := F_A) (N := 6) hx hb hT i_A hown hK hP 0 rfl rfl 2 (by decide) (hT _ k_A_26) (fun _ h9 => h9) (v := .ref (a 5)) rfl d_A_form_1 ?_
  refine lv_iload_n hx hb d_A_form_4 rfl (lv_at hl 1 rfl) ?_
  refine x_ci (x_runV ⟨hx, hb, hml, hown, hT⟩ (c_H_isLive l dC dI a t σ hG2 x) f_H_isLive k_A_63 blR (va_recv hK hP (ci := 2) (q0 := 5) rfl rfl) (x_bR hK hP hN) hl.1 d_A_form_5 rfl (lv_room (Nat.le_of_ble_eq_true rfl)) ⟨Nat.le_of_ble_eq_true rfl, Nat.le_of_ble_eq_true rfl⟩ ⟨rfl, rfl⟩ ⟨Nat.le_refl 0, Nat.le_refl 0⟩ rfl) (fun r5 q5 => ?_)
  rcases q5 with ⟨rfl, j, hj1, hj2, hj3, rfl⟩ | ⟨rfl, hnj⟩
  · refine x_if_ne (tgt := 13) hx hb d_A_form_8 (by decide) (fun _ => ?_) (fun h => absurd h (by decide))
    refine lv_aload_n hx hb d_A_form_13 rfl (lv_at hl 0 rfl) ?_
    refine lv_iload_n hx hb d_A_form_14 rfl (lv_at hl 1 rfl) ?_
    refine lv_lload_n hx hb d_A_form_15 rfl (lv_at hl 2 rfl) ?_
    refine x_ci (x_runV ⟨hx, hb, hml, hown, hT⟩ (c_A_formOn l dC dI a t σ hG2 j d (by omega) hlt) f_A_formOn k_A_145 blR (va_recv hK hP (ci := 6) (q0 := 0) rfl rfl) (x_bR hK hP hN) hl.1 d_A_form_16 rfl (lv_room (Nat.le_of_ble_eq_true rfl)) ⟨Nat.le_of_ble_eq_true rfl, Nat.le_of_ble_eq_true rfl⟩ ⟨rfl, rfl⟩ ⟨Nat.le_refl 0, Nat.le_refl 0⟩ rfl) (fun r16 q16 => ?_)
    exact x_ri hx hb hr hlk d_A_form_19 (Or.inr ⟨j, hj1, hj2, hj3, rfl, q16⟩)
  · refine x_if_ne (tgt := 13) hx hb d_A_form_8 (by decide) (fun h => absurd h (by decide)) (fun _ => ?_)
    refine lv_iconst (v := nI 0) hx hb d_A_form_11 (by decide) ?_
    exact x_ri hx hb hr hlk d_A_form_12 (Or.inl ⟨hnj, rfl⟩)

set_option maxRecDepth 100000 in
set_option maxHeartbeats 4000000 in
theorem c_A_shown (l : Launch) (dC : Nat → ClassId) (dI : Nat → Nat → Nat) (a : Nat → Nat) (t : Nat → ClassId) (σ : SA) (hG : GA σ) (x : Int32) (d : Int64) (hlt : ∀ j, j < a_lc σ → 1 ≤ a_lt σ j) : Met l y_A_shown (wS y_A_shown b_A_shown 4 (some .int)) (rD 4) (va_Pc [.ref (a 0), .int x, .long d] (RB (dC, dI) (yA t) (wA a t σ))) (vp_Si (fun r => (¬ (∃ j, 1 ≤ j ∧ j ≤ a_hn σ ∧ a_lv σ j = 1 ∧ x = nI j) ∧ r = nI 0) ∨ ∃ j, 1 ≤ j ∧ j ≤ a_hn σ ∧ a_lv σ j = 1 ∧ x = nI j ∧ ∃ v0, v0 ≤ 60 ∧ NTH (bt6 (a_tg σ (0 * 61 + j))) 60 0 (nI v0) ∧ ∃ k v, k ≤ 60 ∧ v ≤ 60 ∧ r = nI v ∧ FRM (a_lf σ) (a_lt σ) (a_ld σ) (a_lc σ) d k (if v0 = 0 then j else v0) v ∧ (k = 60 ∨ NOB (a_lf σ) (a_ld σ) (a_lc σ) v d))) 0 0 (fun _ => False) := by
  refine x_enter (by decide) (Nat.le_of_ble_eq_true rfl) ?_
  intro p e s m below meth c ls hx hb hr hml hT hown hlk hnm hl hB
  obtain ⟨hP, hK, hN⟩ := hB
  have hl : lv_has ls 4 [(0, .ref (a 0)), (1, .int x), (2, .long d)] := hl
  have hown : s.vm.findClass R_A = some m.cls := hown
  have hG2 := hG
  obtain ⟨g_sn, g_sg, g_tn, g_tx, g_kd, g_lv, g_le, g_ln, g_hn, g_lf, g_lt, g_lc, g_rh, g_rn, g_ws, g_wn⟩ := hG
  refine lv_aload_n hx hb d_A_shown_0 rfl (lv_at hl 0 rfl) ?_
  refine va_get (D := (dC, dI)) (C := R_A) (T := F_A) (N := 6) hx hb hT i_A hown hK hP 0 rfl rfl 2 (by decide) (hT _ k_A_26) (fun _ h9 => h9) (v := .ref (a 5)) rfl d_A_shown_1 ?_
  refine lv_iload_n hx hb d_A_shown_4 rfl (lv_at hl 1 rfl) ?_
  refine x_ci (x_runV ⟨hx, hb, hml, hown, hT⟩ (c_H_isLive l dC dI a t σ hG2 x) f_H_isLive k_A_63 blR (va_recv hK hP (ci := 2) (q0 := 5) rfl rfl) (x_bR hK hP hN) hl.1 d_A_shown_5 rfl (lv_room (Nat.le_of_ble_eq_true rfl)) ⟨Nat.le_of_ble_eq_true rfl, Nat.le_of_ble_eq_true rfl⟩ ⟨rfl, rfl⟩ ⟨Nat.le_refl 0, Nat.le_refl 0⟩ rfl) (fun r5 q5 => ?_)
  rcases q5 with ⟨rfl, j, hj1, hj2, hj3, rfl⟩ | ⟨rfl, hnj⟩
  · refine x_if_ne (tgt := 13) hx hb d_A_shown_8 (by decide) (fun _ => ?_) (fun h => absurd h (by decide))
    refine lv_aload_n hx hb d_A_shown_13 rfl (lv_at hl 0 rfl) ?_
    refine lv_aload_n hx hb d_A_shown_14 rfl (lv_at hl 0 rfl) ?_
    refine lv_iload_n hx hb d_A_shown_15 rfl (lv_at hl 1 rfl) ?_
    refine x_ci (x_runV ⟨hx, hb, hml, hown, hT⟩ (c_A_usedFormOf l dC dI a t σ j (by omega) (by omega)) f_A_usedFormOf k_A_142 blR (va_recv hK hP (ci := 6) (q0 := 0) rfl rfl) (x_bR hK hP hN) hl.1 d_A_shown_16 rfl (lv_room (Nat.le_of_ble_eq_true rfl)) ⟨Nat.le_of_ble_eq_true rfl, Nat.le_of_ble_eq_true rfl⟩ ⟨rfl, rfl⟩ ⟨Nat.le_refl 0, Nat.le_refl 0⟩ rfl) (fun r16 q16 => ?_)
    obtain ⟨v0, hv0, hnv, rfl⟩ := q16
    have hus : (if v0 = 0 then j else v0) ≤ 60 := by split <;> omega
    refine lv_lload_n hx hb d_A_shown_19 rfl (lv_at hl 2 rfl) ?_
    refine x_ci (x_runV ⟨hx, hb, hml, hown, hT⟩ (c_A_formOn l dC dI a t σ hG2 (if v0 = 0 then j else v0) d hus hlt) f_A_formOn k_A_145 blR (va_recv hK hP (ci := 6) (q0 := 0) rfl rfl) (x_bR hK hP hN) hl.1 d_A_shown_20 rfl (lv_room (Nat.le_of_ble_eq_true rfl)) ⟨Nat.le_of_ble_eq_true rfl, Nat.le_of_ble_eq_true rfl⟩ ⟨rfl, rfl⟩ ⟨Nat.le_refl 0, Nat.le_refl 0⟩ rfl) (fun r20 q20 => ?_)
    exact x_ri hx hb hr hlk d_A_shown_23 (Or.inr ⟨j, hj1, hj2, hj3, rfl, v0, hv0, hnv, q20⟩)
  · refine x_if_ne (tgt := 13) hx hb d_A_shown_8 (by decide) (fun h => absurd h (by decide)) (fun _ => ?_)
    refine lv_iconst (v := nI 0) hx hb d_A_shown_11 (by decide) ?_
    exact x_ri hx hb hr hlk d_A_shown_12 (Or.inl ⟨hnj, rfl⟩)

def REC (σ : SA) (x : Int32) (d : Int64) (r : Int32) (u : SA) : Prop := (¬ (∃ j, 1 ≤ j ∧ j ≤ a_hn σ ∧ a_lv σ j = 1 ∧ x = nI j) ∧ r = nI 0 ∧ u = σ) ∨ ∃ j, 1 ≤ j ∧ j ≤ a_hn σ ∧ a_lv σ j = 1 ∧ x = nI j ∧ ((a_rn σ = 60 ∧ r = nI 0 ∧ u = σ) ∨ (a_rn σ < 60 ∧ r = nI (a_rn σ + 1) ∧ ∃ v0, v0 ≤ 60 ∧ NTH (bt6 (a_tg σ (0 * 61 + j))) 60 0 (nI v0) ∧ u = au_rn (au_rd (au_rh σ (updN (a_rh σ) (a_rn σ + 1) (if v0 = 0 then j else v0))) (vp_updL (a_rd σ) (a_rn σ + 1) d)) (a_rn σ + 1)))
set_option maxRecDepth 100000 in
set_option maxHeartbeats 4000000 in
theorem c_A_record (l : Launch) (dC : Nat → ClassId) (dI : Nat → Nat → Nat) (a : Nat → Nat) (t : Nat → ClassId) (σ : SA) (sz : Nat) (hG : GA σ) (x : Int32) (d : Int64) : Met l y_A_record (wS y_A_record b_A_record 4 (some .int)) (rD 4) (va_Pc [.ref (a 0), .int x, .long d] (MB (dC, dI) (yA t) (wA a t σ) sz)) (va_Qi (fun (r : Int32) (u : SA) => REC σ x d r u) (fun u => ME (dC, dI) (yA t) (va_A (wA a t σ) sz) (wA a t u)) (va_A (wA a t σ) sz)) 0 0 (va_A (wA a t σ) sz) := by
  refine x_enter (by decide) (Nat.le_of_ble_eq_true rfl) ?_
  intro p e s m below meth c ls hx hb hr hml hT hown hlk hnm hl hB
  obtain ⟨rfl, hP, hK, hN, hD0⟩ := hB
  have hD := hD0.self (sz := s.heap.size)
  generalize hAe : va_A (wA a t σ) s.heap.size = A at hD ⊢
  have hA : ∀ q : Nat, s.heap.size ≤ q → A q := fun q h => by rw [← hAe]; exact Or.inr h
  have hS : va_S A s.heap s.heap [] := va_S.rf
  have hP : va_P (dC, dI) classes (wA a t σ) s.heap := hP
  have hl : lv_has ls 4 [(0, .ref (a 0)), (1, .int x), (2, .long d)] := hl
  have hown : s.vm.findClass R_A = some m.cls := hown
  have hG2 := hG
  obtain ⟨g_sn, g_sg, g_tn, g_tx, g_kd, g_lv, g_le, g_ln, g_hn, g_lf, g_lt, g_lc, g_rh, g_rn, g_ws, g_wn⟩ := hG
  refine lv_aload_n hx hb d_A_record_0 rfl (lv_at hl 0 rfl) ?_
  refine va_get (D := (dC, dI)) (C := R_A) (T := F_A) (N := 6) hx hb hT i_A hown hK hP 0 rfl rfl 2 (by decide) (hT _ k_A_26) (fun _ h9 => h9) (v := .ref (a 5)) rfl d_A_record_1 ?_
  refine lv_iload_n hx hb d_A_record_4 rfl (lv_at hl 1 rfl) ?_
  refine x_ci (x_runV ⟨hx, hb, hml, hown, hT⟩ (c_H_isLive l dC dI a t σ hG2 x) f_H_isLive k_A_63 blR (va_recv hK hP (ci := 2) (q0 := 5) rfl rfl) (x_bR hK hP hN) hl.1 d_A_record_5 rfl (lv_room (Nat.le_of_ble_eq_true rfl)) ⟨Nat.le_of_ble_eq_true rfl, Nat.le_of_ble_eq_true rfl⟩ ⟨rfl, rfl⟩ ⟨Nat.le_refl 0, Nat.le_refl 0⟩ rfl) (fun r5 q5 => ?_)
  rcases q5 with ⟨rfl, j, hj1, hj2, hj3, rfl⟩ | ⟨rfl, hnj⟩
  · refine x_if_eq (tgt := 21) hx hb d_A_record_8 (by decide) (fun h => absurd h (by decide)) (fun _ => ?_)
    refine lv_aload_n hx hb d_A_record_11 rfl (lv_at hl 0 rfl) ?_
    refine va_get (D := (dC, dI)) (C := R_A) (T := F_A) (N := 6) hx hb hT i_A hown hK hP 0 rfl rfl 4 (by decide) (hT _ k_A_40) (fun _ h9 => h9) (v := .ref (a 15)) rfl d_A_record_12 ?_
    refine x_ci (x_runV ⟨hx, hb, hml, hown, hT⟩ (c_R_isFull l dC dI a t σ hG2) f_R_isFull k_A_149 blR (va_recv hK hP (ci := 4) (q0 := 15) rfl rfl) (x_bR hK hP hN) hl.1 d_A_record_15 rfl (lv_room (Nat.le_of_ble_eq_true rfl)) ⟨Nat.le_of_ble_eq_true rfl, Nat.le_of_ble_eq_true rfl⟩ ⟨rfl, rfl⟩ ⟨Nat.le_refl 0, Nat.le_refl 0⟩ rfl) (fun r15 q15 => ?_)
    rcases q15 with ⟨rfl, hq⟩ | ⟨rfl, hq⟩
    · refine x_if_eq (tgt := 23) hx hb d_A_record_18 (by decide) (fun h => absurd h (by decide)) (fun _ => ?_)
      refine lv_iconst (v := nI 0) hx hb d_A_record_21 (by decide) ?_
      exact x_mi (wl := wA a t) σ hx hb hr hlk hK hP hD hS d_A_record_22 (by first | exact Or.inl ⟨hnj, rfl, rfl⟩ | exact Or.inr ⟨j, hj1, hj2, hj3, rfl, Or.inl ⟨by omega, rfl, rfl⟩⟩)
    · refine x_if_eq (tgt := 23) hx hb d_A_record_18 (by decide) (fun _ => ?_) (fun h => absurd h (by decide))
      refine lv_aload_n hx hb d_A_record_23 rfl (lv_at hl 0 rfl) ?_
      refine va_get (D := (dC, dI)) (C := R_A) (T := F_A) (N := 6) hx hb hT i_A hown hK hP 0 rfl rfl 4 (by decide) (hT _ k_A_40) (fun _ h9 => h9) (v := .ref (a 15)) rfl d_A_record_24 ?_
      refine lv_aload_n hx hb d_A_record_27 rfl (lv_at hl 0 rfl) ?_
      refine lv_iload_n hx hb d_A_record_28 rfl (lv_at hl 1 rfl) ?_
      refine x_ci (x_runV ⟨hx, hb, hml, hown, hT⟩ (c_A_usedFormOf l dC dI a t σ j (by omega) (by omega)) f_A_usedFormOf k_A_142 blR (va_recv hK hP (ci := 6) (q0 := 0) rfl rfl) (x_bR hK hP hN) hl.1 d_A_record_29 rfl (lv_room (Nat.le_of_ble_eq_true rfl)) ⟨Nat.le_of_ble_eq_true rfl, Nat.le_of_ble_eq_true rfl⟩ ⟨rfl, rfl⟩ ⟨Nat.le_refl 0, Nat.le_refl 0⟩ rfl) (fun r29 q29 => ?_)
      obtain ⟨v0, hv0, hnv, rfl⟩ := q29
      have hus : (if v0 = 0 then j else v0) ≤ 60 := by split <;> omega
      refine lv_lload_n hx hb d_A_record_32 rfl (lv_at hl 2 rfl) ?_
      refine x_cMi (wl := wA a t) (x_runV ⟨hx, hb, hml, hown, hT⟩ (c_R_add l dC dI a t σ s.heap.size hG2 (if v0 = 0 then j else v0) d hus (by omega)) f_R_add k_A_150 blM (va_recv hK hP (ci := 4) (q0 := 15) rfl rfl) (x_bM hK hP hN hD) hl.1 d_A_record_33 rfl (lv_room (Nat.le_of_ble_eq_true rfl)) ⟨Nat.le_of_ble_eq_true rfl, Nat.le_of_ble_eq_true rfl⟩ ⟨rfl, rfl⟩ ⟨Nat.le_refl 0, Nat.le_refl 0⟩ rfl) hD hS hA (fun r33 u33 H locs q33 hP hD hS => ?_)
      obtain ⟨rfl, hu9⟩ := q33
      exact x_mi (wl := wA a t) u33 hx hb hr hlk hK hP hD hS d_A_record_36 (Or.inr ⟨j, hj1, hj2, hj3, rfl, Or.inr ⟨by omega, rfl, v0, hv0, hnv, hu9⟩⟩)
  · refine x_if_eq (tgt := 21) hx hb d_A_record_8 (by decide) (fun _ => ?_) (fun h => absurd h (by decide))
    refine lv_iconst (v := nI 0) hx hb d_A_record_21 (by decide) ?_
    exact x_mi (wl := wA a t) σ hx hb hr hlk hK hP hD hS d_A_record_22 (by first | exact Or.inl ⟨hnj, rfl, rfl⟩ | exact Or.inr ⟨j, hj1, hj2, hj3, rfl, Or.inl ⟨by omega, rfl, rfl⟩⟩)

def SPL (σ τ : SA) (x : Int32) (d : Int64) (r : Int32) (u : SA) : Prop := (¬ okT (a_sg σ) (a_sn σ) ∧ r = -99 ∧ u = τ) ∨ (okT (a_sg σ) (a_sn σ) ∧ ((¬ (∃ j, 1 ≤ j ∧ j ≤ a_hn τ ∧ a_lv τ j = 1 ∧ x = nI j) ∧ r = nI 0 ∧ u = τ) ∨ ∃ j, 1 ≤ j ∧ j ≤ a_hn τ ∧ a_lv τ j = 1 ∧ x = nI j ∧ ∃ w, ADH τ (a_kd τ j) r w ∧ ((r = nI (a_hn τ + 1) ∧ a_hn τ < 60 ∧ u = au_rh (ADK w 3 j (a_hn τ + 1) d) (mvR (a_rh τ) (a_rd τ) j (a_hn τ + 1) d (a_rn τ))) ∨ (¬ r = nI (a_hn τ + 1) ∧ u = w))))
theorem neg_le {i : Nat} (h : 1 ≤ i) (h2 : i ≤ 60) : -nI i ≤ 0 := (sb_nle (a := i) (b := 0) (by omega) (by decide)).mpr (Nat.zero_le _)
theorem neg_ne {i k : Nat} (h : 1 ≤ i) (h2 : i ≤ 60) (hk : k ≤ 100) : ¬ -nI i = nI k := fun e => by
  have h1 := congrArg Int32.toInt e
  rw [sb_negT (by omega), nI_toInt (by omega)] at h1
  omega
set_option maxRecDepth 100000 in
set_option maxHeartbeats 4000000 in
theorem c_A_split (l : Launch) (dC : Nat → ClassId) (dI : Nat → Nat → Nat) (a : Nat → Nat) (t : Nat → ClassId) (σ : SA) (sz : Nat) (hG : GA σ) (x : Int32) (d : Int64) (hlc : a_lc σ < 512) : Met l y_A_split (wS y_A_split b_A_split 5 (some .int)) (rD 4) (va_Pc [.ref (a 0), .int x, .long d] (MB (dC, dI) (yA t) (wA a t σ) sz)) (va_Qi (fun (r : Int32) (u : SA) => ∃ τ, TKN σ τ ∧ SPL σ τ x d r u) (fun u => ME (dC, dI) (yA t) (va_A (wA a t σ) sz) (wA a t u)) (va_A (wA a t σ) sz)) 0 0 (va_A (wA a t σ) sz) := by
  refine x_enter (by decide) (Nat.le_of_ble_eq_true rfl) ?_
  intro p e s m below meth c ls hx hb hr hml hT hown hlk hnm hl hB
  obtain ⟨rfl, hP, hK, hN, hD0⟩ := hB
  have hD := hD0.self (sz := s.heap.size)
  generalize hAe : va_A (wA a t σ) s.heap.size = A at hD ⊢
  have hA : ∀ q : Nat, s.heap.size ≤ q → A q := fun q h => by rw [← hAe]; exact Or.inr h
  have hS : va_S A s.heap s.heap [] := va_S.rf
  have hP : va_P (dC, dI) classes (wA a t σ) s.heap := hP
  have hl : lv_has ls 5 [(0, .ref (a 0)), (1, .int x), (2, .long d)] := hl
  have hown : s.vm.findClass R_A = some m.cls := hown
  have hG2 := hG
  obtain ⟨g_sn, g_sg, g_tn, g_tx, g_kd, g_lv, g_le, g_ln, g_hn, g_lf, g_lt, g_lc, g_rh, g_rn, g_ws, g_wn⟩ := hG
  refine lv_aload_n hx hb d_A_split_0 rfl (lv_at hl 0 rfl) ?_
  refine va_get (D := (dC, dI)) (C := R_A) (T := F_A) (N := 6) hx hb hT i_A hown hK hP 0 rfl rfl 0 (by decide) (hT _ k_A_12) (fun _ h9 => h9) (v := .ref (a 1)) rfl d_A_split_1 ?_
  refine lv_aload_n hx hb d_A_split_4 rfl (lv_at hl 0 rfl) ?_
  refine va_get (D := (dC, dI)) (C := R_A) (T := F_A) (N := 6) hx hb hT i_A hown hK hP 0 rfl rfl 1 (by decide) (hT _ k_A_19) (fun _ h9 => h9) (v := .ref (a 3)) rfl d_A_split_5 ?_
  refine x_cMi (wl := wA a t) (x_runV ⟨hx, hb, hml, hown, hT⟩ (c_C_moveTo l dC dI a t σ s.heap.size hG2) f_C_moveTo k_A_55 blM (va_recv hK hP (ci := 0) (q0 := 1) rfl rfl) (x_bM hK hP hN hD) hl.1 d_A_split_8 rfl (lv_room (Nat.le_of_ble_eq_true rfl)) ⟨Nat.le_of_ble_eq_true rfl, Nat.le_of_ble_eq_true rfl⟩ ⟨rfl, rfl⟩ ⟨Nat.le_refl 0, Nat.le_refl 0⟩ rfl) hD hS hA (fun r8 τ H locs q8 hP hD hS => ?_)
  obtain ⟨hok, hτ⟩ := q8
  have hτ : TKN σ τ := hτ
  have hGτ : GA τ := by obtain ⟨_, _, _, h9, _⟩ := hτ; exact h9
  obtain ⟨t_sn, t_sg, t_tn, t_tx, t_kd, t_lv, t_le, t_ln, t_hn, t_lf, t_lt, t_lc, t_rh, t_rn, t_ws, t_wn⟩ := id hGτ
  rcases hok with ⟨rfl, hok⟩ | ⟨rfl, hok⟩
  · refine x_if_ne (tgt := 17) hx hb d_A_split_11 (by decide) (fun _ => ?_) (fun h => absurd h (by decide))
    refine lv_aload_n hx hb d_A_split_17 rfl (lv_at hl 0 rfl) ?_
    refine va_get (D := (dC, dI)) (C := R_A) (T := F_A) (N := 6) hx hb hT i_A hown hK hP 0 rfl rfl 2 (by decide) (hT _ k_A_26) (fun _ h9 => h9) (v := .ref (a 5)) rfl d_A_split_18 ?_
    refine lv_iload_n hx hb d_A_split_21 rfl (lv_at hl 1 rfl) ?_
    refine x_ci (x_runV ⟨hx, hb, hml, hown, hT⟩ (c_H_isLive l dC dI a t (τ) hGτ x) f_H_isLive k_A_63 blR (va_recv hK hP (ci := 2) (q0 := 5) rfl rfl) (x_bR hK hP hN) hl.1 d_A_split_22 rfl (lv_room (Nat.le_of_ble_eq_true rfl)) ⟨Nat.le_of_ble_eq_true rfl, Nat.le_of_ble_eq_true rfl⟩ ⟨rfl, rfl⟩ ⟨Nat.le_refl 0, Nat.le_refl 0⟩ rfl) (fun r22 q22 => ?_)
    rcases q22 with ⟨rfl, j, hj1, hj2, hj3, rfl⟩ | ⟨rfl, hnj⟩
    · refine x_if_eq (tgt := 38) hx hb d_A_split_25 (by decide) (fun h => absurd h (by decide)) (fun _ => ?_)
      refine lv_aload_n hx hb d_A_split_28 rfl (lv_at hl 0 rfl) ?_
      refine va_get (D := (dC, dI)) (C := R_A) (T := F_A) (N := 6) hx hb hT i_A hown hK hP 0 rfl rfl 3 (by decide) (hT _ k_A_33) (fun _ h9 => h9) (v := .ref (a 10)) rfl d_A_split_29 ?_
      have hlcτ : a_lc τ < 512 := by obtain ⟨_, _, rfl, _⟩ := hτ; exact hlc
      refine x_ci (x_runV ⟨hx, hb, hml, hown, hT⟩ (c_K_isFull l dC dI a t τ hGτ) f_K_isFull k_A_71 blR (va_recv hK hP (ci := 3) (q0 := 10) rfl rfl) (x_bR hK hP hN) hl.1 d_A_split_32 rfl (lv_room (Nat.le_of_ble_eq_true rfl)) ⟨Nat.le_of_ble_eq_true rfl, Nat.le_of_ble_eq_true rfl⟩ ⟨rfl, rfl⟩ ⟨Nat.le_refl 0, Nat.le_refl 0⟩ rfl) (fun r32 q32 => ?_)
      rcases q32 with ⟨_, h9⟩ | ⟨rfl, _⟩
      · exact absurd h9 (by omega)
      refine x_if_eq (tgt := 40) hx hb d_A_split_35 (by decide) (fun _ => ?_) (fun h => absurd h (by decide))
      refine lv_aload_n hx hb d_A_split_40 rfl (lv_at hl 0 rfl) ?_
      refine lv_aload_n hx hb d_A_split_41 rfl (lv_at hl 0 rfl) ?_
      refine va_get (D := (dC, dI)) (C := R_A) (T := F_A) (N := 6) hx hb hT i_A hown hK hP 0 rfl rfl 2 (by decide) (hT _ k_A_26) (fun _ h9 => h9) (v := .ref (a 5)) rfl d_A_split_42 ?_
      refine lv_iload_n hx hb d_A_split_45 rfl (lv_at hl 1 rfl) ?_
      refine x_ci (x_runV ⟨hx, hb, hml, hown, hT⟩ (c_H_kindOf l dC dI a t τ hGτ j (by omega) (by omega)) f_H_kindOf k_A_86 blR (va_recv hK hP (ci := 2) (q0 := 5) rfl rfl) (x_bR hK hP hN) hl.1 d_A_split_46 rfl (lv_room (Nat.le_of_ble_eq_true rfl)) ⟨Nat.le_of_ble_eq_true rfl, Nat.le_of_ble_eq_true rfl⟩ ⟨rfl, rfl⟩ ⟨Nat.le_refl 0, Nat.le_refl 0⟩ rfl) (fun r46 q46 => ?_)
      subst q46
      refine x_cMi (wl := wA a t) (x_runV ⟨hx, hb, hml, hown, hT⟩ (c_A_addHeading l dC dI a t τ H.size hGτ (a_kd τ j) (t_kd j)) f_A_addHeading k_A_59 blM (va_recv hK hP (ci := 6) (q0 := 0) rfl rfl) (x_bM hK hP hN hD) hl.1 d_A_split_49 rfl (lv_room (Nat.le_of_ble_eq_true rfl)) ⟨Nat.le_of_ble_eq_true rfl, Nat.le_of_ble_eq_true rfl⟩ ⟨rfl, rfl⟩ ⟨Nat.le_refl 0, Nat.le_refl 0⟩ rfl) hD hS hA (fun r49 u49 H locs q49 hP hD hS => ?_)
      have hadh := q49
      rcases q49 with ⟨h60, rfl, hu9⟩ | ⟨h60, ⟨i, hi1, hi2, rfl, _, hu9⟩ | ⟨_, rfl, rfl⟩⟩
      · refine lv_istore (lv' := [(4, .int (nI 0)), (0, .ref (a 0)), (1, .int (nI j)), (2, .long d)]) hx hb d_A_split_52 hl (by decide) rfl (fun ls hl => ?_)
        refine lv_iload hx hb d_A_split_54 (lv_at hl 0 rfl) ?_
        refine x_if_le (tgt := 82) hx hb d_A_split_56 (by decide) (fun _ => ?_) (fun h9 => absurd h9 (by decide))
        refine lv_iload hx hb d_A_split_82 (lv_at hl 0 rfl) ?_
        exact x_mi (wl := wA a t) u49 hx hb hr hlk hK hP hD hS d_A_split_84 ⟨τ, hτ, Or.inr ⟨hok, Or.inr ⟨j, hj1, hj2, hj3, rfl, _, hadh, Or.inr ⟨(fun h9 => by have h8 := (nI_eq (by omega) (by omega)).mp h9; omega), rfl⟩⟩⟩⟩
      · refine lv_istore (lv' := [(4, .int (-nI i)), (0, .ref (a 0)), (1, .int (nI j)), (2, .long d)]) hx hb d_A_split_52 hl (by decide) rfl (fun ls hl => ?_)
        refine lv_iload hx hb d_A_split_54 (lv_at hl 0 rfl) ?_
        refine lv_if_le (tgt := 82) hx hb d_A_split_56 (by decide) (fun _ => ?_) (fun h9 => absurd (neg_le hi1 (by omega)) h9)
        refine lv_iload hx hb d_A_split_82 (lv_at hl 0 rfl) ?_
        exact x_mi (wl := wA a t) u49 hx hb hr hlk hK hP hD hS d_A_split_84 ⟨τ, hτ, Or.inr ⟨hok, Or.inr ⟨j, hj1, hj2, hj3, rfl, _, hadh, Or.inr ⟨(neg_ne hi1 (by omega) (by omega)), rfl⟩⟩⟩⟩
      · refine lv_istore (lv' := [(4, .int (nI (a_hn τ + 1))), (0, .ref (a 0)), (1, .int (nI j)), (2, .long d)]) hx hb d_A_split_52 hl (by decide) rfl (fun ls hl => ?_)
        refine lv_iload hx hb d_A_split_54 (lv_at hl 0 rfl) ?_
        refine x_if_le (tgt := 82) hx hb d_A_split_56 (by decide) (fun h9 => absurd h9 (by omega)) (fun _ => ?_)
        refine lv_aload_n hx hb d_A_split_59 rfl (lv_at hl 1 rfl) ?_
        refine va_get (D := (dC, dI)) (C := R_A) (T := F_A) (N := 6) hx hb hT i_A hown hK hP 0 rfl rfl 3 (by decide) (hT _ k_A_33) (fun _ h9 => h9) (v := .ref (a 10)) rfl d_A_split_60 ?_
        refine lv_iconst (v := nI 3) hx hb d_A_split_63 (by decide) ?_
        refine lv_iload_n hx hb d_A_split_64 rfl (lv_at hl 2 rfl) ?_
        refine lv_iload hx hb d_A_split_65 (lv_at hl 0 rfl) ?_
        refine lv_lload_n hx hb d_A_split_67 rfl (lv_at hl 3 rfl) ?_
        refine x_cMv (wl := wA a t) (x_runV ⟨hx, hb, hml, hown, hT⟩ (c_K_add l dC dI a t (au_hn (au_ln (au_le (au_lv (au_kd (τ) (updN (a_kd τ) (a_hn τ + 1) (a_kd τ j))) (updN (a_lv τ) (a_hn τ + 1) 1)) (cpT (a_le τ) ((a_hn τ + 1) * 20) (a_tx τ) (a_tn τ))) (updN (a_ln τ) (a_hn τ + 1) (a_tn τ))) (a_hn τ + 1)) H.size (GA_hn (GA_ln (GA_le (GA_lv (GA_kd hGτ (updN_lt t_kd (t_kd j))) (updN_lt t_lv (by decide))) (cpT_lt t_le t_tx)) (updN_le t_ln t_tn)) (by omega)) 3 j (a_hn τ + 1) d (by omega) (by omega) (by omega) hlcτ (by omega) (by omega)) f_K_add k_A_83 blM (va_recv hK hP (ci := 3) (q0 := 10) rfl rfl) (x_bM hK hP hN hD) hl.1 d_A_split_68 rfl (lv_room (Nat.le_of_ble_eq_true rfl)) ⟨Nat.le_of_ble_eq_true rfl, Nat.le_of_ble_eq_true rfl⟩ ⟨rfl, rfl⟩ ⟨Nat.le_refl 0, Nat.le_refl 0⟩ rfl) hD hS hA (fun u68 H locs q68 hP hD hS => ?_)
        rw [if_pos rfl] at q68
        subst q68
        have hP : va_P (dC, dI) classes (wA a t (au_lc (au_ld (au_lt (au_lf (au_tg (au_hn (au_ln (au_le (au_lv (au_kd (τ) (updN (a_kd τ) (a_hn τ + 1) (a_kd τ j))) (updN (a_lv τ) (a_hn τ + 1) 1)) (cpT (a_le τ) ((a_hn τ + 1) * 20) (a_tx τ) (a_tn τ))) (updN (a_ln τ) (a_hn τ + 1) (a_tn τ))) (a_hn τ + 1)) (vp_updL (a_tg τ) (3 * 61 + j) (a_tg τ (3 * 61 + j) ||| sg (a_hn τ + 1)))) (updN (a_lf τ) (a_lc τ) j)) (updN (a_lt τ) (a_lc τ) (a_hn τ + 1))) (vp_updL (a_ld τ) (a_lc τ) d)) (a_lc τ + 1))) H := hP
        have hD : va_D A (wA a t (au_lc (au_ld (au_lt (au_lf (au_tg (au_hn (au_ln (au_le (au_lv (au_kd (τ) (updN (a_kd τ) (a_hn τ + 1) (a_kd τ j))) (updN (a_lv τ) (a_hn τ + 1) 1)) (cpT (a_le τ) ((a_hn τ + 1) * 20) (a_tx τ) (a_tn τ))) (updN (a_ln τ) (a_hn τ + 1) (a_tn τ))) (a_hn τ + 1)) (vp_updL (a_tg τ) (3 * 61 + j) (a_tg τ (3 * 61 + j) ||| sg (a_hn τ + 1)))) (updN (a_lf τ) (a_lc τ) j)) (updN (a_lt τ) (a_lc τ) (a_hn τ + 1))) (vp_updL (a_ld τ) (a_lc τ) d)) (a_lc τ + 1))) := hD
        refine lv_aload_n hx hb d_A_split_71 rfl (lv_at hl 1 rfl) ?_
        refine va_get (D := (dC, dI)) (C := R_A) (T := F_A) (N := 6) hx hb hT i_A hown hK hP 0 rfl rfl 4 (by decide) (hT _ k_A_40) (fun _ h9 => h9) (v := .ref (a 15)) rfl d_A_split_72 ?_
        refine lv_iload_n hx hb d_A_split_75 rfl (lv_at hl 2 rfl) ?_
        refine lv_iload hx hb d_A_split_76 (lv_at hl 0 rfl) ?_
        refine lv_lload_n hx hb d_A_split_78 rfl (lv_at hl 3 rfl) ?_
        refine x_cMv (wl := wA a t) (x_runV ⟨hx, hb, hml, hown, hT⟩ (c_R_move l dC dI a t (au_lc (au_ld (au_lt (au_lf (au_tg (au_hn (au_ln (au_le (au_lv (au_kd (τ) (updN (a_kd τ) (a_hn τ + 1) (a_kd τ j))) (updN (a_lv τ) (a_hn τ + 1) 1)) (cpT (a_le τ) ((a_hn τ + 1) * 20) (a_tx τ) (a_tn τ))) (updN (a_ln τ) (a_hn τ + 1) (a_tn τ))) (a_hn τ + 1)) (vp_updL (a_tg τ) (3 * 61 + j) (a_tg τ (3 * 61 + j) ||| sg (a_hn τ + 1)))) (updN (a_lf τ) (a_lc τ) j)) (updN (a_lt τ) (a_lc τ) (a_hn τ + 1))) (vp_updL (a_ld τ) (a_lc τ) d)) (a_lc τ + 1)) H.size (GA_lc (GA_ld (GA_lt (GA_lf (GA_tg (GA_hn (GA_ln (GA_le (GA_lv (GA_kd hGτ (updN_lt t_kd (t_kd j))) (updN_lt t_lv (by decide))) (cpT_lt t_le t_tx)) (updN_le t_ln t_tn)) (by omega))) (updN_le t_lf (by omega))) (updN_le t_lt (by omega)))) (by omega)) j (a_hn τ + 1) d (by omega) (by omega)) f_R_move k_A_138 blM (va_recv hK hP (ci := 4) (q0 := 15) rfl rfl) (x_bM hK hP hN hD) hl.1 d_A_split_79 rfl (lv_room (Nat.le_of_ble_eq_true rfl)) ⟨Nat.le_of_ble_eq_true rfl, Nat.le_of_ble_eq_true rfl⟩ ⟨rfl, rfl⟩ ⟨Nat.le_refl 0, Nat.le_refl 0⟩ rfl) hD hS hA (fun u79 H locs q79 hP hD hS => ?_)
        subst q79
        have hP : va_P (dC, dI) classes (wA a t (au_rh (au_lc (au_ld (au_lt (au_lf (au_tg (au_hn (au_ln (au_le (au_lv (au_kd (τ) (updN (a_kd τ) (a_hn τ + 1) (a_kd τ j))) (updN (a_lv τ) (a_hn τ + 1) 1)) (cpT (a_le τ) ((a_hn τ + 1) * 20) (a_tx τ) (a_tn τ))) (updN (a_ln τ) (a_hn τ + 1) (a_tn τ))) (a_hn τ + 1)) (vp_updL (a_tg τ) (3 * 61 + j) (a_tg τ (3 * 61 + j) ||| sg (a_hn τ + 1)))) (updN (a_lf τ) (a_lc τ) j)) (updN (a_lt τ) (a_lc τ) (a_hn τ + 1))) (vp_updL (a_ld τ) (a_lc τ) d)) (a_lc τ + 1)) (mvR (a_rh τ) (a_rd τ) j (a_hn τ + 1) d (a_rn τ)))) H := hP
        have hD : va_D A (wA a t (au_rh (au_lc (au_ld (au_lt (au_lf (au_tg (au_hn (au_ln (au_le (au_lv (au_kd (τ) (updN (a_kd τ) (a_hn τ + 1) (a_kd τ j))) (updN (a_lv τ) (a_hn τ + 1) 1)) (cpT (a_le τ) ((a_hn τ + 1) * 20) (a_tx τ) (a_tn τ))) (updN (a_ln τ) (a_hn τ + 1) (a_tn τ))) (a_hn τ + 1)) (vp_updL (a_tg τ) (3 * 61 + j) (a_tg τ (3 * 61 + j) ||| sg (a_hn τ + 1)))) (updN (a_lf τ) (a_lc τ) j)) (updN (a_lt τ) (a_lc τ) (a_hn τ + 1))) (vp_updL (a_ld τ) (a_lc τ) d)) (a_lc τ + 1)) (mvR (a_rh τ) (a_rd τ) j (a_hn τ + 1) d (a_rn τ)))) := hD
        refine lv_iload hx hb d_A_split_82 (lv_at hl 0 rfl) ?_
        exact x_mi (wl := wA a t) (au_rh (au_lc (au_ld (au_lt (au_lf (au_tg (au_hn (au_ln (au_le (au_lv (au_kd (τ) (updN (a_kd τ) (a_hn τ + 1) (a_kd τ j))) (updN (a_lv τ) (a_hn τ + 1) 1)) (cpT (a_le τ) ((a_hn τ + 1) * 20) (a_tx τ) (a_tn τ))) (updN (a_ln τ) (a_hn τ + 1) (a_tn τ))) (a_hn τ + 1)) (vp_updL (a_tg τ) (3 * 61 + j) (a_tg τ (3 * 61 + j) ||| sg (a_hn τ + 1)))) (updN (a_lf τ) (a_lc τ) j)) (updN (a_lt τ) (a_lc τ) (a_hn τ + 1))) (vp_updL (a_ld τ) (a_lc τ) d)) (a_lc τ + 1)) (mvR (a_rh τ) (a_rd τ) j (a_hn τ + 1) d (a_rn τ))) hx hb hr hlk hK hP hD hS d_A_split_84 ⟨τ, hτ, Or.inr ⟨hok, Or.inr ⟨j, hj1, hj2, hj3, rfl, _, hadh, Or.inl ⟨rfl, h60, rfl⟩⟩⟩⟩
    · refine x_if_eq (tgt := 38) hx hb d_A_split_25 (by decide) (fun _ => ?_) (fun h => absurd h (by decide))
      refine lv_iconst (v := nI 0) hx hb d_A_split_38 (by decide) ?_
      exact x_mi (wl := wA a t) (τ) hx hb hr hlk hK hP hD hS d_A_split_39 ⟨τ, hτ, Or.inr ⟨hok, Or.inl ⟨hnj, rfl, rfl⟩⟩⟩
  · refine x_if_ne (tgt := 17) hx hb d_A_split_11 (by decide) (fun h => absurd h (by decide)) (fun _ => ?_)
    refine lv_bipush (v := -99) hx hb d_A_split_14 (by decide) ?_
    exact x_mi (wl := wA a t) (τ) hx hb hr hlk hK hP hD hS d_A_split_16 ⟨τ, hτ, Or.inl ⟨hok, rfl, rfl⟩⟩

