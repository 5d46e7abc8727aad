set_option maxRecDepth 100000 in
set_option maxHeartbeats 4000000 in
theorem c_M_lay (l : Launch) (dC : Nat → ClassId) (dI : Nat → Nat → Nat) (a : Nat → Nat) (t : Nat → ClassId) (σ : SM) (sz : Nat) (hG : GM σ) (j : Nat) (hj2 : j ≤ 60) (hc : m_co σ ≤ 20) (hq : ∀ k, k < m_co σ → m_sd σ k < 128) : Met l y_M_lay (wS y_M_lay b_M_lay 3 none) (rD 0) (va_Pc [.ref (a 0), .int (nI j)] (MB (dC, dI) (yM t) (wM a t σ) sz)) (va_Qv (fun u : SM => u = mu_zs (mu_tx σ (cpT (m_tx σ) (20 * j) (m_sd σ) (m_co σ))) (updN (m_zs σ) j (m_co σ))) (fun u => ME (dC, dI) (yM t) (va_A (wM a t σ) sz) (wM a t u)) (va_A (wM a t σ) sz)) 0 0 (va_A (wM a t σ) sz) := by
  refine x_enter (by decide) (Nat.le_of_ble_eq_true rfl) ?_
  intro p e s m below meth c ls hx hb hr hml hT hown hlk hnm hl hB
  obtain ⟨rfl, hP, hK, hN, hD0⟩ := hB
  have hD := hD0.self (sz := s.heap.size)
  generalize hAe : va_A (wM a t σ) s.heap.size = A at hD ⊢
  have hA : ∀ q : Nat, s.heap.size ≤ q → A q := fun q h => by rw [← hAe]; exact Or.inr h
  have hS : va_S A s.heap s.heap [] := va_S.rf
  have hP : va_P (dC, dI) classes (wM a t σ) s.heap := hP
  have hl : lv_has ls 3 [(0, .ref (a 0)), (1, .int (nI j))] := hl
  have hown : s.vm.findClass R_M = some m.cls := hown
  have hG2 := hG
  obtain ⟨g_sz, g_sd, g_hn, g_kd, g_lv, g_tx, g_zs, g_ln, g_lf, g_lt, g_rn, g_lk, g_wy, g_wn, g_di, g_co⟩ := hG
  refine lv_aload_n hx hb d_M_lay_0 rfl (lv_at hl 0 rfl) ?_
  refine va_get (D := (dC, dI)) (C := R_M) (T := F_M) (N := 20) hx hb hT i_M hown hK hP 0 rfl rfl 7 (by decide) (hT _ k_M_24) (fun _ h9 => h9) (v := .ref (a 5)) rfl d_M_lay_1 ?_
  refine lv_iload_n hx hb d_M_lay_4 rfl (lv_at hl 1 rfl) ?_
  refine lv_aload_n hx hb d_M_lay_5 rfl (lv_at hl 0 rfl) ?_
  refine va_get (D := (dC, dI)) (C := R_M) (T := F_M) (N := 20) hx hb hT i_M hown hK hP 0 rfl rfl 19 (by decide) (hT _ k_M_59) (fun _ h9 => h9) (v := .int (nI (m_co σ))) rfl d_M_lay_6 ?_
  refine x_iast hx hb hK hP hD hS 5 4 (f := (m_zs σ)) rfl rfl d_M_lay_9 (by omega) (fun H locs hP hD hS => ?_)
  have hP : va_P (dC, dI) classes (wM a t (mu_zs σ (updN (m_zs σ) (j) (m_co σ)))) H := hP
  have hD : va_D A (wM a t (mu_zs σ (updN (m_zs σ) (j) (m_co σ)))) := hD
  have e0 : wM a t (mu_zs σ (updN (m_zs σ) j (m_co σ))) = wM a t (mu_zs (mu_tx σ (cpT (m_tx σ) (20 * j) (m_sd σ) 0)) (updN (m_zs σ) j (m_co σ))) := by rw [cpT_0]; rfl
  rw [e0] at hP hD
  refine lv_iconst (v := nI 0) hx hb d_M_lay_10 (by decide) ?_
  refine lv_istore_n (lv' := [(2, .int (nI 0)), (0, .ref (a 0)), (1, .int (nI j))]) hx hb d_M_lay_11 rfl hl (by decide) rfl (fun ls hl => ?_)
  have hloop12 : ∀ (n12 : Nat) (k : Nat) (H : Heap) (locs : List Loc) (ls : Array Slot), k ≤ m_co σ → m_co σ + 1 - k < n12 → va_P (dC, dI) classes (wM a t (mu_zs (mu_tx σ (cpT (m_tx σ) (20 * j) (m_sd σ) k)) (updN (m_zs σ) j (m_co σ)))) H → va_D A (wM a t (mu_zs (mu_tx σ (cpT (m_tx σ) (20 * j) (m_sd σ) k)) (updN (m_zs σ) j (m_co σ)))) → va_S A s.heap H locs → lv_has ls 3 [(0, .ref (a 0)), (1, .int (nI j)), (2, .int (nI k))] → W p l e (rD 0) s m ([.ref (a 0), .int (nI j)] : List Value).toArray below meth c H locs 0 0 (MQ below (va_Qv (fun u : SM => u = mu_zs (mu_tx σ (cpT (m_tx σ) (20 * j) (m_sd σ) (m_co σ))) (updN (m_zs σ) j (m_co σ))) (fun u => ME (dC, dI) (yM t) A (wM a t u)) A) ([.ref (a 0), .int (nI j)] : List Value).toArray s 0 0 A) (F0 m 12 ls []) := by
    intro n12
    induction n12 with
    | zero => intro k H locs ls _ h9; exact absurd h9 (Nat.not_lt_zero _)
    | succ n12 ih12 =>
      intro k H locs ls hk hmu12 hP hD hS hl
      refine lv_iload_n hx hb d_M_lay_12 rfl (lv_at hl 2 rfl) ?_
      refine lv_aload_n hx hb d_M_lay_13 rfl (lv_at hl 0 rfl) ?_
      refine va_get (D := (dC, dI)) (C := R_M) (T := F_M) (N := 20) hx hb hT i_M hown hK hP 0 rfl rfl 19 (by decide) (hT _ k_M_59) (fun _ h9 => h9) (v := .int (nI (m_co σ))) rfl d_M_lay_14 ?_
      refine x_icmp_ge (tgt := 43) hx hb d_M_lay_17 (by decide) (fun c17 => ?_) (fun c17 => ?_)
      · exact x_mv (wl := wM a t) (mu_zs (mu_tx σ (cpT (m_tx σ) (20 * j) (m_sd σ) k)) (updN (m_zs σ) j (m_co σ))) hx hb hr hlk hK hP hD hS d_M_lay_43 (by rw [show k = m_co σ by omega])
      · refine lv_aload_n hx hb d_M_lay_20 rfl (lv_at hl 0 rfl) ?_
        refine va_get (D := (dC, dI)) (C := R_M) (T := F_M) (N := 20) hx hb hT i_M hown hK hP 0 rfl rfl 6 (by decide) (hT _ k_M_21) (fun _ h9 => h9) (v := .ref (a 4)) rfl d_M_lay_21 ?_
        refine lv_bipush (v := nI 20) hx hb d_M_lay_24 (by decide) ?_
        refine lv_iload_n hx hb d_M_lay_26 rfl (lv_at hl 1 rfl) ?_
        refine x_imul hx hb d_M_lay_27 ?_
        refine lv_iload_n hx hb d_M_lay_28 rfl (lv_at hl 2 rfl) ?_
        refine x_iadd hx hb d_M_lay_29 ?_
        refine lv_aload_n hx hb d_M_lay_30 rfl (lv_at hl 0 rfl) ?_
        refine va_get (D := (dC, dI)) (C := R_M) (T := F_M) (N := 20) hx hb hT i_M hown hK hP 0 rfl rfl 1 (by decide) (hT _ k_M_7) (fun _ h9 => h9) (v := .ref (a 1)) rfl d_M_lay_31 ?_
        refine lv_iload_n hx hb d_M_lay_34 rfl (lv_at hl 2 rfl) ?_
        refine x_Bald hx hb hK hP 1 0 (f := (m_sd σ)) rfl rfl d_M_lay_35 (by omega) (hq k (by omega)) ?_
        have h128 := hq k (by omega)
        refine x_bast hx hb hK hP hD hS 4 3 (f := (cpT (m_tx σ) (20 * j) (m_sd σ) k)) rfl rfl d_M_lay_36 (by omega) (fun H locs hP hD hS => ?_)
        have hP : va_P (dC, dI) classes (wM a t (mu_zs (mu_tx σ (updN (cpT (m_tx σ) (20 * j) (m_sd σ) k) ((20 * j) + k) ((m_sd σ) k))) (updN (m_zs σ) j (m_co σ)))) H := hP
        have hD : va_D A (wM a t (mu_zs (mu_tx σ (updN (cpT (m_tx σ) (20 * j) (m_sd σ) k) ((20 * j) + k) ((m_sd σ) k))) (updN (m_zs σ) j (m_co σ)))) := hD
        rw [show updN (cpT (m_tx σ) (20 * j) (m_sd σ) k) (20 * j + k) (m_sd σ k) = cpT (m_tx σ) (20 * j) (m_sd σ) (k + 1) from cpT_s _ _ _ _] at hP hD
        refine x_iinc (lv' := [(2, .int (nI (k + 1))), (0, .ref (a 0)), (1, .int (nI j))]) hx hb d_M_lay_37 hl (k := 2) rfl (by decide) rfl (fun ls hl => ?_)
        refine lv_goto (tgt := 12) hx hb d_M_lay_40 (by decide) ?_
        exact ih12 (k + 1) H locs ls (by omega) (by omega) hP hD hS (lv_sub hl [1, 2, 0] rfl)
  exact hloop12 _ 0 _ _ ls (by omega) (Nat.lt_succ_self _) hP hD hS (lv_sub hl [1, 2, 0] rfl)

set_option maxRecDepth 100000 in
set_option maxHeartbeats 4000000 in
theorem c_M_firstK (l : Launch) (dC : Nat → ClassId) (dI : Nat → Nat → Nat) (a : Nat → Nat) (t : Nat → ClassId) (σ : SM) (hG : GM σ) (kk : Nat) (hkk : kk < 4) (ex : Nat) (hex : ex ≤ 60) (hc : m_co σ ≤ 20) (hq : ∀ k, k < m_co σ → m_sd σ k < 128) : Met l y_M_first (wS y_M_first b_M_first 4 (some .int)) (rD 2) (va_Pc [.ref (a 0), .int (nI kk), .int (nI ex)] (RB (dC, dI) (yM t) (wM a t σ))) (vp_Si (fun r => FST (fun h => h ≠ ex ∧ m_lv σ h = 1 ∧ m_kd σ h = kk ∧ m_same σ h) (m_hn σ) r)) 0 0 (fun _ => False) := by
  refine x_enter (by decide) (Nat.le_of_ble_eq_true rfl) ?_
  intro p e s m below meth c ls hx hb hr hml hT hown hlk hnm hl hB
  obtain ⟨hP, hK, hN⟩ := hB
  have hl : lv_has ls 4 [(0, .ref (a 0)), (1, .int (nI kk)), (2, .int (nI ex))] := hl
  have hown : s.vm.findClass R_M = some m.cls := hown
  have hG2 := hG
  obtain ⟨g_sz, g_sd, g_hn, g_kd, g_lv, g_tx, g_zs, g_ln, g_lf, g_lt, g_rn, g_lk, g_wy, g_wn, g_di, g_co⟩ := hG
  refine lv_iconst (v := nI 1) hx hb d_M_first_0 (by decide) ?_
  refine lv_istore_n (lv' := [(3, .int (nI 1)), (0, .ref (a 0)), (1, .int (nI kk)), (2, .int (nI ex))]) hx hb d_M_first_1 rfl hl (by decide) rfl (fun ls hl => ?_)
  have hloop2 : ∀ (n2 : Nat) (h : Nat) (ls : Array Slot), 1 ≤ h → h ≤ m_hn σ + 1 → (∀ i, 1 ≤ i → i < h → ¬ (fun h => h ≠ ex ∧ m_lv σ h = 1 ∧ m_kd σ h = kk ∧ m_same σ h) i) → m_hn σ + 1 - h < n2 → lv_has ls 4 [(0, .ref (a 0)), (1, .int (nI kk)), (2, .int (nI ex)), (3, .int (nI h))] → W p l e (rD 2) s m ([.ref (a 0), .int (nI kk), .int (nI ex)] : List Value).toArray below meth c s.heap [] 0 0 (MQ below (vp_Si (fun r => FST (fun h => h ≠ ex ∧ m_lv σ h = 1 ∧ m_kd σ h = kk ∧ m_same σ h) (m_hn σ) r)) ([.ref (a 0), .int (nI kk), .int (nI ex)] : List Value).toArray s 0 0 (fun _ => False)) (F0 m 2 ls []) := by
    intro n2
    induction n2 with
    | zero => intro h ls _ _ _ h9; exact absurd h9 (Nat.not_lt_zero _)
    | succ n2 ih2 =>
      intro h ls h1 h2 hinv hmu2 hl
      refine lv_iload_n hx hb d_M_first_2 rfl (lv_at hl 3 rfl) ?_
      refine lv_aload_n hx hb d_M_first_3 rfl (lv_at hl 0 rfl) ?_
      refine va_get (D := (dC, dI)) (C := R_M) (T := F_M) (N := 20) hx hb hT i_M hown hK hP 0 rfl rfl 3 (by decide) (hT _ k_M_66) (fun _ h9 => h9) (v := .int (nI (m_hn σ))) rfl d_M_first_4 ?_
      refine x_icmp_gt (tgt := 55) hx hb d_M_first_7 (by decide) (fun c7 => ?_) (fun c7 => ?_)
      · refine lv_iconst (v := nI 0) hx hb d_M_first_55 (by decide) ?_
        exact x_ri hx hb hr hlk d_M_first_56 (Or.inr ⟨fun i h3 h4 => hinv i h3 (by omega), rfl⟩)
      · refine lv_aload_n hx hb d_M_first_10 rfl (lv_at hl 0 rfl) ?_
        refine va_get (D := (dC, dI)) (C := R_M) (T := F_M) (N := 20) hx hb hT i_M hown hK hP 0 rfl rfl 5 (by decide) (hT _ k_M_17) (fun _ h9 => h9) (v := .ref (a 3)) rfl d_M_first_11 ?_
        refine lv_iload_n hx hb d_M_first_14 rfl (lv_at hl 3 rfl) ?_
        refine x_zald hx hb hK hP 3 2 (f := (m_lv σ)) rfl rfl d_M_first_15 (by omega) ?_
        have g1 := g_lv h
        refine x_if_eq (tgt := 49) hx hb d_M_first_16 (by decide) (fun c16 => ?_) (fun c16 => ?_)
        · refine x_iinc (lv' := [(3, .int (nI (h + 1))), (0, .ref (a 0)), (1, .int (nI kk)), (2, .int (nI ex))]) hx hb d_M_first_49 hl (k := 3) rfl (by decide) rfl (fun ls hl => ?_)
          refine lv_goto (tgt := 2) hx hb d_M_first_52 (by decide) ?_
          exact ih2 (h + 1) ls (by omega) (by omega) (notT_s hinv (fun h9 => by first | exact hqq h9.2.2.2 | omega)) (by omega) (lv_sub hl [1, 2, 3, 0] rfl)
        · refine lv_iload_n hx hb d_M_first_19 rfl (lv_at hl 3 rfl) ?_
          refine lv_iload_n hx hb d_M_first_20 rfl (lv_at hl 2 rfl) ?_
          refine x_icmp_eq (tgt := 49) hx hb d_M_first_21 (by decide) (fun c21 => ?_) (fun c21 => ?_)
          · refine x_iinc (lv' := [(3, .int (nI (h + 1))), (0, .ref (a 0)), (1, .int (nI kk)), (2, .int (nI ex))]) hx hb d_M_first_49 hl (k := 3) rfl (by decide) rfl (fun ls hl => ?_)
            refine lv_goto (tgt := 2) hx hb d_M_first_52 (by decide) ?_
            exact ih2 (h + 1) ls (by omega) (by omega) (notT_s hinv (fun h9 => by first | exact hqq h9.2.2.2 | omega)) (by omega) (lv_sub hl [1, 2, 3, 0] rfl)
          · refine lv_iload_n hx hb d_M_first_24 rfl (lv_at hl 1 rfl) ?_
            refine lv_iconst (v := -1) hx hb d_M_first_25 (by decide) ?_
            refine lv_icmp_eq (tgt := 39) hx hb d_M_first_26 (by decide) (fun h9 => absurd h9 (nI_m1 (by omega))) (fun _ => ?_)
            refine lv_aload_n hx hb d_M_first_29 rfl (lv_at hl 0 rfl) ?_
            refine va_get (D := (dC, dI)) (C := R_M) (T := F_M) (N := 20) hx hb hT i_M hown hK hP 0 rfl rfl 4 (by decide) (hT _ k_M_13) (fun _ h9 => h9) (v := .ref (a 2)) rfl d_M_first_30 ?_
            refine lv_iload_n hx hb d_M_first_33 rfl (lv_at hl 3 rfl) ?_
            refine x_iald hx hb hK hP 2 1 (f := (m_kd σ)) rfl rfl d_M_first_34 (by omega) ?_
            refine lv_iload_n hx hb d_M_first_35 rfl (lv_at hl 1 rfl) ?_
            have g2 := g_kd h
            refine x_icmp_ne (tgt := 49) hx hb d_M_first_36 (by decide) (fun c36 => ?_) (fun c36 => ?_)
            · refine x_iinc (lv' := [(3, .int (nI (h + 1))), (0, .ref (a 0)), (1, .int (nI kk)), (2, .int (nI ex))]) hx hb d_M_first_49 hl (k := 3) rfl (by decide) rfl (fun ls hl => ?_)
              refine lv_goto (tgt := 2) hx hb d_M_first_52 (by decide) ?_
              exact ih2 (h + 1) ls (by omega) (by omega) (notT_s hinv (fun h9 => by first | exact hqq h9.2.2.2 | omega)) (by omega) (lv_sub hl [1, 2, 3, 0] rfl)
            · refine lv_aload_n hx hb d_M_first_39 rfl (lv_at hl 0 rfl) ?_
              refine lv_iload_n hx hb d_M_first_40 rfl (lv_at hl 3 rfl) ?_
              refine x_ci (x_runV ⟨hx, hb, hml, hown, hT⟩ (c_M_hasText l dC dI a t σ hG2 h (by omega) (by omega) hc hq) f_M_hasText k_M_69 blR (va_recv hK hP (ci := 7) (q0 := 0) rfl rfl) (x_bR hK hP hN) hl.1 d_M_first_41 rfl (lv_room (Nat.le_of_ble_eq_true rfl)) ⟨Nat.le_of_ble_eq_true rfl, Nat.le_of_ble_eq_true rfl⟩ ⟨rfl, rfl⟩ ⟨Nat.le_refl 0, Nat.le_refl 0⟩ rfl) (fun r41 q41 => ?_)
              rcases q41 with ⟨rfl, hqq⟩ | ⟨rfl, hqq⟩
              · refine x_if_eq (tgt := 49) hx hb d_M_first_44 (by decide) (fun h => absurd h (by decide)) (fun _ => ?_)
                refine lv_iload_n hx hb d_M_first_47 rfl (lv_at hl 3 rfl) ?_
                exact x_ri hx hb hr hlk d_M_first_48 (Or.inl ⟨h, by omega, by omega, ⟨by omega, by omega, by omega, hqq⟩, fun i h3 h4 => hinv i h3 h4, rfl⟩)
              · refine x_if_eq (tgt := 49) hx hb d_M_first_44 (by decide) (fun _ => ?_) (fun h => absurd h (by decide))
                refine x_iinc (lv' := [(3, .int (nI (h + 1))), (0, .ref (a 0)), (1, .int (nI kk)), (2, .int (nI ex))]) hx hb d_M_first_49 hl (k := 3) rfl (by decide) rfl (fun ls hl => ?_)
                refine lv_goto (tgt := 2) hx hb d_M_first_52 (by decide) ?_
                exact ih2 (h + 1) ls (by omega) (by omega) (notT_s hinv (fun h9 => by first | exact hqq h9.2.2.2 | omega)) (by omega) (lv_sub hl [1, 2, 3, 0] rfl)
  exact hloop2 _ 1 ls (by omega) (by omega) (fun i h3 h4 => by omega) (Nat.lt_succ_self _) (lv_sub hl [1, 2, 3, 0] rfl)

set_option maxRecDepth 100000 in
set_option maxHeartbeats 4000000 in
theorem c_M_firstA (l : Launch) (dC : Nat → ClassId) (dI : Nat → Nat → Nat) (a : Nat → Nat) (t : Nat → ClassId) (σ : SM) (hG : GM σ)  (ex : Nat) (hex : ex ≤ 60) (hc : m_co σ ≤ 20) (hq : ∀ k, k < m_co σ → m_sd σ k < 128) : Met l y_M_first (wS y_M_first b_M_first 4 (some .int)) (rD 2) (va_Pc [.ref (a 0), .int (-1), .int (nI ex)] (RB (dC, dI) (yM t) (wM a t σ))) (vp_Si (fun r => FST (fun h => h ≠ ex ∧ m_lv σ h = 1 ∧ m_same σ h) (m_hn σ) r)) 0 0 (fun _ => False) := by
  refine x_enter (by decide) (Nat.le_of_ble_eq_true rfl) ?_
  intro p e s m below meth c ls hx hb hr hml hT hown hlk hnm hl hB
  obtain ⟨hP, hK, hN⟩ := hB
  have hl : lv_has ls 4 [(0, .ref (a 0)), (1, .int (-1)), (2, .int (nI ex))] := hl
  have hown : s.vm.findClass R_M = some m.cls := hown
  have hG2 := hG
  obtain ⟨g_sz, g_sd, g_hn, g_kd, g_lv, g_tx, g_zs, g_ln, g_lf, g_lt, g_rn, g_lk, g_wy, g_wn, g_di, g_co⟩ := hG
  refine lv_iconst (v := nI 1) hx hb d_M_first_0 (by decide) ?_
  refine lv_istore_n (lv' := [(3, .int (nI 1)), (0, .ref (a 0)), (1, .int (-1)), (2, .int (nI ex))]) hx hb d_M_first_1 rfl hl (by decide) rfl (fun ls hl => ?_)
  have hloop2 : ∀ (n2 : Nat) (h : Nat) (ls : Array Slot), 1 ≤ h → h ≤ m_hn σ + 1 → (∀ i, 1 ≤ i → i < h → ¬ (fun h => h ≠ ex ∧ m_lv σ h = 1 ∧ m_same σ h) i) → m_hn σ + 1 - h < n2 → lv_has ls 4 [(0, .ref (a 0)), (1, .int (-1)), (2, .int (nI ex)), (3, .int (nI h))] → W p l e (rD 2) s m ([.ref (a 0), .int (-1), .int (nI ex)] : List Value).toArray below meth c s.heap [] 0 0 (MQ below (vp_Si (fun r => FST (fun h => h ≠ ex ∧ m_lv σ h = 1 ∧ m_same σ h) (m_hn σ) r)) ([.ref (a 0), .int (-1), .int (nI ex)] : List Value).toArray s 0 0 (fun _ => False)) (F0 m 2 ls []) := by
    intro n2
    induction n2 with
    | zero => intro h ls _ _ _ h9; exact absurd h9 (Nat.not_lt_zero _)
    | succ n2 ih2 =>
      intro h ls h1 h2 hinv hmu2 hl
      refine lv_iload_n hx hb d_M_first_2 rfl (lv_at hl 3 rfl) ?_
      refine lv_aload_n hx hb d_M_first_3 rfl (lv_at hl 0 rfl) ?_
      refine va_get (D := (dC, dI)) (C := R_M) (T := F_M) (N := 20) hx hb hT i_M hown hK hP 0 rfl rfl 3 (by decide) (hT _ k_M_66) (fun _ h9 => h9) (v := .int (nI (m_hn σ))) rfl d_M_first_4 ?_
      refine x_icmp_gt (tgt := 55) hx hb d_M_first_7 (by decide) (fun c7 => ?_) (fun c7 => ?_)
      · refine lv_iconst (v := nI 0) hx hb d_M_first_55 (by decide) ?_
        exact x_ri hx hb hr hlk d_M_first_56 (Or.inr ⟨fun i h3 h4 => hinv i h3 (by omega), rfl⟩)
      · refine lv_aload_n hx hb d_M_first_10 rfl (lv_at hl 0 rfl) ?_
        refine va_get (D := (dC, dI)) (C := R_M) (T := F_M) (N := 20) hx hb hT i_M hown hK hP 0 rfl rfl 5 (by decide) (hT _ k_M_17) (fun _ h9 => h9) (v := .ref (a 3)) rfl d_M_first_11 ?_
        refine lv_iload_n hx hb d_M_first_14 rfl (lv_at hl 3 rfl) ?_
        refine x_zald hx hb hK hP 3 2 (f := (m_lv σ)) rfl rfl d_M_first_15 (by omega) ?_
        have g1 := g_lv h
        refine x_if_eq (tgt := 49) hx hb d_M_first_16 (by decide) (fun c16 => ?_) (fun c16 => ?_)
        · refine x_iinc (lv' := [(3, .int (nI (h + 1))), (0, .ref (a 0)), (1, .int (-1)), (2, .int (nI ex))]) hx hb d_M_first_49 hl (k := 3) rfl (by decide) rfl (fun ls hl => ?_)
          refine lv_goto (tgt := 2) hx hb d_M_first_52 (by decide) ?_
          exact ih2 (h + 1) ls (by omega) (by omega) (notT_s hinv (fun h9 => by first | exact hqq h9.2.2 | omega)) (by omega) (lv_sub hl [1, 2, 3, 0] rfl)
        · refine lv_iload_n hx hb d_M_first_19 rfl (lv_at hl 3 rfl) ?_
          refine lv_iload_n hx hb d_M_first_20 rfl (lv_at hl 2 rfl) ?_
          refine x_icmp_eq (tgt := 49) hx hb d_M_first_21 (by decide) (fun c21 => ?_) (fun c21 => ?_)
          · refine x_iinc (lv' := [(3, .int (nI (h + 1))), (0, .ref (a 0)), (1, .int (-1)), (2, .int (nI ex))]) hx hb d_M_first_49 hl (k := 3) rfl (by decide) rfl (fun ls hl => ?_)
            refine lv_goto (tgt := 2) hx hb d_M_first_52 (by decide) ?_
            exact ih2 (h + 1) ls (by omega) (by omega) (notT_s hinv (fun h9 => by first | exact hqq h9.2.2 | omega)) (by omega) (lv_sub hl [1, 2, 3, 0] rfl)
          · refine lv_iload_n hx hb d_M_first_24 rfl (lv_at hl 1 rfl) ?_
            refine lv_iconst (v := -1) hx hb d_M_first_25 (by decide) ?_
            refine lv_icmp_eq (tgt := 39) hx hb d_M_first_26 (by decide) (fun _ => ?_) (fun h9 => absurd rfl h9)
            refine lv_aload_n hx hb d_M_first_39 rfl (lv_at hl 0 rfl) ?_
            refine lv_iload_n hx hb d_M_first_40 rfl (lv_at hl 3 rfl) ?_
            refine x_ci (x_runV ⟨hx, hb, hml, hown, hT⟩ (c_M_hasText l dC dI a t σ hG2 h (by omega) (by omega) hc hq) f_M_hasText k_M_69 blR (va_recv hK hP (ci := 7) (q0 := 0) rfl rfl) (x_bR hK hP hN) hl.1 d_M_first_41 rfl (lv_room (Nat.le_of_ble_eq_true rfl)) ⟨Nat.le_of_ble_eq_true rfl, Nat.le_of_ble_eq_true rfl⟩ ⟨rfl, rfl⟩ ⟨Nat.le_refl 0, Nat.le_refl 0⟩ rfl) (fun r41 q41 => ?_)
            rcases q41 with ⟨rfl, hqq⟩ | ⟨rfl, hqq⟩
            · refine x_if_eq (tgt := 49) hx hb d_M_first_44 (by decide) (fun h => absurd h (by decide)) (fun _ => ?_)
              refine lv_iload_n hx hb d_M_first_47 rfl (lv_at hl 3 rfl) ?_
              exact x_ri hx hb hr hlk d_M_first_48 (Or.inl ⟨h, by omega, by omega, ⟨by omega, by omega, hqq⟩, fun i h3 h4 => hinv i h3 h4, rfl⟩)
            · refine x_if_eq (tgt := 49) hx hb d_M_first_44 (by decide) (fun _ => ?_) (fun h => absurd h (by decide))
              refine x_iinc (lv' := [(3, .int (nI (h + 1))), (0, .ref (a 0)), (1, .int (-1)), (2, .int (nI ex))]) hx hb d_M_first_49 hl (k := 3) rfl (by decide) rfl (fun ls hl => ?_)
              refine lv_goto (tgt := 2) hx hb d_M_first_52 (by decide) ?_
              exact ih2 (h + 1) ls (by omega) (by omega) (notT_s hinv (fun h9 => by first | exact hqq h9.2.2 | omega)) (by omega) (lv_sub hl [1, 2, 3, 0] rfl)
  exact hloop2 _ 1 ls (by omega) (by omega) (fun i h3 h4 => by omega) (Nat.lt_succ_self _) (lv_sub hl [1, 2, 3, 0] rfl)

theorem lt1_le {x : Int32} (h : x < nI 1) : x ≤ 0 := by
  rw [Int32.le_iff_toInt_le]
  have h1 := Int32.lt_iff_toInt_lt.mp h
  have h2 : (nI 1).toInt = 1 := by decide
  have h3 : (0 : Int32).toInt = 0 := by decide
  omega
theorem le0_no {x : Int32} {n : Nat} (hn : n < 2 ^ 31) (h : x ≤ 0) : ¬ ∃ j, 1 ≤ j ∧ j ≤ n ∧ x = nI j := by
  rintro ⟨j, h1, h2, rfl⟩
  exact nI_nle (by omega) (by omega) h
set_option maxRecDepth 100000 in
set_option maxHeartbeats 4000000 in
theorem c_M_isLive (l : Launch) (dC : Nat → ClassId) (dI : Nat → Nat → Nat) (a : Nat → Nat) (t : Nat → ClassId) (σ : SM) (hG : GM σ) (x : Int32) : Met l y_M_isLive (wS y_M_isLive b_M_isLive 2 (some .boolean)) (rD 0) (va_Pc [.ref (a 0), .int x] (RB (dC, dI) (yM t) (wM a t σ))) (vp_Si (fun r => BR r (∃ j, 1 ≤ j ∧ j ≤ m_hn σ ∧ m_lv σ j = 1 ∧ x = nI j))) 0 0 (fun _ => False) := by
  refine x_enter (by decide) (Nat.le_of_ble_eq_true rfl) ?_
  intro p e s m below meth c ls hx hb hr hml hT hown hlk hnm hl hB
  obtain ⟨hP, hK, hN⟩ := hB
  have hl : lv_has ls 2 [(0, .ref (a 0)), (1, .int x)] := hl
  have hown : s.vm.findClass R_M = some m.cls := hown
  have hG2 := hG
  obtain ⟨g_sz, g_sd, g_hn, g_kd, g_lv, g_tx, g_zs, g_ln, g_lf, g_lt, g_rn, g_lk, g_wy, g_wn, g_di, g_co⟩ := hG
  refine lv_iload_n hx hb d_M_isLive_0 rfl (lv_at hl 1 rfl) ?_
  refine lv_if_le (tgt := 25) hx hb d_M_isLive_1 (by decide) (fun c1 => ?_) (fun c1 => ?_)
  · refine lv_iconst (v := nI 0) hx hb d_M_isLive_25 (by decide) ?_
    exact x_rz hx hb hr hlk d_M_isLive_26 rfl (Or.inr ⟨rfl, by first | exact fun ⟨j, h1, h2, _, h4⟩ => le0_no (n := m_hn σ) (by omega) c1 ⟨j, h1, h2, h4⟩ | exact fun ⟨j, h1, h2, _, h4⟩ => x_there2 (n := m_hn σ) (by omega) c9 ⟨j, h1, h2, h4⟩ | (rintro ⟨i, h1, h2, h3, h4⟩; have h5 := (nI_eq (by omega) (by omega)).mp h4; subst h5; omega)⟩)
  · refine lv_iload_n hx hb d_M_isLive_4 rfl (lv_at hl 1 rfl) ?_
    refine lv_aload_n hx hb d_M_isLive_5 rfl (lv_at hl 0 rfl) ?_
    refine va_get (D := (dC, dI)) (C := R_M) (T := F_M) (N := 20) hx hb hT i_M hown hK hP 0 rfl rfl 3 (by decide) (hT _ k_M_66) (fun _ h9 => h9) (v := .int (nI (m_hn σ))) rfl d_M_isLive_6 ?_
    refine lv_icmp_gt (tgt := 25) hx hb d_M_isLive_9 (by decide) (fun c9 => ?_) (fun c9 => ?_)
    · refine lv_iconst (v := nI 0) hx hb d_M_isLive_25 (by decide) ?_
      exact x_rz hx hb hr hlk d_M_isLive_26 rfl (Or.inr ⟨rfl, by first | exact fun ⟨j, h1, h2, _, h4⟩ => le0_no (n := m_hn σ) (by omega) c1 ⟨j, h1, h2, h4⟩ | exact fun ⟨j, h1, h2, _, h4⟩ => x_there2 (n := m_hn σ) (by omega) c9 ⟨j, h1, h2, h4⟩ | (rintro ⟨i, h1, h2, h3, h4⟩; have h5 := (nI_eq (by omega) (by omega)).mp h4; subst h5; omega)⟩)
    · obtain ⟨j, hj1, hj2, rfl⟩ := x_there (by omega) (fun h9 => c1 (show x ≤ 0 from by first | exact Int32.le_of_lt_add_one h9 | exact lt1_le h9)) c9
      have g1 := g_lv j
      refine lv_aload_n hx hb d_M_isLive_12 rfl (lv_at hl 0 rfl) ?_
      refine va_get (D := (dC, dI)) (C := R_M) (T := F_M) (N := 20) hx hb hT i_M hown hK hP 0 rfl rfl 5 (by decide) (hT _ k_M_17) (fun _ h9 => h9) (v := .ref (a 3)) rfl d_M_isLive_13 ?_
      refine lv_iload_n hx hb d_M_isLive_16 rfl (lv_at hl 1 rfl) ?_
      refine x_zald hx hb hK hP 3 2 (f := (m_lv σ)) rfl rfl d_M_isLive_17 (by omega) ?_
      refine x_if_eq (tgt := 25) hx hb d_M_isLive_18 (by decide) (fun c18 => ?_) (fun c18 => ?_)
      · refine lv_iconst (v := nI 0) hx hb d_M_isLive_25 (by decide) ?_
        exact x_rz hx hb hr hlk d_M_isLive_26 rfl (Or.inr ⟨rfl, by first | exact fun ⟨j, h1, h2, _, h4⟩ => le0_no (n := m_hn σ) (by omega) c1 ⟨j, h1, h2, h4⟩ | exact fun ⟨j, h1, h2, _, h4⟩ => x_there2 (n := m_hn σ) (by omega) c9 ⟨j, h1, h2, h4⟩ | (rintro ⟨i, h1, h2, h3, h4⟩; have h5 := (nI_eq (by omega) (by omega)).mp h4; subst h5; omega)⟩)
      · refine lv_iconst (v := nI 1) hx hb d_M_isLive_21 (by decide) ?_
        refine lv_goto (tgt := 26) hx hb d_M_isLive_22 (by decide) ?_
        exact x_rz hx hb hr hlk d_M_isLive_26 rfl (Or.inl ⟨rfl, j, hj1, hj2, by omega, rfl⟩)

def MKH (σ : SM) (kk : Nat) (r : Int32) (u : SM) : Prop := (∃ j, 1 ≤ j ∧ j ≤ m_hn σ ∧ r = -nI j ∧ FST (fun h => h ≠ 0 ∧ m_lv σ h = 1 ∧ m_kd σ h = kk ∧ m_same σ h) (m_hn σ) (nI j) ∧ u = σ) ∨ (FST (fun h => h ≠ 0 ∧ m_lv σ h = 1 ∧ m_kd σ h = kk ∧ m_same σ h) (m_hn σ) (nI 0) ∧ ((m_hn σ = 60 ∧ r = nI 0 ∧ u = σ) ∨ (m_hn σ < 60 ∧ r = nI (m_hn σ + 1) ∧ u = mu_zs (mu_tx (mu_lv (mu_kd (mu_hn σ (m_hn σ + 1)) (updN (m_kd σ) (m_hn σ + 1) kk)) (updN (m_lv σ) (m_hn σ + 1) 1)) (cpT (m_tx σ) (20 * (m_hn σ + 1)) (m_sd σ) (m_co σ))) (updN (m_zs σ) (m_hn σ + 1) (m_co σ)))))
set_option maxRecDepth 100000 in
set_option maxHeartbeats 4000000 in
theorem c_M_make (l : Launch) (dC : Nat → ClassId) (dI : Nat → Nat → Nat) (a : Nat → Nat) (t : Nat → ClassId) (σ : SM) (sz : Nat) (hG : GM σ) (x : Int32) (hc : m_co σ ≤ 20) (hq : ∀ k, k < m_co σ → m_sd σ k < 128) : Met l y_M_make (wS y_M_make b_M_make 3 (some .int)) (rD 3) (va_Pc [.ref (a 0), .int x] (MB (dC, dI) (yM t) (wM a t σ) sz)) (va_Qi (fun (r : Int32) (u : SM) => (¬ (∃ kk, kk < 4 ∧ x = nI kk) ∧ r = nI 0 ∧ u = σ) ∨ ∃ kk, kk < 4 ∧ x = nI kk ∧ MKH σ kk r u) (fun u => ME (dC, dI) (yM t) (va_A (wM a t σ) sz) (wM a t u)) (va_A (wM a t σ) sz)) 0 0 (va_A (wM a t σ) sz) := by
  refine x_enter (by decide) (Nat.le_of_ble_eq_true rfl) ?_
  intro p e s m below meth c ls hx hb hr hml hT hown hlk hnm hl hB
  obtain ⟨rfl, hP, hK, hN, hD0⟩ := hB
  have hD := hD0.self (sz := s.heap.size)
  generalize hAe : va_A (wM a t σ) s.heap.size = A at hD ⊢
  have hA : ∀ q : Nat, s.heap.size ≤ q → A q := fun q h => by rw [← hAe]; exact Or.inr h
  have hS : va_S A s.heap s.heap [] := va_S.rf
  have hP : va_P (dC, dI) classes (wM a t σ) s.heap := hP
  have hl : lv_has ls 3 [(0, .ref (a 0)), (1, .int x)] := hl
  have hown : s.vm.findClass R_M = some m.cls := hown
  have hG2 := hG
  obtain ⟨g_sz, g_sd, g_hn, g_kd, g_lv, g_tx, g_zs, g_ln, g_lf, g_lt, g_rn, g_lk, g_wy, g_wn, g_di, g_co⟩ := hG
  refine lv_iload_n hx hb d_M_make_0 rfl (lv_at hl 1 rfl) ?_
  refine lv_if_lt (tgt := 9) hx hb d_M_make_1 (by decide) (fun c1 => ?_) (fun c1 => ?_)
  · refine lv_iconst (v := nI 0) hx hb d_M_make_9 (by decide) ?_
    exact x_mi (wl := wM a t) σ hx hb hr hlk hK hP hD hS d_M_make_10 (Or.inl ⟨by rintro ⟨k', h1, h2⟩; first | (rw [h2] at c1; exact absurd c1 (nI_pos (by omega))) | (have h3 := (nI_eq (by omega) (by omega)).mp h2; omega), rfl, rfl⟩)
  · obtain ⟨kk, hkk0, rfl⟩ := nI_of c1
    refine lv_iload_n hx hb d_M_make_4 rfl (lv_at hl 1 rfl) ?_
    refine lv_iconst (v := nI 3) hx hb d_M_make_5 (by decide) ?_
    refine x_icmp_le (tgt := 11) hx hb d_M_make_6 (by decide) (fun c6 => ?_) (fun c6 => ?_)
    · refine lv_aload_n hx hb d_M_make_11 rfl (lv_at hl 0 rfl) ?_
      refine lv_iload_n hx hb d_M_make_12 rfl (lv_at hl 1 rfl) ?_
      refine lv_iconst (v := nI 0) hx hb d_M_make_13 (by decide) ?_
      refine x_ci (x_runV ⟨hx, hb, hml, hown, hT⟩ (c_M_firstK l dC dI a t σ hG2 kk (by omega) 0 (by omega) hc hq) f_M_first k_M_73 blR (va_recv hK hP (ci := 7) (q0 := 0) rfl rfl) (x_bR hK hP hN) hl.1 d_M_make_14 rfl (lv_room (Nat.le_of_ble_eq_true rfl)) ⟨Nat.le_of_ble_eq_true rfl, Nat.le_of_ble_eq_true rfl⟩ ⟨rfl, rfl⟩ ⟨Nat.le_refl 0, Nat.le_refl 0⟩ rfl) (fun r14 q14 => ?_)
      have qF := q14
      rcases q14 with ⟨j, hj1, hj2, _, _, rfl⟩ | ⟨_, rfl⟩
      · refine lv_istore_n (lv' := [(2, .int (nI j)), (0, .ref (a 0)), (1, .int (nI kk))]) hx hb d_M_make_17 rfl hl (by decide) rfl (fun ls hl => ?_)
        refine lv_iload_n hx hb d_M_make_18 rfl (lv_at hl 0 rfl) ?_
        refine x_if_le (tgt := 25) hx hb d_M_make_19 (by decide) (fun c19 => ?_) (fun c19 => ?_)
        · refine lv_aload_n hx hb d_M_make_25 rfl (lv_at hl 1 rfl) ?_
          refine va_get (D := (dC, dI)) (C := R_M) (T := F_M) (N := 20) hx hb hT i_M hown hK hP 0 rfl rfl 3 (by decide) (hT _ k_M_66) (fun _ h9 => h9) (v := .int (nI (m_hn σ))) rfl d_M_make_26 ?_
          refine lv_bipush (v := nI 60) hx hb d_M_make_29 (by decide) ?_
          refine x_icmp_ne (tgt := 36) hx hb d_M_make_31 (by decide) (fun c31 => ?_) (fun c31 => ?_)
          · refine lv_aload_n hx hb d_M_make_36 rfl (lv_at hl 1 rfl) ?_
            refine lv_dup hx hb d_M_make_37 rfl ?_
            refine va_get (D := (dC, dI)) (C := R_M) (T := F_M) (N := 20) hx hb hT i_M hown hK hP 0 rfl rfl 3 (by decide) (hT _ k_M_66) (fun _ h9 => h9) (v := .int (nI (m_hn σ))) rfl d_M_make_38 ?_
            refine lv_iconst (v := nI 1) hx hb d_M_make_41 (by decide) ?_
            refine x_iadd hx hb d_M_make_42 ?_
            refine va_put (D := (dC, dI)) (v := .int (nI ((m_hn σ) + 1))) (ty := .int) (C := R_M) (T := F_M) (N := 20) hx hb hT i_M ft_M ft_M_ok n_M hown hK hP hD hS 0 rfl rfl 3 (by decide) (hT _ k_M_66) (fun _ h9 => h9) rfl (by decide +kernel) rfl rfl (Nat.le_of_ble_eq_true rfl) d_M_make_43 (fun H locs hP hD hS => ?_)
            have hP : va_P (dC, dI) classes (wM a t (mu_hn σ ((m_hn σ) + 1))) H := hP
            have hD : va_D A (wM a t (mu_hn σ ((m_hn σ) + 1))) := hD
            refine lv_aload_n hx hb d_M_make_46 rfl (lv_at hl 1 rfl) ?_
            refine va_get (D := (dC, dI)) (C := R_M) (T := F_M) (N := 20) hx hb hT i_M hown hK hP 0 rfl rfl 4 (by decide) (hT _ k_M_13) (fun _ h9 => h9) (v := .ref (a 2)) rfl d_M_make_47 ?_
            refine lv_aload_n hx hb d_M_make_50 rfl (lv_at hl 1 rfl) ?_
            refine va_get (D := (dC, dI)) (C := R_M) (T := F_M) (N := 20) hx hb hT i_M hown hK hP 0 rfl rfl 3 (by decide) (hT _ k_M_66) (fun _ h9 => h9) (v := .int (nI ((m_hn σ) + 1))) rfl d_M_make_51 ?_
            refine lv_iload_n hx hb d_M_make_54 rfl (lv_at hl 2 rfl) ?_
            refine x_iast hx hb hK hP hD hS 2 1 (f := (m_kd σ)) rfl rfl d_M_make_55 (by omega) (fun H locs hP hD hS => ?_)
            have hP : va_P (dC, dI) classes (wM a t (mu_kd (mu_hn σ ((m_hn σ) + 1)) (updN (m_kd σ) ((m_hn σ) + 1) (kk)))) H := hP
            have hD : va_D A (wM a t (mu_kd (mu_hn σ ((m_hn σ) + 1)) (updN (m_kd σ) ((m_hn σ) + 1) (kk)))) := hD
            refine lv_aload_n hx hb d_M_make_56 rfl (lv_at hl 1 rfl) ?_
            refine va_get (D := (dC, dI)) (C := R_M) (T := F_M) (N := 20) hx hb hT i_M hown hK hP 0 rfl rfl 5 (by decide) (hT _ k_M_17) (fun _ h9 => h9) (v := .ref (a 3)) rfl d_M_make_57 ?_
            refine lv_aload_n hx hb d_M_make_60 rfl (lv_at hl 1 rfl) ?_
            refine va_get (D := (dC, dI)) (C := R_M) (T := F_M) (N := 20) hx hb hT i_M hown hK hP 0 rfl rfl 3 (by decide) (hT _ k_M_66) (fun _ h9 => h9) (v := .int (nI ((m_hn σ) + 1))) rfl d_M_make_61 ?_
            refine lv_iconst (v := nI 1) hx hb d_M_make_64 (by decide) ?_
            refine x_zast hx hb hK hP hD hS 3 2 (f := (m_lv σ)) rfl rfl d_M_make_65 (by omega) (fun H locs hP hD hS => ?_)
            have hP : va_P (dC, dI) classes (wM a t (mu_lv (mu_kd (mu_hn σ ((m_hn σ) + 1)) (updN (m_kd σ) ((m_hn σ) + 1) (kk))) (updN (m_lv σ) ((m_hn σ) + 1) (1)))) H := hP
            have hD : va_D A (wM a t (mu_lv (mu_kd (mu_hn σ ((m_hn σ) + 1)) (updN (m_kd σ) ((m_hn σ) + 1) (kk))) (updN (m_lv σ) ((m_hn σ) + 1) (1)))) := hD
            refine lv_aload_n hx hb d_M_make_66 rfl (lv_at hl 1 rfl) ?_
            refine lv_aload_n hx hb d_M_make_67 rfl (lv_at hl 1 rfl) ?_
            refine va_get (D := (dC, dI)) (C := R_M) (T := F_M) (N := 20) hx hb hT i_M hown hK hP 0 rfl rfl 3 (by decide) (hT _ k_M_66) (fun _ h9 => h9) (v := .int (nI ((m_hn σ) + 1))) rfl d_M_make_68 ?_
            refine x_cMv (wl := wM a t) (x_runV ⟨hx, hb, hml, hown, hT⟩ (c_M_lay l dC dI a t (mu_lv (mu_kd (mu_hn σ ((m_hn σ) + 1)) (updN (m_kd σ) ((m_hn σ) + 1) (kk))) (updN (m_lv σ) ((m_hn σ) + 1) (1))) H.size (GM_lv (GM_kd (GM_hn hG2 (by omega)) (updN_lt g_kd (by omega))) (updN_lt g_lv (by decide))) (m_hn σ + 1) (by omega) hc hq) f_M_lay k_M_77 blM (va_recv hK hP (ci := 7) (q0 := 0) rfl rfl) (x_bM hK hP hN hD) hl.1 d_M_make_71 rfl (lv_room (Nat.le_of_ble_eq_true rfl)) ⟨Nat.le_of_ble_eq_true rfl, Nat.le_of_ble_eq_true rfl⟩ ⟨rfl, rfl⟩ ⟨Nat.le_refl 0, Nat.le_refl 0⟩ rfl) hD hS hA (fun u71 H locs q71 hP hD hS => ?_)
            subst q71
            have hP : va_P (dC, dI) classes (wM a t (mu_zs (mu_tx (mu_lv (mu_kd (mu_hn σ (m_hn σ + 1)) (updN (m_kd σ) (m_hn σ + 1) kk)) (updN (m_lv σ) (m_hn σ + 1) 1)) (cpT (m_tx σ) (20 * (m_hn σ + 1)) (m_sd σ) (m_co σ))) (updN (m_zs σ) (m_hn σ + 1) (m_co σ)))) H := hP
            have hD : va_D A (wM a t (mu_zs (mu_tx (mu_lv (mu_kd (mu_hn σ (m_hn σ + 1)) (updN (m_kd σ) (m_hn σ + 1) kk)) (updN (m_lv σ) (m_hn σ + 1) 1)) (cpT (m_tx σ) (20 * (m_hn σ + 1)) (m_sd σ) (m_co σ))) (updN (m_zs σ) (m_hn σ + 1) (m_co σ)))) := hD
            refine lv_aload_n hx hb d_M_make_74 rfl (lv_at hl 1 rfl) ?_
            refine va_get (D := (dC, dI)) (C := R_M) (T := F_M) (N := 20) hx hb hT i_M hown hK hP 0 rfl rfl 3 (by decide) (hT _ k_M_66) (fun _ h9 => h9) (v := .int (nI (m_hn σ + 1))) rfl d_M_make_75 ?_
            exact x_mi (wl := wM a t) (mu_zs (mu_tx (mu_lv (mu_kd (mu_hn σ (m_hn σ + 1)) (updN (m_kd σ) (m_hn σ + 1) kk)) (updN (m_lv σ) (m_hn σ + 1) 1)) (cpT (m_tx σ) (20 * (m_hn σ + 1)) (m_sd σ) (m_co σ))) (updN (m_zs σ) (m_hn σ + 1) (m_co σ))) hx hb hr hlk hK hP hD hS d_M_make_78 (Or.inr ⟨kk, by omega, rfl, Or.inr ⟨by first | exact qF | (exfalso; omega), Or.inr ⟨by omega, rfl, rfl⟩⟩⟩)
          · refine lv_iconst (v := nI 0) hx hb d_M_make_34 (by decide) ?_
            exact x_mi (wl := wM a t) σ hx hb hr hlk hK hP hD hS d_M_make_35 (Or.inr ⟨kk, by omega, rfl, Or.inr ⟨by first | exact qF | (exfalso; omega), Or.inl ⟨by omega, rfl, rfl⟩⟩⟩)
        · refine lv_iload_n hx hb d_M_make_22 rfl (lv_at hl 0 rfl) ?_
          refine lv_ineg hx hb d_M_make_23 ?_
          exact x_mi (wl := wM a t) σ hx hb hr hlk hK hP hD hS d_M_make_24 (Or.inr ⟨kk, by omega, rfl, Or.inl ⟨j, hj1, hj2, rfl, qF, rfl⟩⟩)
      · refine lv_istore_n (lv' := [(2, .int (nI 0)), (0, .ref (a 0)), (1, .int (nI kk))]) hx hb d_M_make_17 rfl hl (by decide) rfl (fun ls hl => ?_)
        refine lv_iload_n hx hb d_M_make_18 rfl (lv_at hl 0 rfl) ?_
        refine x_if_le (tgt := 25) hx hb d_M_make_19 (by decide) (fun _ => ?_) (fun h => absurd h (by decide))
        refine lv_aload_n hx hb d_M_make_25 rfl (lv_at hl 1 rfl) ?_
        refine va_get (D := (dC, dI)) (C := R_M) (T := F_M) (N := 20) hx hb hT i_M hown hK hP 0 rfl rfl 3 (by decide) (hT _ k_M_66) (fun _ h9 => h9) (v := .int (nI (m_hn σ))) rfl d_M_make_26 ?_
        refine lv_bipush (v := nI 60) hx hb d_M_make_29 (by decide) ?_
        refine x_icmp_ne (tgt := 36) hx hb d_M_make_31 (by decide) (fun c31 => ?_) (fun c31 => ?_)
        · refine lv_aload_n hx hb d_M_make_36 rfl (lv_at hl 1 rfl) ?_
          refine lv_dup hx hb d_M_make_37 rfl ?_
          refine va_get (D := (dC, dI)) (C := R_M) (T := F_M) (N := 20) hx hb hT i_M hown hK hP 0 rfl rfl 3 (by decide) (hT _ k_M_66) (fun _ h9 => h9) (v := .int (nI (m_hn σ))) rfl d_M_make_38 ?_
          refine lv_iconst (v := nI 1) hx hb d_M_make_41 (by decide) ?_
          refine x_iadd hx hb d_M_make_42 ?_
          refine va_put (D := (dC, dI)) (v := .int (nI ((m_hn σ) + 1))) (ty := .int) (C := R_M) (T := F_M) (N := 20) hx hb hT i_M ft_M ft_M_ok n_M hown hK hP hD hS 0 rfl rfl 3 (by decide) (hT _ k_M_66) (fun _ h9 => h9) rfl (by decide +kernel) rfl rfl (Nat.le_of_ble_eq_true rfl) d_M_make_43 (fun H locs hP hD hS => ?_)
          have hP : va_P (dC, dI) classes (wM a t (mu_hn σ ((m_hn σ) + 1))) H := hP
          have hD : va_D A (wM a t (mu_hn σ ((m_hn σ) + 1))) := hD
          refine lv_aload_n hx hb d_M_make_46 rfl (lv_at hl 1 rfl) ?_
          refine va_get (D := (dC, dI)) (C := R_M) (T := F_M) (N := 20) hx hb hT i_M hown hK hP 0 rfl rfl 4 (by decide) (hT _ k_M_13) (fun _ h9 => h9) (v := .ref (a 2)) rfl d_M_make_47 ?_
          refine lv_aload_n hx hb d_M_make_50 rfl (lv_at hl 1 rfl) ?_
          refine va_get (D := (dC, dI)) (C := R_M) (T := F_M) (N := 20) hx hb hT i_M hown hK hP 0 rfl rfl 3 (by decide) (hT _ k_M_66) (fun _ h9 => h9) (v := .int (nI ((m_hn σ) + 1))) rfl d_M_make_51 ?_
          refine lv_iload_n hx hb d_M_make_54 rfl (lv_at hl 2 rfl) ?_
          refine x_iast hx hb hK hP hD hS 2 1 (f := (m_kd σ)) rfl rfl d_M_make_55 (by omega) (fun H locs hP hD hS => ?_)
          have hP : va_P (dC, dI) classes (wM a t (mu_kd (mu_hn σ ((m_hn σ) + 1)) (updN (m_kd σ) ((m_hn σ) + 1) (kk)))) H := hP
          have hD : va_D A (wM a t (mu_kd (mu_hn σ ((m_hn σ) + 1)) (updN (m_kd σ) ((m_hn σ) + 1) (kk)))) := hD
          refine lv_aload_n hx hb d_M_make_56 rfl (lv_at hl 1 rfl) ?_
          refine va_get (D := (dC, dI)) (C := R_M) (T := F_M) (N := 20) hx hb hT i_M hown hK hP 0 rfl rfl 5 (by decide) (hT _ k_M_17) (fun _ h9 => h9) (v := .ref (a 3)) rfl d_M_make_57 ?_
          refine lv_aload_n hx hb d_M_make_60 rfl (lv_at hl 1 rfl) ?_
          refine va_get (D := (dC, dI)) (C := R_M) (T := F_M) (N := 20) hx hb hT i_M hown hK hP 0 rfl rfl 3 (by decide) (hT _ k_M_66) (fun _ h9 => h9) (v := .int (nI ((m_hn σ) + 1))) rfl d_M_make_61 ?_
          refine lv_iconst (v := nI 1) hx hb d_M_make_64 (by decide) ?_
          refine x_zast hx hb hK hP hD hS 3 2 (f := (m_lv σ)) rfl rfl d_M_make_65 (by omega) (fun H locs hP hD hS => ?_)
          have hP : va_P (dC, dI) classes (wM a t (mu_lv (mu_kd (mu_hn σ ((m_hn σ) + 1)) (updN (m_kd σ) ((m_hn σ) + 1) (kk))) (updN (m_lv σ) ((m_hn σ) + 1) (1)))) H := hP
          have hD : va_D A (wM a t (mu_lv (mu_kd (mu_hn σ ((m_hn σ) + 1)) (updN (m_kd σ) ((m_hn σ) + 1) (kk))) (updN (m_lv σ) ((m_hn σ) + 1) (1)))) := hD
          refine lv_aload_n hx hb d_M_make_66 rfl (lv_at hl 1 rfl) ?_
          refine lv_aload_n hx hb d_M_make_67 rfl (lv_at hl 1 rfl) ?_
          refine va_get (D := (dC, dI)) (C := R_M) (T := F_M) (N := 20) hx hb hT i_M hown hK hP 0 rfl rfl 3 (by decide) (hT _ k_M_66) (fun _ h9 => h9) (v := .int (nI ((m_hn σ) + 1))) rfl d_M_make_68 ?_
          refine x_cMv (wl := wM a t) (x_runV ⟨hx, hb, hml, hown, hT⟩ (c_M_lay l dC dI a t (mu_lv (mu_kd (mu_hn σ ((m_hn σ) + 1)) (updN (m_kd σ) ((m_hn σ) + 1) (kk))) (updN (m_lv σ) ((m_hn σ) + 1) (1))) H.size (GM_lv (GM_kd (GM_hn hG2 (by omega)) (updN_lt g_kd (by omega))) (updN_lt g_lv (by decide))) (m_hn σ + 1) (by omega) hc hq) f_M_lay k_M_77 blM (va_recv hK hP (ci := 7) (q0 := 0) rfl rfl) (x_bM hK hP hN hD) hl.1 d_M_make_71 rfl (lv_room (Nat.le_of_ble_eq_true rfl)) ⟨Nat.le_of_ble_eq_true rfl, Nat.le_of_ble_eq_true rfl⟩ ⟨rfl, rfl⟩ ⟨Nat.le_refl 0, Nat.le_refl 0⟩ rfl) hD hS hA (fun u71 H locs q71 hP hD hS => ?_)
          subst q71
          have hP : va_P (dC, dI) classes (wM a t (mu_zs (mu_tx (mu_lv (mu_kd (mu_hn σ (m_hn σ + 1)) (updN (m_kd σ) (m_hn σ + 1) kk)) (updN (m_lv σ) (m_hn σ + 1) 1)) (cpT (m_tx σ) (20 * (m_hn σ + 1)) (m_sd σ) (m_co σ))) (updN (m_zs σ) (m_hn σ + 1) (m_co σ)))) H := hP
          have hD : va_D A (wM a t (mu_zs (mu_tx (mu_lv (mu_kd (mu_hn σ (m_hn σ + 1)) (updN (m_kd σ) (m_hn σ + 1) kk)) (updN (m_lv σ) (m_hn σ + 1) 1)) (cpT (m_tx σ) (20 * (m_hn σ + 1)) (m_sd σ) (m_co σ))) (updN (m_zs σ) (m_hn σ + 1) (m_co σ)))) := hD
          refine lv_aload_n hx hb d_M_make_74 rfl (lv_at hl 1 rfl) ?_
          refine va_get (D := (dC, dI)) (C := R_M) (T := F_M) (N := 20) hx hb hT i_M hown hK hP 0 rfl rfl 3 (by decide) (hT _ k_M_66) (fun _ h9 => h9) (v := .int (nI (m_hn σ + 1))) rfl d_M_make_75 ?_
          exact x_mi (wl := wM a t) (mu_zs (mu_tx (mu_lv (mu_kd (mu_hn σ (m_hn σ + 1)) (updN (m_kd σ) (m_hn σ + 1) kk)) (updN (m_lv σ) (m_hn σ + 1) 1)) (cpT (m_tx σ) (20 * (m_hn σ + 1)) (m_sd σ) (m_co σ))) (updN (m_zs σ) (m_hn σ + 1) (m_co σ))) hx hb hr hlk hK hP hD hS d_M_make_78 (Or.inr ⟨kk, by omega, rfl, Or.inr ⟨by first | exact qF | (exfalso; omega), Or.inr ⟨by omega, rfl, rfl⟩⟩⟩)
        · refine lv_iconst (v := nI 0) hx hb d_M_make_34 (by decide) ?_
          exact x_mi (wl := wM a t) σ hx hb hr hlk hK hP hD hS d_M_make_35 (Or.inr ⟨kk, by omega, rfl, Or.inr ⟨by first | exact qF | (exfalso; omega), Or.inl ⟨by omega, rfl, rfl⟩⟩⟩)
    · refine lv_iconst (v := nI 0) hx hb d_M_make_9 (by decide) ?_
      exact x_mi (wl := wM a t) σ hx hb hr hlk hK hP hD hS d_M_make_10 (Or.inl ⟨by rintro ⟨k', h1, h2⟩; first | (rw [h2] at c1; exact absurd c1 (nI_pos (by omega))) | (have h3 := (nI_eq (by omega) (by omega)).mp h2; omega), rfl, rfl⟩)

def TKM (σ : SM) : SM := mu_co (mu_sz σ 0) (m_sz σ)
theorem TKM_G {σ : SM} (h : GM σ) : GM (TKM σ) := GM_co (GM_sz h (by omega)) h.1
theorem ok_q {f : Nat → Nat} {n : Nat} (h : okT f n) : ∀ k, k < n → f k < 128 := fun k hk => by
  have := h.2.2 k hk
  unfold isLD at this
  omega
set_option maxRecDepth 100000 in
set_option maxHeartbeats 4000000 in
theorem c_M_heading (l : Launch) (dC : Nat → ClassId) (dI : Nat → Nat → Nat) (a : Nat → Nat) (t : Nat → ClassId) (σ : SM) (sz : Nat) (hG : GM σ) (x : Int32) : Met l y_M_heading (wS y_M_heading b_M_heading 2 (some .int)) (rD 4) (va_Pc [.ref (a 0), .int x] (MB (dC, dI) (yM t) (wM a t σ) sz)) (va_Qi (fun (r : Int32) (u : SM) => (¬ okT (m_sd σ) (m_sz σ) ∧ r = -99 ∧ u = TKM σ) ∨ (okT (m_sd σ) (m_sz σ) ∧ ((¬ (∃ kk, kk < 4 ∧ x = nI kk) ∧ r = nI 0 ∧ u = TKM σ) ∨ ∃ kk, kk < 4 ∧ x = nI kk ∧ MKH (TKM σ) kk r u))) (fun u => ME (dC, dI) (yM t) (va_A (wM a t σ) sz) (wM a t u)) (va_A (wM a t σ) sz)) 0 0 (va_A (wM a t σ) sz) := by
  refine x_enter (by decide) (Nat.le_of_ble_eq_true rfl) ?_
  intro p e s m below meth c ls hx hb hr hml hT hown hlk hnm hl hB
  obtain ⟨rfl, hP, hK, hN, hD0⟩ := hB
  have hD := hD0.self (sz := s.heap.size)
  generalize hAe : va_A (wM a t σ) s.heap.size = A at hD ⊢
  have hA : ∀ q : Nat, s.heap.size ≤ q → A q := fun q h => by rw [← hAe]; exact Or.inr h
  have hS : va_S A s.heap s.heap [] := va_S.rf
  have hP : va_P (dC, dI) classes (wM a t σ) s.heap := hP
  have hl : lv_has ls 2 [(0, .ref (a 0)), (1, .int x)] := hl
  have hown : s.vm.findClass R_M = some m.cls := hown
  have hG2 := hG
  obtain ⟨g_sz, g_sd, g_hn, g_kd, g_lv, g_tx, g_zs, g_ln, g_lf, g_lt, g_rn, g_lk, g_wy, g_wn, g_di, g_co⟩ := hG
  refine lv_aload_n hx hb d_M_heading_0 rfl (lv_at hl 0 rfl) ?_
  refine lv_iconst (v := nI 0) hx hb d_M_heading_1 (by decide) ?_
  refine va_put (D := (dC, dI)) (v := .int (nI 0)) (ty := .int) (C := R_M) (T := F_M) (N := 20) hx hb hT i_M ft_M ft_M_ok n_M hown hK hP hD hS 0 rfl rfl 0 (by decide) (hT _ k_M_52) (fun _ h9 => h9) rfl (by decide +kernel) rfl rfl (Nat.le_of_ble_eq_true rfl) d_M_heading_2 (fun H locs hP hD hS => ?_)
  have hP : va_P (dC, dI) classes (wM a t σ) H := hP
  have hD : va_D A (wM a t σ) := hD
  refine lv_aload_n hx hb d_M_heading_5 rfl (lv_at hl 0 rfl) ?_
  refine x_cMi (wl := wM a t) (x_runV ⟨hx, hb, hml, hown, hT⟩ (c_M_takes l dC dI a t σ H.size hG2) f_M_takes k_M_81 blM (va_recv hK hP (ci := 7) (q0 := 0) rfl rfl) (x_bM hK hP hN hD) hl.1 d_M_heading_6 rfl (lv_room (Nat.le_of_ble_eq_true rfl)) ⟨Nat.le_of_ble_eq_true rfl, Nat.le_of_ble_eq_true rfl⟩ ⟨rfl, rfl⟩ ⟨Nat.le_refl 0, Nat.le_refl 0⟩ rfl) hD hS hA (fun r6 u6 H locs q6 hP hD hS => ?_)
  obtain ⟨hok, hu9⟩ := q6
  obtain rfl : u6 = TKM σ := hu9
  have hGτ : GM (TKM σ) := TKM_G hG2
  rcases hok with ⟨rfl, hok⟩ | ⟨rfl, hok⟩
  · have hc : m_co (TKM σ) ≤ 20 := hok.2.1
    have hq : ∀ k, k < m_co (TKM σ) → m_sd (TKM σ) k < 128 := ok_q hok
    refine x_if_eq (tgt := 20) hx hb d_M_heading_9 (by decide) (fun h => absurd h (by decide)) (fun _ => ?_)
    refine lv_aload_n hx hb d_M_heading_12 rfl (lv_at hl 0 rfl) ?_
    refine lv_iload_n hx hb d_M_heading_13 rfl (lv_at hl 1 rfl) ?_
    refine x_cMi (wl := wM a t) (x_runV ⟨hx, hb, hml, hown, hT⟩ (c_M_make l dC dI a t (TKM σ) H.size hGτ x hc hq) f_M_make k_M_85 blM (va_recv hK hP (ci := 7) (q0 := 0) rfl rfl) (x_bM hK hP hN hD) hl.1 d_M_heading_14 rfl (lv_room (Nat.le_of_ble_eq_true rfl)) ⟨Nat.le_of_ble_eq_true rfl, Nat.le_of_ble_eq_true rfl⟩ ⟨rfl, rfl⟩ ⟨Nat.le_refl 0, Nat.le_refl 0⟩ rfl) hD hS hA (fun r14 u14 H locs q14 hP hD hS => ?_)
    refine lv_goto (tgt := 22) hx hb d_M_heading_17 (by decide) ?_
    exact x_mi (wl := wM a t) u14 hx hb hr hlk hK hP hD hS d_M_heading_22 (Or.inr ⟨hok, q14⟩)
  · refine x_if_eq (tgt := 20) hx hb d_M_heading_9 (by decide) (fun _ => ?_) (fun h => absurd h (by decide))
    refine lv_bipush (v := -99) hx hb d_M_heading_20 (by decide) ?_
    exact x_mi (wl := wM a t) ((TKM σ)) hx hb hr hlk hK hP hD hS d_M_heading_22 (Or.inl ⟨hok, rfl, rfl⟩)

set_option maxRecDepth 100000 in
set_option maxHeartbeats 4000000 in
theorem c_M_find (l : Launch) (dC : Nat → ClassId) (dI : Nat → Nat → Nat) (a : Nat → Nat) (t : Nat → ClassId) (σ : SM) (sz : Nat) (hG : GM σ) : Met l y_M_find (wS y_M_find b_M_find 1 (some .int)) (rD 3) (va_Pc [.ref (a 0)] (MB (dC, dI) (yM t) (wM a t σ) sz)) (va_Qi (fun (r : Int32) (u : SM) => u = TKM σ ∧ ((¬ okT (m_sd σ) (m_sz σ) ∧ r = -99) ∨ (okT (m_sd σ) (m_sz σ) ∧ FST (fun h => h ≠ 0 ∧ m_lv u h = 1 ∧ m_same u h) (m_hn u) r))) (fun u => ME (dC, dI) (yM t) (va_A (wM a t σ) sz) (wM a t u)) (va_A (wM a t σ) sz)) 0 0 (va_A (wM a t σ) sz) := by
  refine x_enter (by decide) (Nat.le_of_ble_eq_true rfl) ?_
  intro p e s m below meth c ls hx hb hr hml hT hown hlk hnm hl hB
  obtain ⟨rfl, hP, hK, hN, hD0⟩ := hB
  have hD := hD0.self (sz := s.heap.size)
  generalize hAe : va_A (wM a t σ) s.heap.size = A at hD ⊢
  have hA : ∀ q : Nat, s.heap.size ≤ q → A q := fun q h => by rw [← hAe]; exact Or.inr h
  have hS : va_S A s.heap s.heap [] := va_S.rf
  have hP : va_P (dC, dI) classes (wM a t σ) s.heap := hP
  have hl : lv_has ls 1 [(0, .ref (a 0))] := hl
  have hown : s.vm.findClass R_M = some m.cls := hown
  have hG2 := hG
  obtain ⟨g_sz, g_sd, g_hn, g_kd, g_lv, g_tx, g_zs, g_ln, g_lf, g_lt, g_rn, g_lk, g_wy, g_wn, g_di, g_co⟩ := hG
  refine lv_aload_n hx hb d_M_find_0 rfl (lv_at hl 0 rfl) ?_
  refine lv_iconst (v := nI 0) hx hb d_M_find_1 (by decide) ?_
  refine va_put (D := (dC, dI)) (v := .int (nI 0)) (ty := .int) (C := R_M) (T := F_M) (N := 20) hx hb hT i_M ft_M ft_M_ok n_M hown hK hP hD hS 0 rfl rfl 0 (by decide) (hT _ k_M_52) (fun _ h9 => h9) rfl (by decide +kernel) rfl rfl (Nat.le_of_ble_eq_true rfl) d_M_find_2 (fun H locs hP hD hS => ?_)
  have hP : va_P (dC, dI) classes (wM a t σ) H := hP
  have hD : va_D A (wM a t σ) := hD
  refine lv_aload_n hx hb d_M_find_5 rfl (lv_at hl 0 rfl) ?_
  refine x_cMi (wl := wM a t) (x_runV ⟨hx, hb, hml, hown, hT⟩ (c_M_takes l dC dI a t σ H.size hG2) f_M_takes k_M_81 blM (va_recv hK hP (ci := 7) (q0 := 0) rfl rfl) (x_bM hK hP hN hD) hl.1 d_M_find_6 rfl (lv_room (Nat.le_of_ble_eq_true rfl)) ⟨Nat.le_of_ble_eq_true rfl, Nat.le_of_ble_eq_true rfl⟩ ⟨rfl, rfl⟩ ⟨Nat.le_refl 0, Nat.le_refl 0⟩ rfl) hD hS hA (fun r6 u6 H locs q6 hP hD hS => ?_)
  obtain ⟨hok, hu9⟩ := q6
  obtain rfl : u6 = TKM σ := hu9
  have hGτ : GM (TKM σ) := TKM_G hG2
  rcases hok with ⟨rfl, hok⟩ | ⟨rfl, hok⟩
  · have hc : m_co (TKM σ) ≤ 20 := hok.2.1
    have hq : ∀ k, k < m_co (TKM σ) → m_sd (TKM σ) k < 128 := ok_q hok
    refine x_if_eq (tgt := 21) hx hb d_M_find_9 (by decide) (fun h => absurd h (by decide)) (fun _ => ?_)
    refine lv_aload_n hx hb d_M_find_12 rfl (lv_at hl 0 rfl) ?_
    refine lv_iconst (v := -1) hx hb d_M_find_13 (by decide) ?_
    refine lv_iconst (v := nI 0) hx hb d_M_find_14 (by decide) ?_
    refine x_ci (x_runV ⟨hx, hb, hml, hown, hT⟩ (c_M_firstA l dC dI a t (TKM σ) hGτ 0 (by omega) hc hq) f_M_first k_M_73 blR (va_recv hK hP (ci := 7) (q0 := 0) rfl rfl) (x_bR hK hP hN) hl.1 d_M_find_15 rfl (lv_room (Nat.le_of_ble_eq_true rfl)) ⟨Nat.le_of_ble_eq_true rfl, Nat.le_of_ble_eq_true rfl⟩ ⟨rfl, rfl⟩ ⟨Nat.le_refl 0, Nat.le_refl 0⟩ rfl) (fun r15 q15 => ?_)
    refine lv_goto (tgt := 23) hx hb d_M_find_18 (by decide) ?_
    exact x_mi (wl := wM a t) ((TKM σ)) hx hb hr hlk hK hP hD hS d_M_find_23 ⟨rfl, Or.inr ⟨hok, q15⟩⟩
  · refine x_if_eq (tgt := 21) hx hb d_M_find_9 (by decide) (fun _ => ?_) (fun h => absurd h (by decide))
    refine lv_bipush (v := -99) hx hb d_M_find_21 (by decide) ?_
    exact x_mi (wl := wM a t) ((TKM σ)) hx hb hr hlk hK hP hD hS d_M_find_23 ⟨rfl, Or.inl ⟨hok, rfl⟩⟩

set_option maxRecDepth 100000 in
set_option maxHeartbeats 4000000 in
theorem c_M_linkedTo (l : Launch) (dC : Nat → ClassId) (dI : Nat → Nat → Nat) (a : Nat → Nat) (t : Nat → ClassId) (σ : SM) (hG : GM σ) (j : Nat) (hj : j ≤ 60) : Met l y_M_linkedTo (wS y_M_linkedTo b_M_linkedTo 4 (some .int)) (rD 0) (va_Pc [.ref (a 0), .int (nI j)] (RB (dC, dI) (yM t) (wM a t σ))) (vp_Si (fun r => r = nI (cntN (m_lk σ) j (m_rn σ)))) 0 0 (fun _ => False) := by
  refine x_enter (by decide) (Nat.le_of_ble_eq_true rfl) ?_
  intro p e s m below meth c ls hx hb hr hml hT hown hlk hnm hl hB
  obtain ⟨hP, hK, hN⟩ := hB
  have hl : lv_has ls 4 [(0, .ref (a 0)), (1, .int (nI j))] := hl
  have hown : s.vm.findClass R_M = some m.cls := hown
  have hG2 := hG
  obtain ⟨g_sz, g_sd, g_hn, g_kd, g_lv, g_tx, g_zs, g_ln, g_lf, g_lt, g_rn, g_lk, g_wy, g_wn, g_di, g_co⟩ := hG
  refine lv_iconst (v := nI 0) hx hb d_M_linkedTo_0 (by decide) ?_
  refine lv_istore_n (lv' := [(2, .int (nI 0)), (0, .ref (a 0)), (1, .int (nI j))]) hx hb d_M_linkedTo_1 rfl hl (by decide) rfl (fun ls hl => ?_)
  refine lv_iconst (v := nI 1) hx hb d_M_linkedTo_2 (by decide) ?_
  refine lv_istore_n (lv' := [(3, .int (nI 1)), (2, .int (nI 0)), (0, .ref (a 0)), (1, .int (nI j))]) hx hb d_M_linkedTo_3 rfl hl (by decide) rfl (fun ls hl => ?_)
  have hloop4 : ∀ (n4 : Nat) (i : Nat) (k : Nat) (ls : Array Slot), i ≤ m_rn σ → k = cntN (m_lk σ) j i → m_rn σ + 1 - i < n4 → lv_has ls 4 [(0, .ref (a 0)), (1, .int (nI j)), (2, .int (nI k)), (3, .int (nI (i + 1)))] → W p l e (rD 0) s m ([.ref (a 0), .int (nI j)] : List Value).toArray below meth c s.heap [] 0 0 (MQ below (vp_Si (fun r => r = nI (cntN (m_lk σ) j (m_rn σ)))) ([.ref (a 0), .int (nI j)] : List Value).toArray s 0 0 (fun _ => False)) (F0 m 4 ls []) := by
    intro n4
    induction n4 with
    | zero => intro i k ls _ _ h9; exact absurd h9 (Nat.not_lt_zero _)
    | succ n4 ih4 =>
      intro i k ls hi hk hmu4 hl
      refine lv_iload_n hx hb d_M_linkedTo_4 rfl (lv_at hl 3 rfl) ?_
      refine lv_aload_n hx hb d_M_linkedTo_5 rfl (lv_at hl 0 rfl) ?_
      refine va_get (D := (dC, dI)) (C := R_M) (T := F_M) (N := 20) hx hb hT i_M hown hK hP 0 rfl rfl 13 (by decide) (hT _ k_M_88) (fun _ h9 => h9) (v := .int (nI (m_rn σ))) rfl d_M_linkedTo_6 ?_
      refine x_icmp_gt (tgt := 36) hx hb d_M_linkedTo_9 (by decide) (fun c9 => ?_) (fun c9 => ?_)
      · refine lv_iload_n hx hb d_M_linkedTo_36 rfl (lv_at hl 2 rfl) ?_
        exact x_ri hx hb hr hlk d_M_linkedTo_37 (by rw [hk, show i = m_rn σ by omega])
      · have hk2 := cntN_le (m_lk σ) j i
        refine lv_iload_n hx hb d_M_linkedTo_12 rfl (lv_at hl 2 rfl) ?_
        refine lv_aload_n hx hb d_M_linkedTo_13 rfl (lv_at hl 0 rfl) ?_
        refine va_get (D := (dC, dI)) (C := R_M) (T := F_M) (N := 20) hx hb hT i_M hown hK hP 0 rfl rfl 14 (by decide) (hT _ k_M_40) (fun _ h9 => h9) (v := .ref (a 10)) rfl d_M_linkedTo_14 ?_
        refine lv_iload_n hx hb d_M_linkedTo_17 rfl (lv_at hl 3 rfl) ?_
        refine x_iald hx hb hK hP 10 9 (f := (m_lk σ)) rfl rfl d_M_linkedTo_18 (by omega) ?_
        refine lv_iload_n hx hb d_M_linkedTo_19 rfl (lv_at hl 1 rfl) ?_
        have g9 := g_lk (i + 1)
        refine x_icmp_ne (tgt := 27) hx hb d_M_linkedTo_20 (by decide) (fun c20 => ?_) (fun c20 => ?_)
        · refine lv_iconst (v := nI 0) hx hb d_M_linkedTo_27 (by decide) ?_
          refine x_iadd hx hb d_M_linkedTo_28 ?_
          refine lv_istore_n (lv' := [(2, .int (nI (k + 0))), (0, .ref (a 0)), (1, .int (nI j)), (3, .int (nI (i + 1)))]) hx hb d_M_linkedTo_29 rfl hl (by decide) rfl (fun ls hl => ?_)
          refine x_iinc (lv' := [(3, .int (nI ((i + 1) + 1))), (2, .int (nI (k + 0))), (0, .ref (a 0)), (1, .int (nI j))]) hx hb d_M_linkedTo_30 hl (k := 3) rfl (by decide) rfl (fun ls hl => ?_)
          refine lv_goto (tgt := 4) hx hb d_M_linkedTo_33 (by decide) ?_
          exact ih4 (i + 1) _ ls (by omega) (by simp only [cntN]; first | (rw [if_pos (by omega)]; omega) | (rw [if_neg (by omega)]; omega)) (by omega) (lv_sub hl [2, 3, 1, 0] rfl)
        · refine lv_iconst (v := nI 1) hx hb d_M_linkedTo_23 (by decide) ?_
          refine lv_goto (tgt := 28) hx hb d_M_linkedTo_24 (by decide) ?_
          refine x_iadd hx hb d_M_linkedTo_28 ?_
          refine lv_istore_n (lv' := [(2, .int (nI (k + 1))), (0, .ref (a 0)), (1, .int (nI j)), (3, .int (nI (i + 1)))]) hx hb d_M_linkedTo_29 rfl hl (by decide) rfl (fun ls hl => ?_)
          refine x_iinc (lv' := [(3, .int (nI ((i + 1) + 1))), (2, .int (nI (k + 1))), (0, .ref (a 0)), (1, .int (nI j))]) hx hb d_M_linkedTo_30 hl (k := 3) rfl (by decide) rfl (fun ls hl => ?_)
          refine lv_goto (tgt := 4) hx hb d_M_linkedTo_33 (by decide) ?_
          exact ih4 (i + 1) _ ls (by omega) (by simp only [cntN]; first | (rw [if_pos (by omega)]; omega) | (rw [if_neg (by omega)]; omega)) (by omega) (lv_sub hl [2, 3, 1, 0] rfl)
  exact hloop4 _ 0 0 ls (by omega) rfl (Nat.lt_succ_self _) (lv_sub hl [2, 3, 1, 0] rfl)

theorem cpT_lt2 {f g : Nat → Nat} {b n c : Nat} (h : ∀ j, f j < c) (h2 : ∀ k, k < n → g k < c) : ∀ j, cpT f b g n j < c := fun j => by unfold cpT; split; exact h2 _ (by omega); exact h j
set_option maxRecDepth 100000 in
set_option maxHeartbeats 4000000 in
theorem c_M_rename (l : Launch) (dC : Nat → ClassId) (dI : Nat → Nat → Nat) (a : Nat → Nat) (t : Nat → ClassId) (σ : SM) (sz : Nat) (hG : GM σ) (x : Int32) : Met l y_M_rename (wS y_M_rename b_M_rename 3 (some .int)) (rD 3) (va_Pc [.ref (a 0), .int x] (MB (dC, dI) (yM t) (wM a t σ) sz)) (va_Qi (fun (r : Int32) (u : SM) => (¬ okT (m_sd σ) (m_sz σ) ∧ r = -99 ∧ u = TKM σ) ∨ (okT (m_sd σ) (m_sz σ) ∧ ((¬ (∃ j, 1 ≤ j ∧ j ≤ m_hn (TKM σ) ∧ m_lv (TKM σ) j = 1 ∧ x = nI j) ∧ r = -100 ∧ u = TKM σ) ∨ ∃ j, 1 ≤ j ∧ j ≤ m_hn (TKM σ) ∧ m_lv (TKM σ) j = 1 ∧ x = nI j ∧ ((∃ i, 1 ≤ i ∧ i ≤ m_hn (TKM σ) ∧ r = -nI i ∧ FST (fun h => h ≠ j ∧ m_lv (TKM σ) h = 1 ∧ m_kd (TKM σ) h = m_kd (TKM σ) j ∧ m_same (TKM σ) h) (m_hn (TKM σ)) (nI i) ∧ u = TKM σ) ∨ (FST (fun h => h ≠ j ∧ m_lv (TKM σ) h = 1 ∧ m_kd (TKM σ) h = m_kd (TKM σ) j ∧ m_same (TKM σ) h) (m_hn (TKM σ)) (nI 0) ∧ r = nI (cntN (m_lk σ) j (m_rn σ)) ∧ u = mu_zs (mu_tx (TKM σ) (cpT (m_tx σ) (20 * j) (m_sd σ) (m_sz σ))) (updN (m_zs σ) j (m_sz σ))))))) (fun u => ME (dC, dI) (yM t) (va_A (wM a t σ) sz) (wM a t u)) (va_A (wM a t σ) sz)) 0 0 (va_A (wM a t σ) sz) := by
  refine x_enter (by decide) (Nat.le_of_ble_eq_true rfl) ?_
  intro p e s m below meth c ls hx hb hr hml hT hown hlk hnm hl hB
  obtain ⟨rfl, hP, hK, hN, hD0⟩ := hB
  have hD := hD0.self (sz := s.heap.size)
  generalize hAe : va_A (wM a t σ) s.heap.size = A at hD ⊢
  have hA : ∀ q : Nat, s.heap.size ≤ q → A q := fun q h => by rw [← hAe]; exact Or.inr h
  have hS : va_S A s.heap s.heap [] := va_S.rf
  have hP : va_P (dC, dI) classes (wM a t σ) s.heap := hP
  have hl : lv_has ls 3 [(0, .ref (a 0)), (1, .int x)] := hl
  have hown : s.vm.findClass R_M = some m.cls := hown
  have hG2 := hG
  obtain ⟨g_sz, g_sd, g_hn, g_kd, g_lv, g_tx, g_zs, g_ln, g_lf, g_lt, g_rn, g_lk, g_wy, g_wn, g_di, g_co⟩ := hG
  have hhn : m_hn (TKM σ) ≤ 60 := g_hn
  refine lv_aload_n hx hb d_M_rename_0 rfl (lv_at hl 0 rfl) ?_
  refine lv_iconst (v := nI 0) hx hb d_M_rename_1 (by decide) ?_
  refine va_put (D := (dC, dI)) (v := .int (nI 0)) (ty := .int) (C := R_M) (T := F_M) (N := 20) hx hb hT i_M ft_M ft_M_ok n_M hown hK hP hD hS 0 rfl rfl 0 (by decide) (hT _ k_M_52) (fun _ h9 => h9) rfl (by decide +kernel) rfl rfl (Nat.le_of_ble_eq_true rfl) d_M_rename_2 (fun H locs hP hD hS => ?_)
  have hP : va_P (dC, dI) classes (wM a t σ) H := hP
  have hD : va_D A (wM a t σ) := hD
  refine lv_aload_n hx hb d_M_rename_5 rfl (lv_at hl 0 rfl) ?_
  refine x_cMi (wl := wM a t) (x_runV ⟨hx, hb, hml, hown, hT⟩ (c_M_takes l dC dI a t σ H.size hG2) f_M_takes k_M_81 blM (va_recv hK hP (ci := 7) (q0 := 0) rfl rfl) (x_bM hK hP hN hD) hl.1 d_M_rename_6 rfl (lv_room (Nat.le_of_ble_eq_true rfl)) ⟨Nat.le_of_ble_eq_true rfl, Nat.le_of_ble_eq_true rfl⟩ ⟨rfl, rfl⟩ ⟨Nat.le_refl 0, Nat.le_refl 0⟩ rfl) hD hS hA (fun r6 u6 H locs q6 hP hD hS => ?_)
  obtain ⟨hok, hu9⟩ := q6
  obtain rfl : u6 = TKM σ := hu9
  have hGτ : GM (TKM σ) := TKM_G hG2
  rcases hok with ⟨rfl, hok⟩ | ⟨rfl, hok⟩
  · have hc : m_co (TKM σ) ≤ 20 := hok.2.1
    have hq : ∀ k, k < m_co (TKM σ) → m_sd (TKM σ) k < 128 := ok_q hok
    refine x_if_ne (tgt := 15) hx hb d_M_rename_9 (by decide) (fun _ => ?_) (fun h => absurd h (by decide))
    refine lv_aload_n hx hb d_M_rename_15 rfl (lv_at hl 0 rfl) ?_
    refine lv_iload_n hx hb d_M_rename_16 rfl (lv_at hl 1 rfl) ?_
    refine x_ci (x_runV ⟨hx, hb, hml, hown, hT⟩ (c_M_isLive l dC dI a t ((TKM σ)) hGτ x) f_M_isLive k_M_91 blR (va_recv hK hP (ci := 7) (q0 := 0) rfl rfl) (x_bR hK hP hN) hl.1 d_M_rename_17 rfl (lv_room (Nat.le_of_ble_eq_true rfl)) ⟨Nat.le_of_ble_eq_true rfl, Nat.le_of_ble_eq_true rfl⟩ ⟨rfl, rfl⟩ ⟨Nat.le_refl 0, Nat.le_refl 0⟩ rfl) (fun r17 q17 => ?_)
    rcases q17 with ⟨rfl, j, hj1, hj2, hj3, rfl⟩ | ⟨rfl, hnj⟩
    · refine x_if_ne (tgt := 26) hx hb d_M_rename_20 (by decide) (fun _ => ?_) (fun h => absurd h (by decide))
      refine lv_aload_n hx hb d_M_rename_26 rfl (lv_at hl 0 rfl) ?_
      refine lv_aload_n hx hb d_M_rename_27 rfl (lv_at hl 0 rfl) ?_
      refine va_get (D := (dC, dI)) (C := R_M) (T := F_M) (N := 20) hx hb hT i_M hown hK hP 0 rfl rfl 4 (by decide) (hT _ k_M_13) (fun _ h9 => h9) (v := .ref (a 2)) rfl d_M_rename_28 ?_
      refine lv_iload_n hx hb d_M_rename_31 rfl (lv_at hl 1 rfl) ?_
      refine x_iald hx hb hK hP 2 1 (f := (m_kd (TKM σ))) rfl rfl d_M_rename_32 (by omega) ?_
      refine lv_iload_n hx hb d_M_rename_33 rfl (lv_at hl 1 rfl) ?_
      refine x_ci (x_runV ⟨hx, hb, hml, hown, hT⟩ (c_M_firstK l dC dI a t (TKM σ) hGτ (m_kd (TKM σ) j) (g_kd j) j (by omega) hc hq) f_M_first k_M_73 blR (va_recv hK hP (ci := 7) (q0 := 0) rfl rfl) (x_bR hK hP hN) hl.1 d_M_rename_34 rfl (lv_room (Nat.le_of_ble_eq_true rfl)) ⟨Nat.le_of_ble_eq_true rfl, Nat.le_of_ble_eq_true rfl⟩ ⟨rfl, rfl⟩ ⟨Nat.le_refl 0, Nat.le_refl 0⟩ rfl) (fun r34 q34 => ?_)
      have qF := q34
      rcases q34 with ⟨i, hi1, hi2, _, _, rfl⟩ | ⟨_, rfl⟩
      · refine lv_istore_n (lv' := [(2, .int (nI i)), (0, .ref (a 0)), (1, .int (nI j))]) hx hb d_M_rename_37 rfl hl (by decide) rfl (fun ls hl => ?_)
        refine lv_iload_n hx hb d_M_rename_38 rfl (lv_at hl 0 rfl) ?_
        refine x_if_le (tgt := 45) hx hb d_M_rename_39 (by decide) (fun c39 => ?_) (fun c39 => ?_)
        · refine lv_aload_n hx hb d_M_rename_45 rfl (lv_at hl 1 rfl) ?_
          refine lv_iload_n hx hb d_M_rename_46 rfl (lv_at hl 2 rfl) ?_
          refine x_cMv (wl := wM a t) (x_runV ⟨hx, hb, hml, hown, hT⟩ (c_M_lay l dC dI a t (TKM σ) H.size hGτ j (by omega) hc hq) f_M_lay k_M_77 blM (va_recv hK hP (ci := 7) (q0 := 0) rfl rfl) (x_bM hK hP hN hD) hl.1 d_M_rename_47 rfl (lv_room (Nat.le_of_ble_eq_true rfl)) ⟨Nat.le_of_ble_eq_true rfl, Nat.le_of_ble_eq_true rfl⟩ ⟨rfl, rfl⟩ ⟨Nat.le_refl 0, Nat.le_refl 0⟩ rfl) hD hS hA (fun u47 H locs q47 hP hD hS => ?_)
          subst q47
          have hP : va_P (dC, dI) classes (wM a t (mu_zs (mu_tx ((TKM σ)) (cpT (m_tx σ) (20 * j) (m_sd σ) (m_sz σ))) (updN (m_zs σ) j (m_sz σ)))) H := hP
          have hD : va_D A (wM a t (mu_zs (mu_tx ((TKM σ)) (cpT (m_tx σ) (20 * j) (m_sd σ) (m_sz σ))) (updN (m_zs σ) j (m_sz σ)))) := hD
          have hG3 : GM (mu_zs (mu_tx ((TKM σ)) (cpT (m_tx σ) (20 * j) (m_sd σ) (m_sz σ))) (updN (m_zs σ) j (m_sz σ))) := GM_zs (GM_tx hGτ (cpT_lt2 g_tx hq)) (updN_le g_zs hc)
          refine lv_aload_n hx hb d_M_rename_50 rfl (lv_at hl 1 rfl) ?_
          refine lv_iload_n hx hb d_M_rename_51 rfl (lv_at hl 2 rfl) ?_
          refine x_ci (x_runV ⟨hx, hb, hml, hown, hT⟩ (c_M_linkedTo l dC dI a t (mu_zs (mu_tx ((TKM σ)) (cpT (m_tx σ) (20 * j) (m_sd σ) (m_sz σ))) (updN (m_zs σ) j (m_sz σ))) hG3 j (by omega)) f_M_linkedTo k_M_94 blR (va_recv hK hP (ci := 7) (q0 := 0) rfl rfl) (x_bR hK hP hN) hl.1 d_M_rename_52 rfl (lv_room (Nat.le_of_ble_eq_true rfl)) ⟨Nat.le_of_ble_eq_true rfl, Nat.le_of_ble_eq_true rfl⟩ ⟨rfl, rfl⟩ ⟨Nat.le_refl 0, Nat.le_refl 0⟩ rfl) (fun r52 q52 => ?_)
          subst q52
          exact x_mi (wl := wM a t) (mu_zs (mu_tx ((TKM σ)) (cpT (m_tx σ) (20 * j) (m_sd σ) (m_sz σ))) (updN (m_zs σ) j (m_sz σ))) hx hb hr hlk hK hP hD hS d_M_rename_55 (Or.inr ⟨hok, Or.inr ⟨j, hj1, hj2, hj3, rfl, Or.inr ⟨by first | exact qF | (exfalso; omega), rfl, rfl⟩⟩⟩)
        · refine lv_iload_n hx hb d_M_rename_42 rfl (lv_at hl 0 rfl) ?_
          refine lv_ineg hx hb d_M_rename_43 ?_
          exact x_mi (wl := wM a t) ((TKM σ)) hx hb hr hlk hK hP hD hS d_M_rename_44 (Or.inr ⟨hok, Or.inr ⟨j, hj1, hj2, hj3, rfl, Or.inl ⟨i, hi1, hi2, rfl, qF, rfl⟩⟩⟩)
      · refine lv_istore_n (lv' := [(2, .int (nI 0)), (0, .ref (a 0)), (1, .int (nI j))]) hx hb d_M_rename_37 rfl hl (by decide) rfl (fun ls hl => ?_)
        refine lv_iload_n hx hb d_M_rename_38 rfl (lv_at hl 0 rfl) ?_
        refine x_if_le (tgt := 45) hx hb d_M_rename_39 (by decide) (fun _ => ?_) (fun h => absurd h (by decide))
        refine lv_aload_n hx hb d_M_rename_45 rfl (lv_at hl 1 rfl) ?_
        refine lv_iload_n hx hb d_M_rename_46 rfl (lv_at hl 2 rfl) ?_
        refine x_cMv (wl := wM a t) (x_runV ⟨hx, hb, hml, hown, hT⟩ (c_M_lay l dC dI a t (TKM σ) H.size hGτ j (by omega) hc hq) f_M_lay k_M_77 blM (va_recv hK hP (ci := 7) (q0 := 0) rfl rfl) (x_bM hK hP hN hD) hl.1 d_M_rename_47 rfl (lv_room (Nat.le_of_ble_eq_true rfl)) ⟨Nat.le_of_ble_eq_true rfl, Nat.le_of_ble_eq_true rfl⟩ ⟨rfl, rfl⟩ ⟨Nat.le_refl 0, Nat.le_refl 0⟩ rfl) hD hS hA (fun u47 H locs q47 hP hD hS => ?_)
        subst q47
        have hP : va_P (dC, dI) classes (wM a t (mu_zs (mu_tx ((TKM σ)) (cpT (m_tx σ) (20 * j) (m_sd σ) (m_sz σ))) (updN (m_zs σ) j (m_sz σ)))) H := hP
        have hD : va_D A (wM a t (mu_zs (mu_tx ((TKM σ)) (cpT (m_tx σ) (20 * j) (m_sd σ) (m_sz σ))) (updN (m_zs σ) j (m_sz σ)))) := hD
        have hG3 : GM (mu_zs (mu_tx ((TKM σ)) (cpT (m_tx σ) (20 * j) (m_sd σ) (m_sz σ))) (updN (m_zs σ) j (m_sz σ))) := GM_zs (GM_tx hGτ (cpT_lt2 g_tx hq)) (updN_le g_zs hc)
        refine lv_aload_n hx hb d_M_rename_50 rfl (lv_at hl 1 rfl) ?_
        refine lv_iload_n hx hb d_M_rename_51 rfl (lv_at hl 2 rfl) ?_
        refine x_ci (x_runV ⟨hx, hb, hml, hown, hT⟩ (c_M_linkedTo l dC dI a t (mu_zs (mu_tx ((TKM σ)) (cpT (m_tx σ) (20 * j) (m_sd σ) (m_sz σ))) (updN (m_zs σ) j (m_sz σ))) hG3 j (by omega)) f_M_linkedTo k_M_94 blR (va_recv hK hP (ci := 7) (q0 := 0) rfl rfl) (x_bR hK hP hN) hl.1 d_M_rename_52 rfl (lv_room (Nat.le_of_ble_eq_true rfl)) ⟨Nat.le_of_ble_eq_true rfl, Nat.le_of_ble_eq_true rfl⟩ ⟨rfl, rfl⟩ ⟨Nat.le_refl 0, Nat.le_refl 0⟩ rfl) (fun r52 q52 => ?_)
        subst q52
        exact x_mi (wl := wM a t) (mu_zs (mu_tx ((TKM σ)) (cpT (m_tx σ) (20 * j) (m_sd σ) (m_sz σ))) (updN (m_zs σ) j (m_sz σ))) hx hb hr hlk hK hP hD hS d_M_rename_55 (Or.inr ⟨hok, Or.inr ⟨j, hj1, hj2, hj3, rfl, Or.inr ⟨by first | exact qF | (exfalso; omega), rfl, rfl⟩⟩⟩)
    · refine x_if_ne (tgt := 26) hx hb d_M_rename_20 (by decide) (fun h => absurd h (by decide)) (fun _ => ?_)
      refine lv_bipush (v := -100) hx hb d_M_rename_23 (by decide) ?_
      exact x_mi (wl := wM a t) ((TKM σ)) hx hb hr hlk hK hP hD hS d_M_rename_25 (Or.inr ⟨hok, Or.inl ⟨hnj, rfl, rfl⟩⟩)
  · refine x_if_ne (tgt := 15) hx hb d_M_rename_9 (by decide) (fun h => absurd h (by decide)) (fun _ => ?_)
    refine lv_bipush (v := -99) hx hb d_M_rename_12 (by decide) ?_
    exact x_mi (wl := wM a t) ((TKM σ)) hx hb hr hlk hK hP hD hS d_M_rename_14 (Or.inl ⟨hok, rfl, rfl⟩)

