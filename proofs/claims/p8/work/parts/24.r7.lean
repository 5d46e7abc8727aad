theorem WLK_pre {σ : SM} {q ag x y i : Nat} (hi : i < m_ln σ) (hq : m_ls σ i = q) (e1 : eaM σ ag i = y) (e2 : ebM σ ag i = x) : ∀ {n h : Nat}, WLK σ q ag x n h → WLK σ q ag y (n + 1) h := by
  intro n
  induction n with
  | zero =>
    intro h w
    exact ⟨i, hi, hq, by rw [e2]; exact (show h = x from w).symm, e1⟩
  | succ n ih =>
    intro h w
    obtain ⟨j, h1, h2, h3, h4⟩ := w
    exact ⟨j, h1, h2, h3, ih h4⟩
theorem eb_ea {σ : SM} {i : Nat} : ebM σ 0 i = eaM σ 1 i := rfl
theorem ea_eb {σ : SM} {i : Nat} : eaM σ 0 i = ebM σ 1 i := rfl
theorem WLK_rev {σ : SM} {q x : Nat} : ∀ {n y : Nat}, WLK σ q 0 x n y → WLK σ q 1 y n x := by
  intro n
  induction n with
  | zero => intro y w; exact (show y = x from w).symm
  | succ n ih =>
    intro y w
    obtain ⟨i, h1, h2, h3, h4⟩ := w
    exact WLK_pre h1 h2 (by rw [← eb_ea]; exact h3) (by rw [← ea_eb]) (ih h4)
theorem WLK_di {σ : SM} {D : Nat → Nat} {q ag x : Nat} : ∀ {n h : Nat}, WLK (mu_di σ D) q ag x n h ↔ WLK σ q ag x n h := by
  intro n
  induction n with
  | zero => intro h; exact Iff.rfl
  | succ n ih =>
    intro h
    constructor
    · rintro ⟨i, h1, h2, h3, h4⟩
      exact ⟨i, h1, h2, h3, ih.mp h4⟩
    · rintro ⟨i, h1, h2, h3, h4⟩
      exact ⟨i, h1, h2, h3, ih.mpr h4⟩
def HASM (σ : SM) (q f h : Nat) : Prop := ∃ i, i < m_ln σ ∧ isL σ i q f h
def CHM (σ : SM) (i j : Nat) : Prop := HASM σ 0 i 0 ∨ HASM σ 0 0 i ∨ HASM σ 0 j 0
def VLM (σ : SM) (x y z : Int32) (q i j : Nat) : Prop := q < 4 ∧ (1 ≤ i ∧ i ≤ m_hn σ ∧ m_lv σ i = 1) ∧ (1 ≤ j ∧ j ≤ m_hn σ ∧ m_lv σ j = 1) ∧ i ≠ j ∧ x = nI q ∧ y = nI i ∧ z = nI j
def RNM (σ : SM) (q z x : Nat) (u : SM) : Prop := ∃ D0 D Y, u = mu_di (mu_wn (mu_wy (mu_di σ D0) Y) (D x + 1)) D ∧ WYS (mu_di σ D0) q x z D Y
def LNM (σ : SM) (x y z : Int32) (d : Int64) (r : Int32) (u : SM) : Prop := ((¬ ∃ q i j, VLM σ x y z q i j) ∧ r = nI 0 ∧ u = σ) ∨ ∃ q i j, VLM σ x y z q i j ∧ ((HASM σ q i j ∧ r = nI 0 ∧ u = σ) ∨ (¬ HASM σ q i j ∧ ((q = 0 ∧ CHM σ i j ∧ r = nI 0 ∧ u = σ) ∨ (q = 0 ∧ ¬ CHM σ i j ∧ r = nI 1 ∧ u = ADM σ q i j d) ∨ (q = 1 ∧ r = nI 1 ∧ u = ADM σ q i j d) ∨ (2 ≤ q ∧ ((r = nI 0 ∧ (∃ n, n < 60 ∧ WLK σ q 0 j n i) ∧ RNM σ q i j u) ∨ ∃ D, r = nI 1 ∧ DOK σ q 0 j D ∧ DCL σ q 0 D ∧ 100 ≤ D i ∧ u = ADM (mu_di σ D) q i j d)))))
set_option maxRecDepth 100000 in
set_option maxHeartbeats 4000000 in
theorem c_M_link (l : Launch) (dC : Nat → ClassId) (dI : Nat → Nat → Nat) (a : Nat → Nat) (t : Nat → ClassId) (σ : SM) (sz : Nat) (hG : GM σ) (hL : GL σ) (hE : HED σ) (x y z : Int32) (d : Int64) : Met l y_M_link (wS y_M_link b_M_link 6 (some .int)) (rD 3) (va_Pc [.ref (a 0), .int x, .int y, .int z, .long d] (MB (dC, dI) (yM t) (wM a t σ) sz)) (va_Qi (fun (r : Int32) (u : SM) => LNM σ x y z d r u) (fun u => ME (dC, dI) (yM t) (va_A (wM a t σ) sz) (wM a t u)) (va_A (wM a t σ) sz)) 0 0 (va_A (wM a t σ) sz) := by
  refine x_enter (by decide) (Nat.le_of_ble_eq_true rfl) ?_
  intro p e s m below meth c ls hx hb hr hml hT hown hlk hnm hl hB
  obtain ⟨rfl, hP, hK, hN, hD0⟩ := hB
  have hD := hD0.self (sz := s.heap.size)
  generalize hAe : va_A (wM a t σ) s.heap.size = A at hD ⊢
  have hA : ∀ q : Nat, s.heap.size ≤ q → A q := fun q h => by rw [← hAe]; exact Or.inr h
  have hS : va_S A s.heap s.heap [] := va_S.rf
  have hP : va_P (dC, dI) classes (wM a t σ) s.heap := hP
  have hl : lv_has ls 6 [(0, .ref (a 0)), (1, .int x), (2, .int y), (3, .int z), (4, .long d)] := hl
  have hown : s.vm.findClass R_M = some m.cls := hown
  have hG2 := hG
  obtain ⟨g_sz, g_sd, g_hn, g_kd, g_lv, g_tx, g_zs, g_ln, g_lf, g_lt, g_rn, g_lk, g_wy, g_wn, g_di, g_co⟩ := hG
  refine lv_aload_n hx hb d_M_link_0 rfl (lv_at hl 0 rfl) ?_
  refine lv_iconst (v := nI 0) hx hb d_M_link_1 (by decide) ?_
  refine va_put (D := (dC, dI)) (v := .int (nI 0)) (ty := .int) (C := R_M) (T := F_M) (N := 20) hx hb hT i_M ft_M ft_M_ok n_M hown hK hP hD hS 0 rfl rfl 0 (by decide) (hT _ k_M_52) (fun _ h9 => h9) rfl (by decide +kernel) rfl rfl (Nat.le_of_ble_eq_true rfl) d_M_link_2 (fun H locs hP hD hS => ?_)
  have hP : va_P (dC, dI) classes (wM a t σ) H := hP
  have hD : va_D A (wM a t σ) := hD
  refine lv_aload_n hx hb d_M_link_5 rfl (lv_at hl 0 rfl) ?_
  refine lv_iload_n hx hb d_M_link_6 rfl (lv_at hl 2 rfl) ?_
  refine x_ci (x_runV ⟨hx, hb, hml, hown, hT⟩ (c_M_isLive l dC dI a t σ hG2 y) f_M_isLive k_M_91 blR (va_recv hK hP (ci := 7) (q0 := 0) rfl rfl) (x_bR hK hP hN) hl.1 d_M_link_7 rfl (lv_room (Nat.le_of_ble_eq_true rfl)) ⟨Nat.le_of_ble_eq_true rfl, Nat.le_of_ble_eq_true rfl⟩ ⟨rfl, rfl⟩ ⟨Nat.le_refl 0, Nat.le_refl 0⟩ rfl) (fun r7 q7 => ?_)
  rcases q7 with ⟨rfl, i, hi1, hi2, hi3, rfl⟩ | ⟨rfl, hni⟩
  · refine x_if_eq (tgt := 45) hx hb d_M_link_10 (by decide) (fun h => absurd h (by decide)) (fun _ => ?_)
    refine lv_aload_n hx hb d_M_link_13 rfl (lv_at hl 0 rfl) ?_
    refine lv_iload_n hx hb d_M_link_14 rfl (lv_at hl 3 rfl) ?_
    refine x_ci (x_runV ⟨hx, hb, hml, hown, hT⟩ (c_M_isLive l dC dI a t σ hG2 z) f_M_isLive k_M_91 blR (va_recv hK hP (ci := 7) (q0 := 0) rfl rfl) (x_bR hK hP hN) hl.1 d_M_link_15 rfl (lv_room (Nat.le_of_ble_eq_true rfl)) ⟨Nat.le_of_ble_eq_true rfl, Nat.le_of_ble_eq_true rfl⟩ ⟨rfl, rfl⟩ ⟨Nat.le_refl 0, Nat.le_refl 0⟩ rfl) (fun r15 q15 => ?_)
    rcases q15 with ⟨rfl, j, hj1, hj2, hj3, rfl⟩ | ⟨rfl, hnj⟩
    · refine x_if_eq (tgt := 45) hx hb d_M_link_18 (by decide) (fun h => absurd h (by decide)) (fun _ => ?_)
      refine lv_iload_n hx hb d_M_link_21 rfl (lv_at hl 2 rfl) ?_
      refine lv_iload_n hx hb d_M_link_22 rfl (lv_at hl 3 rfl) ?_
      refine x_icmp_eq (tgt := 45) hx hb d_M_link_23 (by decide) (fun c23 => ?_) (fun c23 => ?_)
      · refine lv_iconst (v := nI 0) hx hb d_M_link_45 (by decide) ?_
        exact x_mi (wl := wM a t) σ hx hb hr hlk hK hP hD hS d_M_link_46 (by first | exact Or.inr ⟨q, i, j, hvl, Or.inl ⟨hhas, rfl, rfl⟩⟩ | exact Or.inl ⟨by rintro ⟨q', i', j', h1, h2, h3, h4, h5, h6, h7⟩; first | exact hni ⟨i', h2.1, h2.2.1, h2.2.2, h6⟩ | exact hnj ⟨j', h3.1, h3.2.1, h3.2.2, h7⟩ | (rw [h5] at c27; exact absurd c27 (nI_pos (by omega))) | (have h8 := (nI_eq (by omega) (by omega)).mp h5; omega) | (have h8 := (nI_eq (by omega) (by omega)).mp h6; have h9 := (nI_eq (by omega) (by omega)).mp h7; omega), rfl, rfl⟩)
      · refine lv_iload_n hx hb d_M_link_26 rfl (lv_at hl 1 rfl) ?_
        have hij : i ≠ j := fun h9 => c23 (by omega)
        refine lv_if_lt (tgt := 45) hx hb d_M_link_27 (by decide) (fun c27 => ?_) (fun c27 => ?_)
        · refine lv_iconst (v := nI 0) hx hb d_M_link_45 (by decide) ?_
          exact x_mi (wl := wM a t) σ hx hb hr hlk hK hP hD hS d_M_link_46 (by first | exact Or.inr ⟨q, i, j, hvl, Or.inl ⟨hhas, rfl, rfl⟩⟩ | exact Or.inl ⟨by rintro ⟨q', i', j', h1, h2, h3, h4, h5, h6, h7⟩; first | exact hni ⟨i', h2.1, h2.2.1, h2.2.2, h6⟩ | exact hnj ⟨j', h3.1, h3.2.1, h3.2.2, h7⟩ | (rw [h5] at c27; exact absurd c27 (nI_pos (by omega))) | (have h8 := (nI_eq (by omega) (by omega)).mp h5; omega) | (have h8 := (nI_eq (by omega) (by omega)).mp h6; have h9 := (nI_eq (by omega) (by omega)).mp h7; omega), rfl, rfl⟩)
        · obtain ⟨q, hq0, rfl⟩ := nI_of c27
          refine lv_iload_n hx hb d_M_link_30 rfl (lv_at hl 1 rfl) ?_
          refine lv_iconst (v := nI 3) hx hb d_M_link_31 (by decide) ?_
          refine x_icmp_gt (tgt := 45) hx hb d_M_link_32 (by decide) (fun c32 => ?_) (fun c32 => ?_)
          · refine lv_iconst (v := nI 0) hx hb d_M_link_45 (by decide) ?_
            exact x_mi (wl := wM a t) σ hx hb hr hlk hK hP hD hS d_M_link_46 (by first | exact Or.inr ⟨q, i, j, hvl, Or.inl ⟨hhas, rfl, rfl⟩⟩ | exact Or.inl ⟨by rintro ⟨q', i', j', h1, h2, h3, h4, h5, h6, h7⟩; first | exact hni ⟨i', h2.1, h2.2.1, h2.2.2, h6⟩ | exact hnj ⟨j', h3.1, h3.2.1, h3.2.2, h7⟩ | (rw [h5] at c27; exact absurd c27 (nI_pos (by omega))) | (have h8 := (nI_eq (by omega) (by omega)).mp h5; omega) | (have h8 := (nI_eq (by omega) (by omega)).mp h6; have h9 := (nI_eq (by omega) (by omega)).mp h7; omega), rfl, rfl⟩)
          · refine lv_aload_n hx hb d_M_link_35 rfl (lv_at hl 0 rfl) ?_
            refine lv_iload_n hx hb d_M_link_36 rfl (lv_at hl 1 rfl) ?_
            refine lv_iload_n hx hb d_M_link_37 rfl (lv_at hl 2 rfl) ?_
            refine lv_iload_n hx hb d_M_link_38 rfl (lv_at hl 3 rfl) ?_
            have hvl : VLM σ (nI q) (nI i) (nI j) q i j := ⟨by omega, ⟨hi1, hi2, hi3⟩, ⟨hj1, hj2, hj3⟩, hij, rfl, rfl, rfl⟩
            refine x_ci (x_runV ⟨hx, hb, hml, hown, hT⟩ (c_M_has l dC dI a t σ hG2 hL q i j (by omega) (by omega) (by omega)) f_M_has k_M_111 blR (va_recv hK hP (ci := 7) (q0 := 0) rfl rfl) (x_bR hK hP hN) hl.1 d_M_link_39 rfl (lv_room (Nat.le_of_ble_eq_true rfl)) ⟨Nat.le_of_ble_eq_true rfl, Nat.le_of_ble_eq_true rfl⟩ ⟨rfl, rfl⟩ ⟨Nat.le_refl 0, Nat.le_refl 0⟩ rfl) (fun r39 q39 => ?_)
            rcases q39 with ⟨rfl, hhas⟩ | ⟨rfl, hhas⟩
            · refine x_if_eq (tgt := 47) hx hb d_M_link_42 (by decide) (fun h => absurd h (by decide)) (fun _ => ?_)
              refine lv_iconst (v := nI 0) hx hb d_M_link_45 (by decide) ?_
              exact x_mi (wl := wM a t) σ hx hb hr hlk hK hP hD hS d_M_link_46 (by first | exact Or.inr ⟨q, i, j, hvl, Or.inl ⟨hhas, rfl, rfl⟩⟩ | exact Or.inl ⟨by rintro ⟨q', i', j', h1, h2, h3, h4, h5, h6, h7⟩; first | exact hni ⟨i', h2.1, h2.2.1, h2.2.2, h6⟩ | exact hnj ⟨j', h3.1, h3.2.1, h3.2.2, h7⟩ | (rw [h5] at c27; exact absurd c27 (nI_pos (by omega))) | (have h8 := (nI_eq (by omega) (by omega)).mp h5; omega) | (have h8 := (nI_eq (by omega) (by omega)).mp h6; have h9 := (nI_eq (by omega) (by omega)).mp h7; omega), rfl, rfl⟩)
            · refine x_if_eq (tgt := 47) hx hb d_M_link_42 (by decide) (fun _ => ?_) (fun h => absurd h (by decide))
              refine lv_iload_n hx hb d_M_link_47 rfl (lv_at hl 1 rfl) ?_
              refine x_if_ne (tgt := 83) hx hb d_M_link_48 (by decide) (fun c48 => ?_) (fun c48 => ?_)
              · refine lv_iload_n hx hb d_M_link_83 rfl (lv_at hl 1 rfl) ?_
                refine lv_iconst (v := nI 1) hx hb d_M_link_84 (by decide) ?_
                refine x_icmp_le (tgt := 115) hx hb d_M_link_85 (by decide) (fun c85 => ?_) (fun c85 => ?_)
                · refine lv_aload_n hx hb d_M_link_115 rfl (lv_at hl 0 rfl) ?_
                  refine lv_iload_n hx hb d_M_link_116 rfl (lv_at hl 1 rfl) ?_
                  refine lv_iload_n hx hb d_M_link_117 rfl (lv_at hl 2 rfl) ?_
                  refine lv_iload_n hx hb d_M_link_118 rfl (lv_at hl 3 rfl) ?_
                  refine lv_lload hx hb d_M_link_119 (lv_at hl 4 rfl) ?_
                  refine x_cMv (wl := wM a t) (x_runV ⟨hx, hb, hml, hown, hT⟩ (c_M_add l dC dI a t σ H.size hG2 q i j d) f_M_add k_M_119 blM (va_recv hK hP (ci := 7) (q0 := 0) rfl rfl) (x_bM hK hP hN hD) hl.1 d_M_link_121 rfl (lv_room (Nat.le_of_ble_eq_true rfl)) ⟨Nat.le_of_ble_eq_true rfl, Nat.le_of_ble_eq_true rfl⟩ ⟨rfl, rfl⟩ ⟨Nat.le_refl 0, Nat.le_refl 0⟩ rfl) hD hS hA (fun u121 H locs q121 hP hD hS => ?_)
                  refine lv_iconst (v := nI 1) hx hb d_M_link_124 (by decide) ?_
                  exact x_mi (wl := wM a t) u121 hx hb hr hlk hK hP hD hS d_M_link_125 (Or.inr ⟨q, i, j, hvl, Or.inr ⟨hhas, by first | exact Or.inr (Or.inl ⟨by omega, fun h9 => by rcases h9 with h9 | h9 | h9; exact hc1 h9; exact hc2 h9; exact hc3 h9, rfl, q121⟩) | exact Or.inr (Or.inr (Or.inl ⟨by omega, rfl, q121⟩)) | (exfalso; omega)⟩⟩)
                · refine lv_aload_n hx hb d_M_link_88 rfl (lv_at hl 0 rfl) ?_
                  refine lv_iload_n hx hb d_M_link_89 rfl (lv_at hl 1 rfl) ?_
                  refine lv_iload_n hx hb d_M_link_90 rfl (lv_at hl 3 rfl) ?_
                  refine lv_iconst (v := nI 0) hx hb d_M_link_91 (by decide) ?_
                  refine x_cMv (wl := wM a t) (x_runV ⟨hx, hb, hml, hown, hT⟩ (c_M_measure l dC dI a t σ H.size hG2 hL q j 0 (by omega) hj1 hj2 (by omega) hE) f_M_measure k_M_104 blM (va_recv hK hP (ci := 7) (q0 := 0) rfl rfl) (x_bM hK hP hN hD) hl.1 d_M_link_92 rfl (lv_room (Nat.le_of_ble_eq_true rfl)) ⟨Nat.le_of_ble_eq_true rfl, Nat.le_of_ble_eq_true rfl⟩ ⟨rfl, rfl⟩ ⟨Nat.le_refl 0, Nat.le_refl 0⟩ rfl) hD hS hA (fun u92 H locs q92 hP hD hS => ?_)
                  obtain ⟨D, rfl, hok, hcl⟩ := q92
                  have hcl : DCL σ q 0 D := hcl
                  have e1 := hok.1 i
                  refine lv_aload_n hx hb d_M_link_95 rfl (lv_at hl 0 rfl) ?_
                  refine va_get (D := (dC, dI)) (C := R_M) (T := F_M) (N := 20) hx hb hT i_M hown hK hP 0 rfl rfl 18 (by decide) (hT _ k_M_49) (fun _ h9 => h9) (v := .ref (a 13)) rfl d_M_link_96 ?_
                  refine lv_iload_n hx hb d_M_link_99 rfl (lv_at hl 2 rfl) ?_
                  refine x_iald hx hb hK hP 13 12 (f := D) rfl rfl d_M_link_100 (by omega) ?_
                  refine lv_bipush (v := nI 100) hx hb d_M_link_101 (by decide) ?_
                  refine x_icmp_ge (tgt := 115) hx hb d_M_link_103 (by decide) (fun c103 => ?_) (fun c103 => ?_)
                  · refine lv_aload_n hx hb d_M_link_115 rfl (lv_at hl 0 rfl) ?_
                    refine lv_iload_n hx hb d_M_link_116 rfl (lv_at hl 1 rfl) ?_
                    refine lv_iload_n hx hb d_M_link_117 rfl (lv_at hl 2 rfl) ?_
                    refine lv_iload_n hx hb d_M_link_118 rfl (lv_at hl 3 rfl) ?_
                    refine lv_lload hx hb d_M_link_119 (lv_at hl 4 rfl) ?_
                    refine x_cMv (wl := wM a t) (x_runV ⟨hx, hb, hml, hown, hT⟩ (c_M_add l dC dI a t (mu_di σ (D)) H.size (GM_di hG2 hok.1) q i j d) f_M_add k_M_119 blM (va_recv hK hP (ci := 7) (q0 := 0) rfl rfl) (x_bM hK hP hN hD) hl.1 d_M_link_121 rfl (lv_room (Nat.le_of_ble_eq_true rfl)) ⟨Nat.le_of_ble_eq_true rfl, Nat.le_of_ble_eq_true rfl⟩ ⟨rfl, rfl⟩ ⟨Nat.le_refl 0, Nat.le_refl 0⟩ rfl) hD hS hA (fun u121 H locs q121 hP hD hS => ?_)
                    refine lv_iconst (v := nI 1) hx hb d_M_link_124 (by decide) ?_
                    exact x_mi (wl := wM a t) u121 hx hb hr hlk hK hP hD hS d_M_link_125 (Or.inr ⟨q, i, j, hvl, Or.inr ⟨hhas, Or.inr (Or.inr (Or.inr ⟨by omega, Or.inr ⟨D, rfl, hok, hcl, by omega, q121⟩⟩))⟩⟩)
                  · refine lv_aload_n hx hb d_M_link_106 rfl (lv_at hl 0 rfl) ?_
                    refine lv_iload_n hx hb d_M_link_107 rfl (lv_at hl 1 rfl) ?_
                    refine lv_iload_n hx hb d_M_link_108 rfl (lv_at hl 3 rfl) ?_
                    refine lv_iload_n hx hb d_M_link_109 rfl (lv_at hl 2 rfl) ?_
                    have hwk := hok.2.2 i hi1 hi2 (by omega)
                    have hD59 := D_lt hE hok hcl hi1 hi2 (by omega)
                    refine x_cMv (wl := wM a t) (x_runV ⟨hx, hb, hml, hown, hT⟩ (c_M_ways l dC dI a t (mu_di σ D) H.size (GM_di hG2 hok.1) hL q j i (by omega) hj1 hj2 hi1 hi2 hE ⟨D i, by omega, WLK_di.mpr (WLK_rev hwk)⟩) f_M_ways k_M_115 blM (va_recv hK hP (ci := 7) (q0 := 0) rfl rfl) (x_bM hK hP hN hD) hl.1 d_M_link_110 rfl (lv_room (Nat.le_of_ble_eq_true rfl)) ⟨Nat.le_of_ble_eq_true rfl, Nat.le_of_ble_eq_true rfl⟩ ⟨rfl, rfl⟩ ⟨Nat.le_refl 0, Nat.le_refl 0⟩ rfl) hD hS hA (fun u110 H locs q110 hP hD hS => ?_)
                    refine lv_iconst (v := nI 0) hx hb d_M_link_113 (by decide) ?_
                    exact x_mi (wl := wM a t) u110 hx hb hr hlk hK hP hD hS d_M_link_114 (Or.inr ⟨q, i, j, hvl, Or.inr ⟨hhas, Or.inr (Or.inr (Or.inr ⟨by omega, Or.inl ⟨rfl, ⟨D i, by omega, hwk⟩, D, q110⟩⟩))⟩⟩)
              · refine lv_aload_n hx hb d_M_link_51 rfl (lv_at hl 0 rfl) ?_
                refine lv_iconst (v := nI 0) hx hb d_M_link_52 (by decide) ?_
                refine lv_iload_n hx hb d_M_link_53 rfl (lv_at hl 2 rfl) ?_
                refine lv_iconst (v := nI 0) hx hb d_M_link_54 (by decide) ?_
                refine x_ci (x_runV ⟨hx, hb, hml, hown, hT⟩ (c_M_has l dC dI a t σ hG2 hL 0 i 0 (by omega) (by omega) (by omega)) f_M_has k_M_111 blR (va_recv hK hP (ci := 7) (q0 := 0) rfl rfl) (x_bR hK hP hN) hl.1 d_M_link_55 rfl (lv_room (Nat.le_of_ble_eq_true rfl)) ⟨Nat.le_of_ble_eq_true rfl, Nat.le_of_ble_eq_true rfl⟩ ⟨rfl, rfl⟩ ⟨Nat.le_refl 0, Nat.le_refl 0⟩ rfl) (fun r55 q55 => ?_)
                rcases q55 with ⟨rfl, hc1⟩ | ⟨rfl, hc1⟩
                · refine x_if_ne (tgt := 81) hx hb d_M_link_58 (by decide) (fun _ => ?_) (fun h => absurd h (by decide))
                  refine lv_iconst (v := nI 0) hx hb d_M_link_81 (by decide) ?_
                  exact x_mi (wl := wM a t) σ hx hb hr hlk hK hP hD hS d_M_link_82 (Or.inr ⟨q, i, j, hvl, Or.inr ⟨hhas, Or.inl ⟨by omega, by first | exact Or.inl hc1 | exact Or.inr (Or.inl hc2) | exact Or.inr (Or.inr hc3), rfl, rfl⟩⟩⟩)
                · refine x_if_ne (tgt := 81) hx hb d_M_link_58 (by decide) (fun h => absurd h (by decide)) (fun _ => ?_)
                  refine lv_aload_n hx hb d_M_link_61 rfl (lv_at hl 0 rfl) ?_
                  refine lv_iconst (v := nI 0) hx hb d_M_link_62 (by decide) ?_
                  refine lv_iconst (v := nI 0) hx hb d_M_link_63 (by decide) ?_
                  refine lv_iload_n hx hb d_M_link_64 rfl (lv_at hl 2 rfl) ?_
                  refine x_ci (x_runV ⟨hx, hb, hml, hown, hT⟩ (c_M_has l dC dI a t σ hG2 hL 0 0 i (by omega) (by omega) (by omega)) f_M_has k_M_111 blR (va_recv hK hP (ci := 7) (q0 := 0) rfl rfl) (x_bR hK hP hN) hl.1 d_M_link_65 rfl (lv_room (Nat.le_of_ble_eq_true rfl)) ⟨Nat.le_of_ble_eq_true rfl, Nat.le_of_ble_eq_true rfl⟩ ⟨rfl, rfl⟩ ⟨Nat.le_refl 0, Nat.le_refl 0⟩ rfl) (fun r65 q65 => ?_)
                  rcases q65 with ⟨rfl, hc2⟩ | ⟨rfl, hc2⟩
                  · refine x_if_ne (tgt := 81) hx hb d_M_link_68 (by decide) (fun _ => ?_) (fun h => absurd h (by decide))
                    refine lv_iconst (v := nI 0) hx hb d_M_link_81 (by decide) ?_
                    exact x_mi (wl := wM a t) σ hx hb hr hlk hK hP hD hS d_M_link_82 (Or.inr ⟨q, i, j, hvl, Or.inr ⟨hhas, Or.inl ⟨by omega, by first | exact Or.inl hc1 | exact Or.inr (Or.inl hc2) | exact Or.inr (Or.inr hc3), rfl, rfl⟩⟩⟩)
                  · refine x_if_ne (tgt := 81) hx hb d_M_link_68 (by decide) (fun h => absurd h (by decide)) (fun _ => ?_)
                    refine lv_aload_n hx hb d_M_link_71 rfl (lv_at hl 0 rfl) ?_
                    refine lv_iconst (v := nI 0) hx hb d_M_link_72 (by decide) ?_
                    refine lv_iload_n hx hb d_M_link_73 rfl (lv_at hl 3 rfl) ?_
                    refine lv_iconst (v := nI 0) hx hb d_M_link_74 (by decide) ?_
                    refine x_ci (x_runV ⟨hx, hb, hml, hown, hT⟩ (c_M_has l dC dI a t σ hG2 hL 0 j 0 (by omega) (by omega) (by omega)) f_M_has k_M_111 blR (va_recv hK hP (ci := 7) (q0 := 0) rfl rfl) (x_bR hK hP hN) hl.1 d_M_link_75 rfl (lv_room (Nat.le_of_ble_eq_true rfl)) ⟨Nat.le_of_ble_eq_true rfl, Nat.le_of_ble_eq_true rfl⟩ ⟨rfl, rfl⟩ ⟨Nat.le_refl 0, Nat.le_refl 0⟩ rfl) (fun r75 q75 => ?_)
                    rcases q75 with ⟨rfl, hc3⟩ | ⟨rfl, hc3⟩
                    · refine x_if_eq (tgt := 83) hx hb d_M_link_78 (by decide) (fun h => absurd h (by decide)) (fun _ => ?_)
                      refine lv_iconst (v := nI 0) hx hb d_M_link_81 (by decide) ?_
                      exact x_mi (wl := wM a t) σ hx hb hr hlk hK hP hD hS d_M_link_82 (Or.inr ⟨q, i, j, hvl, Or.inr ⟨hhas, Or.inl ⟨by omega, by first | exact Or.inl hc1 | exact Or.inr (Or.inl hc2) | exact Or.inr (Or.inr hc3), rfl, rfl⟩⟩⟩)
                    · refine x_if_eq (tgt := 83) hx hb d_M_link_78 (by decide) (fun _ => ?_) (fun h => absurd h (by decide))
                      refine lv_iload_n hx hb d_M_link_83 rfl (lv_at hl 1 rfl) ?_
                      refine lv_iconst (v := nI 1) hx hb d_M_link_84 (by decide) ?_
                      refine x_icmp_le (tgt := 115) hx hb d_M_link_85 (by decide) (fun c85 => ?_) (fun c85 => ?_)
                      · refine lv_aload_n hx hb d_M_link_115 rfl (lv_at hl 0 rfl) ?_
                        refine lv_iload_n hx hb d_M_link_116 rfl (lv_at hl 1 rfl) ?_
                        refine lv_iload_n hx hb d_M_link_117 rfl (lv_at hl 2 rfl) ?_
                        refine lv_iload_n hx hb d_M_link_118 rfl (lv_at hl 3 rfl) ?_
                        refine lv_lload hx hb d_M_link_119 (lv_at hl 4 rfl) ?_
                        refine x_cMv (wl := wM a t) (x_runV ⟨hx, hb, hml, hown, hT⟩ (c_M_add l dC dI a t σ H.size hG2 q i j d) f_M_add k_M_119 blM (va_recv hK hP (ci := 7) (q0 := 0) rfl rfl) (x_bM hK hP hN hD) hl.1 d_M_link_121 rfl (lv_room (Nat.le_of_ble_eq_true rfl)) ⟨Nat.le_of_ble_eq_true rfl, Nat.le_of_ble_eq_true rfl⟩ ⟨rfl, rfl⟩ ⟨Nat.le_refl 0, Nat.le_refl 0⟩ rfl) hD hS hA (fun u121 H locs q121 hP hD hS => ?_)
                        refine lv_iconst (v := nI 1) hx hb d_M_link_124 (by decide) ?_
                        exact x_mi (wl := wM a t) u121 hx hb hr hlk hK hP hD hS d_M_link_125 (Or.inr ⟨q, i, j, hvl, Or.inr ⟨hhas, by first | exact Or.inr (Or.inl ⟨by omega, fun h9 => by rcases h9 with h9 | h9 | h9; exact hc1 h9; exact hc2 h9; exact hc3 h9, rfl, q121⟩) | exact Or.inr (Or.inr (Or.inl ⟨by omega, rfl, q121⟩)) | (exfalso; omega)⟩⟩)
                      · refine lv_aload_n hx hb d_M_link_88 rfl (lv_at hl 0 rfl) ?_
                        refine lv_iload_n hx hb d_M_link_89 rfl (lv_at hl 1 rfl) ?_
                        refine lv_iload_n hx hb d_M_link_90 rfl (lv_at hl 3 rfl) ?_
                        refine lv_iconst (v := nI 0) hx hb d_M_link_91 (by decide) ?_
                        refine x_cMv (wl := wM a t) (x_runV ⟨hx, hb, hml, hown, hT⟩ (c_M_measure l dC dI a t σ H.size hG2 hL q j 0 (by omega) hj1 hj2 (by omega) hE) f_M_measure k_M_104 blM (va_recv hK hP (ci := 7) (q0 := 0) rfl rfl) (x_bM hK hP hN hD) hl.1 d_M_link_92 rfl (lv_room (Nat.le_of_ble_eq_true rfl)) ⟨Nat.le_of_ble_eq_true rfl, Nat.le_of_ble_eq_true rfl⟩ ⟨rfl, rfl⟩ ⟨Nat.le_refl 0, Nat.le_refl 0⟩ rfl) hD hS hA (fun u92 H locs q92 hP hD hS => ?_)
                        obtain ⟨D, rfl, hok, hcl⟩ := q92
                        have hcl : DCL σ q 0 D := hcl
                        have e1 := hok.1 i
                        refine lv_aload_n hx hb d_M_link_95 rfl (lv_at hl 0 rfl) ?_
                        refine va_get (D := (dC, dI)) (C := R_M) (T := F_M) (N := 20) hx hb hT i_M hown hK hP 0 rfl rfl 18 (by decide) (hT _ k_M_49) (fun _ h9 => h9) (v := .ref (a 13)) rfl d_M_link_96 ?_
                        refine lv_iload_n hx hb d_M_link_99 rfl (lv_at hl 2 rfl) ?_
                        refine x_iald hx hb hK hP 13 12 (f := D) rfl rfl d_M_link_100 (by omega) ?_
                        refine lv_bipush (v := nI 100) hx hb d_M_link_101 (by decide) ?_
                        refine x_icmp_ge (tgt := 115) hx hb d_M_link_103 (by decide) (fun c103 => ?_) (fun c103 => ?_)
                        · refine lv_aload_n hx hb d_M_link_115 rfl (lv_at hl 0 rfl) ?_
                          refine lv_iload_n hx hb d_M_link_116 rfl (lv_at hl 1 rfl) ?_
                          refine lv_iload_n hx hb d_M_link_117 rfl (lv_at hl 2 rfl) ?_
                          refine lv_iload_n hx hb d_M_link_118 rfl (lv_at hl 3 rfl) ?_
                          refine lv_lload hx hb d_M_link_119 (lv_at hl 4 rfl) ?_
                          refine x_cMv (wl := wM a t) (x_runV ⟨hx, hb, hml, hown, hT⟩ (c_M_add l dC dI a t (mu_di σ (D)) H.size (GM_di hG2 hok.1) q i j d) f_M_add k_M_119 blM (va_recv hK hP (ci := 7) (q0 := 0) rfl rfl) (x_bM hK hP hN hD) hl.1 d_M_link_121 rfl (lv_room (Nat.le_of_ble_eq_true rfl)) ⟨Nat.le_of_ble_eq_true rfl, Nat.le_of_ble_eq_true rfl⟩ ⟨rfl, rfl⟩ ⟨Nat.le_refl 0, Nat.le_refl 0⟩ rfl) hD hS hA (fun u121 H locs q121 hP hD hS => ?_)
                          refine lv_iconst (v := nI 1) hx hb d_M_link_124 (by decide) ?_
                          exact x_mi (wl := wM a t) u121 hx hb hr hlk hK hP hD hS d_M_link_125 (Or.inr ⟨q, i, j, hvl, Or.inr ⟨hhas, Or.inr (Or.inr (Or.inr ⟨by omega, Or.inr ⟨D, rfl, hok, hcl, by omega, q121⟩⟩))⟩⟩)
                        · refine lv_aload_n hx hb d_M_link_106 rfl (lv_at hl 0 rfl) ?_
                          refine lv_iload_n hx hb d_M_link_107 rfl (lv_at hl 1 rfl) ?_
                          refine lv_iload_n hx hb d_M_link_108 rfl (lv_at hl 3 rfl) ?_
                          refine lv_iload_n hx hb d_M_link_109 rfl (lv_at hl 2 rfl) ?_
                          have hwk := hok.2.2 i hi1 hi2 (by omega)
                          have hD59 := D_lt hE hok hcl hi1 hi2 (by omega)
                          refine x_cMv (wl := wM a t) (x_runV ⟨hx, hb, hml, hown, hT⟩ (c_M_ways l dC dI a t (mu_di σ D) H.size (GM_di hG2 hok.1) hL q j i (by omega) hj1 hj2 hi1 hi2 hE ⟨D i, by omega, WLK_di.mpr (WLK_rev hwk)⟩) f_M_ways k_M_115 blM (va_recv hK hP (ci := 7) (q0 := 0) rfl rfl) (x_bM hK hP hN hD) hl.1 d_M_link_110 rfl (lv_room (Nat.le_of_ble_eq_true rfl)) ⟨Nat.le_of_ble_eq_true rfl, Nat.le_of_ble_eq_true rfl⟩ ⟨rfl, rfl⟩ ⟨Nat.le_refl 0, Nat.le_refl 0⟩ rfl) hD hS hA (fun u110 H locs q110 hP hD hS => ?_)
                          refine lv_iconst (v := nI 0) hx hb d_M_link_113 (by decide) ?_
                          exact x_mi (wl := wM a t) u110 hx hb hr hlk hK hP hD hS d_M_link_114 (Or.inr ⟨q, i, j, hvl, Or.inr ⟨hhas, Or.inr (Or.inr (Or.inr ⟨by omega, Or.inl ⟨rfl, ⟨D i, by omega, hwk⟩, D, q110⟩⟩))⟩⟩)
    · refine x_if_eq (tgt := 45) hx hb d_M_link_18 (by decide) (fun _ => ?_) (fun h => absurd h (by decide))
      refine lv_iconst (v := nI 0) hx hb d_M_link_45 (by decide) ?_
      exact x_mi (wl := wM a t) σ hx hb hr hlk hK hP hD hS d_M_link_46 (by first | exact Or.inr ⟨q, i, j, hvl, Or.inl ⟨hhas, rfl, rfl⟩⟩ | exact Or.inl ⟨by rintro ⟨q', i', j', h1, h2, h3, h4, h5, h6, h7⟩; first | exact hni ⟨i', h2.1, h2.2.1, h2.2.2, h6⟩ | exact hnj ⟨j', h3.1, h3.2.1, h3.2.2, h7⟩ | (rw [h5] at c27; exact absurd c27 (nI_pos (by omega))) | (have h8 := (nI_eq (by omega) (by omega)).mp h5; omega) | (have h8 := (nI_eq (by omega) (by omega)).mp h6; have h9 := (nI_eq (by omega) (by omega)).mp h7; omega), rfl, rfl⟩)
  · refine x_if_eq (tgt := 45) hx hb d_M_link_10 (by decide) (fun _ => ?_) (fun h => absurd h (by decide))
    refine lv_iconst (v := nI 0) hx hb d_M_link_45 (by decide) ?_
    exact x_mi (wl := wM a t) σ hx hb hr hlk hK hP hD hS d_M_link_46 (by first | exact Or.inr ⟨q, i, j, hvl, Or.inl ⟨hhas, rfl, rfl⟩⟩ | exact Or.inl ⟨by rintro ⟨q', i', j', h1, h2, h3, h4, h5, h6, h7⟩; first | exact hni ⟨i', h2.1, h2.2.1, h2.2.2, h6⟩ | exact hnj ⟨j', h3.1, h3.2.1, h3.2.2, h7⟩ | (rw [h5] at c27; exact absurd c27 (nI_pos (by omega))) | (have h8 := (nI_eq (by omega) (by omega)).mp h5; omega) | (have h8 := (nI_eq (by omega) (by omega)).mp h6; have h9 := (nI_eq (by omega) (by omega)).mp h7; omega), rfl, rfl⟩)

noncomputable def hasB (σ : SM) (q f h : Nat) : Bool := @decide (HASM σ q f h) (Classical.propDecidable _)
theorem hasB_t {σ : SM} {q f h : Nat} (e : HASM σ q f h) : hasB σ q f h = true := by unfold hasB; exact @decide_eq_true _ (Classical.propDecidable _) e
theorem hasB_f {σ : SM} {q f h : Nat} (e : ¬ HASM σ q f h) : ¬ hasB σ q f h = true := by unfold hasB; intro h2; exact e (@of_decide_eq_true _ (Classical.propDecidable _) h2)
set_option maxRecDepth 100000 in
set_option maxHeartbeats 4000000 in
theorem c_M_see (l : Launch) (dC : Nat → ClassId) (dI : Nat → Nat → Nat) (a : Nat → Nat) (t : Nat → ClassId) (σ : SM) (sz : Nat) (hG : GM σ) (hL : GL σ) (x y : Int32) : Met l y_M_see (wS y_M_see b_M_see 5 (some .int)) (rD 2) (va_Pc [.ref (a 0), .int x, .int y] (MB (dC, dI) (yM t) (wM a t σ) sz)) (va_Qi (fun (r : Int32) (u : SM) => u = σ ∧ ((¬ (∃ j i, 1 ≤ j ∧ j ≤ m_hn σ ∧ m_lv σ j = 1 ∧ x = nI j ∧ i < 2 ^ 31 ∧ y = nI i) ∧ r = nI 0) ∨ ∃ j i, 1 ≤ j ∧ j ≤ m_hn σ ∧ m_lv σ j = 1 ∧ x = nI j ∧ i < 2 ^ 31 ∧ y = nI i ∧ NTH (fun f => hasB σ 0 f j) (m_hn σ) i r)) (fun u => ME (dC, dI) (yM t) (va_A (wM a t σ) sz) (wM a t u)) (va_A (wM a t σ) sz)) 0 0 (va_A (wM a t σ) sz) := by
  refine x_enter (by decide) (Nat.le_of_ble_eq_true rfl) ?_
  intro p e s m below meth c ls hx hb hr hml hT hown hlk hnm hl hB
  obtain ⟨rfl, hP, hK, hN, hD0⟩ := hB
  have hD := hD0.self (sz := s.heap.size)
  generalize hAe : va_A (wM a t σ) s.heap.size = A at hD ⊢
  have hA : ∀ q : Nat, s.heap.size ≤ q → A q := fun q h => by rw [← hAe]; exact Or.inr h
  have hS : va_S A s.heap s.heap [] := va_S.rf
  have hP : va_P (dC, dI) classes (wM a t σ) s.heap := hP
  have hl : lv_has ls 5 [(0, .ref (a 0)), (1, .int x), (2, .int y)] := hl
  have hown : s.vm.findClass R_M = some m.cls := hown
  have hG2 := hG
  obtain ⟨g_sz, g_sd, g_hn, g_kd, g_lv, g_tx, g_zs, g_ln, g_lf, g_lt, g_rn, g_lk, g_wy, g_wn, g_di, g_co⟩ := hG
  refine lv_aload_n hx hb d_M_see_0 rfl (lv_at hl 0 rfl) ?_
  refine lv_iconst (v := nI 0) hx hb d_M_see_1 (by decide) ?_
  refine va_put (D := (dC, dI)) (v := .int (nI 0)) (ty := .int) (C := R_M) (T := F_M) (N := 20) hx hb hT i_M ft_M ft_M_ok n_M hown hK hP hD hS 0 rfl rfl 0 (by decide) (hT _ k_M_52) (fun _ h9 => h9) rfl (by decide +kernel) rfl rfl (Nat.le_of_ble_eq_true rfl) d_M_see_2 (fun H locs hP hD hS => ?_)
  have hP : va_P (dC, dI) classes (wM a t σ) H := hP
  have hD : va_D A (wM a t σ) := hD
  by_cases hgood : (∃ j i, 1 ≤ j ∧ j ≤ m_hn σ ∧ m_lv σ j = 1 ∧ x = nI j ∧ i < 2 ^ 31 ∧ y = nI i)
  · obtain ⟨jj, ii, hj1, hj2, hj3, rfl, hii, rfl⟩ := hgood
    refine lv_iconst (v := nI 0) hx hb d_M_see_5 (by decide) ?_
    refine lv_istore_n (lv' := [(3, .int (nI 0)), (0, .ref (a 0)), (1, .int (nI jj)), (2, .int (nI ii))]) hx hb d_M_see_6 rfl hl (by decide) rfl (fun ls hl => ?_)
    refine lv_iconst (v := nI 1) hx hb d_M_see_7 (by decide) ?_
    refine lv_istore (lv' := [(4, .int (nI 1)), (3, .int (nI 0)), (0, .ref (a 0)), (1, .int (nI jj)), (2, .int (nI ii))]) hx hb d_M_see_8 hl (by decide) rfl (fun ls hl => ?_)
    have hloop10 : ∀ (n10 : Nat) (k : Nat) (f : Nat) (H : Heap) (locs : List Loc) (ls : Array Slot), k ≤ m_hn σ → f = cntP (fun f => hasB σ 0 f jj) k → f ≤ ii → m_hn σ + 1 - k < n10 → va_P (dC, dI) classes (wM a t σ) H → va_D A (wM a t σ) → va_S A s.heap H locs → lv_has ls 5 [(0, .ref (a 0)), (1, .int (nI jj)), (2, .int (nI ii)), (3, .int (nI f)), (4, .int (nI (k + 1)))] → W p l e (rD 2) s m ([.ref (a 0), .int (nI jj), .int (nI ii)] : List Value).toArray below meth c H locs 0 0 (MQ below (va_Qi (fun (r : Int32) (u : SM) => u = σ ∧ ((¬ (∃ j i, 1 ≤ j ∧ j ≤ m_hn σ ∧ m_lv σ j = 1 ∧ nI jj = nI j ∧ i < 2 ^ 31 ∧ nI ii = nI i) ∧ r = nI 0) ∨ ∃ j i, 1 ≤ j ∧ j ≤ m_hn σ ∧ m_lv σ j = 1 ∧ nI jj = nI j ∧ i < 2 ^ 31 ∧ nI ii = nI i ∧ NTH (fun f => hasB σ 0 f j) (m_hn σ) i r)) (fun u => ME (dC, dI) (yM t) A (wM a t u)) A) ([.ref (a 0), .int (nI jj), .int (nI ii)] : List Value).toArray s 0 0 A) (F0 m 10 ls []) := by
      intro n10
      induction n10 with
      | zero => intro k f H locs ls _ _ _ h9; exact absurd h9 (Nat.not_lt_zero _)
      | succ n10 ih10 =>
        intro k f H locs ls hk hf hf2 hmu10 hP hD hS hl
        refine lv_iload hx hb d_M_see_10 (lv_at hl 4 rfl) ?_
        refine lv_aload_n hx hb d_M_see_12 rfl (lv_at hl 0 rfl) ?_
        refine va_get (D := (dC, dI)) (C := R_M) (T := F_M) (N := 20) hx hb hT i_M hown hK hP 0 rfl rfl 3 (by decide) (hT _ k_M_66) (fun _ h9 => h9) (v := .int (nI (m_hn σ))) rfl d_M_see_13 ?_
        refine x_icmp_gt (tgt := 59) hx hb d_M_see_16 (by decide) (fun c16 => ?_) (fun c16 => ?_)
        · refine lv_iconst (v := nI 0) hx hb d_M_see_59 (by decide) ?_
          exact x_mi (wl := wM a t) σ hx hb hr hlk hK hP hD hS d_M_see_60 ⟨rfl, Or.inr ⟨jj, ii, hj1, hj2, hj3, rfl, hii, rfl, Or.inr ⟨by rw [show m_hn σ = k by omega, ← hf]; exact hf2, rfl⟩⟩⟩
        · refine lv_iload_n hx hb d_M_see_19 rfl (lv_at hl 2 rfl) ?_
          refine x_if_lt (tgt := 59) hx hb d_M_see_20 (by decide) ?_
          refine lv_aload_n hx hb d_M_see_23 rfl (lv_at hl 0 rfl) ?_
          refine lv_iload_n hx hb d_M_see_24 rfl (lv_at hl 1 rfl) ?_
          refine x_ci (x_runV ⟨hx, hb, hml, hown, hT⟩ (c_M_isLive l dC dI a t σ hG2 (nI jj)) f_M_isLive k_M_91 blR (va_recv hK hP (ci := 7) (q0 := 0) rfl rfl) (x_bR hK hP hN) hl.1 d_M_see_25 rfl (lv_room (Nat.le_of_ble_eq_true rfl)) ⟨Nat.le_of_ble_eq_true rfl, Nat.le_of_ble_eq_true rfl⟩ ⟨rfl, rfl⟩ ⟨Nat.le_refl 0, Nat.le_refl 0⟩ rfl) (fun r25 q25 => ?_)
          obtain ⟨rfl, _⟩ : r25 = nI 1 ∧ True := by
            rcases q25 with ⟨h9, _⟩ | ⟨_, h9⟩
            · exact ⟨h9, trivial⟩
            · exact absurd ⟨jj, hj1, hj2, hj3, rfl⟩ h9
          refine x_if_eq (tgt := 59) hx hb d_M_see_28 (by decide) (fun h => absurd h (by decide)) (fun _ => ?_)
          refine lv_aload_n hx hb d_M_see_31 rfl (lv_at hl 0 rfl) ?_
          refine lv_iconst (v := nI 0) hx hb d_M_see_32 (by decide) ?_
          refine lv_iload hx hb d_M_see_33 (lv_at hl 4 rfl) ?_
          refine lv_iload_n hx hb d_M_see_35 rfl (lv_at hl 1 rfl) ?_
          refine x_ci (x_runV ⟨hx, hb, hml, hown, hT⟩ (c_M_has l dC dI a t σ hG2 hL 0 (k + 1) jj (by omega) (by omega) (by omega)) f_M_has k_M_111 blR (va_recv hK hP (ci := 7) (q0 := 0) rfl rfl) (x_bR hK hP hN) hl.1 d_M_see_36 rfl (lv_room (Nat.le_of_ble_eq_true rfl)) ⟨Nat.le_of_ble_eq_true rfl, Nat.le_of_ble_eq_true rfl⟩ ⟨rfl, rfl⟩ ⟨Nat.le_refl 0, Nat.le_refl 0⟩ rfl) (fun r36 q36 => ?_)
          rcases q36 with ⟨rfl, hqq⟩ | ⟨rfl, hqq⟩
          · refine x_if_eq (tgt := 53) hx hb d_M_see_39 (by decide) (fun h => absurd h (by decide)) (fun _ => ?_)
            refine lv_iload_n hx hb d_M_see_42 rfl (lv_at hl 3 rfl) ?_
            refine lv_iload_n hx hb d_M_see_43 rfl (lv_at hl 2 rfl) ?_
            refine x_icmp_ne (tgt := 50) hx hb d_M_see_44 (by decide) (fun c44 => ?_) (fun c44 => ?_)
            · refine x_iinc (lv' := [(3, .int (nI (f + 1))), (0, .ref (a 0)), (1, .int (nI jj)), (2, .int (nI ii)), (4, .int (nI (k + 1)))]) hx hb d_M_see_50 hl (k := 3) rfl (by decide) rfl (fun ls hl => ?_)
              refine x_iinc (lv' := [(4, .int (nI ((k + 1) + 1))), (3, .int (nI (f + 1))), (0, .ref (a 0)), (1, .int (nI jj)), (2, .int (nI ii))]) hx hb d_M_see_53 hl (k := 4) rfl (by decide) rfl (fun ls hl => ?_)
              refine lv_goto (tgt := 10) hx hb d_M_see_56 (by decide) ?_
              exact ih10 (k + 1) _ H locs ls (by omega) (by first | (rw [cntP_s1 (P := fun f => hasB σ 0 f jj) (hasB_t hqq)]; omega) | (rw [cntP_s0 (P := fun f => hasB σ 0 f jj) (hasB_f hqq)]; omega)) (by omega) (by omega) hP hD hS (lv_sub hl [2, 3, 4, 1, 0] rfl)
            · refine lv_iload hx hb d_M_see_47 (lv_at hl 4 rfl) ?_
              exact x_mi (wl := wM a t) σ hx hb hr hlk hK hP hD hS d_M_see_49 ⟨rfl, Or.inr ⟨jj, ii, hj1, hj2, hj3, rfl, hii, rfl, Or.inl ⟨k, by omega, hasB_t hqq, by omega, rfl⟩⟩⟩
          · refine x_if_eq (tgt := 53) hx hb d_M_see_39 (by decide) (fun _ => ?_) (fun h => absurd h (by decide))
            refine x_iinc (lv' := [(4, .int (nI ((k + 1) + 1))), (0, .ref (a 0)), (1, .int (nI jj)), (2, .int (nI ii)), (3, .int (nI f))]) hx hb d_M_see_53 hl (k := 4) rfl (by decide) rfl (fun ls hl => ?_)
            refine lv_goto (tgt := 10) hx hb d_M_see_56 (by decide) ?_
            exact ih10 (k + 1) _ H locs ls (by omega) (by first | (rw [cntP_s1 (P := fun f => hasB σ 0 f jj) (hasB_t hqq)]; omega) | (rw [cntP_s0 (P := fun f => hasB σ 0 f jj) (hasB_f hqq)]; omega)) (by omega) (by omega) hP hD hS (lv_sub hl [1, 2, 3, 4, 0] rfl)
    exact hloop10 _ 0 0 _ _ ls (by omega) rfl (by omega) (Nat.lt_succ_self _) hP hD hS (lv_sub hl [2, 3, 4, 1, 0] rfl)
  · refine lv_iconst (v := nI 0) hx hb d_M_see_5 (by decide) ?_
    refine lv_istore_n (lv' := [(3, .int (nI 0)), (0, .ref (a 0)), (1, .int x), (2, .int y)]) hx hb d_M_see_6 rfl hl (by decide) rfl (fun ls hl => ?_)
    refine lv_iconst (v := nI 1) hx hb d_M_see_7 (by decide) ?_
    refine lv_istore (lv' := [(4, .int (nI 1)), (3, .int (nI 0)), (0, .ref (a 0)), (1, .int x), (2, .int y)]) hx hb d_M_see_8 hl (by decide) rfl (fun ls hl => ?_)
    refine lv_iload hx hb d_M_see_10 (lv_at hl 0 rfl) ?_
    refine lv_aload_n hx hb d_M_see_12 rfl (lv_at hl 2 rfl) ?_
    refine va_get (D := (dC, dI)) (C := R_M) (T := F_M) (N := 20) hx hb hT i_M hown hK hP 0 rfl rfl 3 (by decide) (hT _ k_M_66) (fun _ h9 => h9) (v := .int (nI (m_hn σ))) rfl d_M_see_13 ?_
    refine x_icmp_gt (tgt := 59) hx hb d_M_see_16 (by decide) (fun c16 => ?_) (fun c16 => ?_)
    · refine lv_iconst (v := nI 0) hx hb d_M_see_59 (by decide) ?_
      exact x_mi (wl := wM a t) σ hx hb hr hlk hK hP hD hS d_M_see_60 ⟨rfl, Or.inl ⟨hgood, rfl⟩⟩
    · refine lv_iload_n hx hb d_M_see_19 rfl (lv_at hl 4 rfl) ?_
      refine lv_if_lt (tgt := 59) hx hb d_M_see_20 (by decide) (fun c20 => ?_) (fun c20 => ?_)
      · refine lv_iconst (v := nI 0) hx hb d_M_see_59 (by decide) ?_
        exact x_mi (wl := wM a t) σ hx hb hr hlk hK hP hD hS d_M_see_60 ⟨rfl, Or.inl ⟨hgood, rfl⟩⟩
      · refine lv_aload_n hx hb d_M_see_23 rfl (lv_at hl 2 rfl) ?_
        refine lv_iload_n hx hb d_M_see_24 rfl (lv_at hl 3 rfl) ?_
        refine x_ci (x_runV ⟨hx, hb, hml, hown, hT⟩ (c_M_isLive l dC dI a t σ hG2 x) f_M_isLive k_M_91 blR (va_recv hK hP (ci := 7) (q0 := 0) rfl rfl) (x_bR hK hP hN) hl.1 d_M_see_25 rfl (lv_room (Nat.le_of_ble_eq_true rfl)) ⟨Nat.le_of_ble_eq_true rfl, Nat.le_of_ble_eq_true rfl⟩ ⟨rfl, rfl⟩ ⟨Nat.le_refl 0, Nat.le_refl 0⟩ rfl) (fun r25 q25 => ?_)
        rcases q25 with ⟨_, j9, e1, e2, e3, e4⟩ | ⟨rfl, _⟩
        · obtain ⟨i9, e5, e6⟩ := nI_of c20; exact absurd ⟨j9, i9, e1, e2, e3, e4, e5, e6⟩ hgood
        refine x_if_eq (tgt := 59) hx hb d_M_see_28 (by decide) (fun _ => ?_) (fun h => absurd h (by decide))
        refine lv_iconst (v := nI 0) hx hb d_M_see_59 (by decide) ?_
        exact x_mi (wl := wM a t) σ hx hb hr hlk hK hP hD hS d_M_see_60 ⟨rfl, Or.inl ⟨hgood, rfl⟩⟩

def lvB (D : Nat → Nat) (d g : Nat) : Bool := decide (D g = d)
/-- how many are 1 .. k links away -/
def cS (D : Nat → Nat) (n : Nat) : Nat → Nat
  | 0 => 0
  | k + 1 => cS D n k + cntP (lvB D (k + 1)) n
def BRO (D : Nat → Nat) (n i : Nat) (r : Int32) : Prop := (∃ k f, k < 60 ∧ f < n ∧ D (f + 1) = k + 1 ∧ cS D n k + cntP (lvB D (k + 1)) f = i ∧ r = nI (f + 1)) ∨ (cS D n 60 ≤ i ∧ r = nI 0)
set_option maxRecDepth 100000 in
set_option maxHeartbeats 4000000 in
theorem c_M_broader (l : Launch) (dC : Nat → ClassId) (dI : Nat → Nat → Nat) (a : Nat → Nat) (t : Nat → ClassId) (σ : SM) (sz : Nat) (hG : GM σ) (hL : GL σ) (hE : HED σ) (x y : Int32) : Met l y_M_broader (wS y_M_broader b_M_broader 6 (some .int)) (rD 1) (va_Pc [.ref (a 0), .int x, .int y] (MB (dC, dI) (yM t) (wM a t σ) sz)) (va_Qi (fun (r : Int32) (u : SM) => (¬ (∃ j i, 1 ≤ j ∧ j ≤ m_hn σ ∧ m_lv σ j = 1 ∧ x = nI j ∧ i < 2 ^ 31 ∧ y = nI i) ∧ r = nI 0 ∧ u = σ) ∨ ∃ j i, 1 ≤ j ∧ j ≤ m_hn σ ∧ m_lv σ j = 1 ∧ x = nI j ∧ i < 2 ^ 31 ∧ y = nI i ∧ ∃ D, u = mu_di σ D ∧ DOK σ 2 0 j D ∧ DCL σ 2 0 D ∧ BRO D (m_hn σ) i r) (fun u => ME (dC, dI) (yM t) (va_A (wM a t σ) sz) (wM a t u)) (va_A (wM a t σ) sz)) 0 0 (va_A (wM a t σ) sz) := by
  refine x_enter (by decide) (Nat.le_of_ble_eq_true rfl) ?_
  intro p e s m below meth c ls hx hb hr hml hT hown hlk hnm hl hB
  obtain ⟨rfl, hP, hK, hN, hD0⟩ := hB
  have hD := hD0.self (sz := s.heap.size)
  generalize hAe : va_A (wM a t σ) s.heap.size = A at hD ⊢
  have hA : ∀ q : Nat, s.heap.size ≤ q → A q := fun q h => by rw [← hAe]; exact Or.inr h
  have hS : va_S A s.heap s.heap [] := va_S.rf
  have hP : va_P (dC, dI) classes (wM a t σ) s.heap := hP
  have hl : lv_has ls 6 [(0, .ref (a 0)), (1, .int x), (2, .int y)] := hl
  have hown : s.vm.findClass R_M = some m.cls := hown
  have hG2 := hG
  obtain ⟨g_sz, g_sd, g_hn, g_kd, g_lv, g_tx, g_zs, g_ln, g_lf, g_lt, g_rn, g_lk, g_wy, g_wn, g_di, g_co⟩ := hG
  refine lv_aload_n hx hb d_M_broader_0 rfl (lv_at hl 0 rfl) ?_
  refine lv_iconst (v := nI 0) hx hb d_M_broader_1 (by decide) ?_
  refine va_put (D := (dC, dI)) (v := .int (nI 0)) (ty := .int) (C := R_M) (T := F_M) (N := 20) hx hb hT i_M ft_M ft_M_ok n_M hown hK hP hD hS 0 rfl rfl 0 (by decide) (hT _ k_M_52) (fun _ h9 => h9) rfl (by decide +kernel) rfl rfl (Nat.le_of_ble_eq_true rfl) d_M_broader_2 (fun H locs hP hD hS => ?_)
  have hP : va_P (dC, dI) classes (wM a t σ) H := hP
  have hD : va_D A (wM a t σ) := hD
  refine lv_aload_n hx hb d_M_broader_5 rfl (lv_at hl 0 rfl) ?_
  refine lv_iload_n hx hb d_M_broader_6 rfl (lv_at hl 1 rfl) ?_
  refine x_ci (x_runV ⟨hx, hb, hml, hown, hT⟩ (c_M_isLive l dC dI a t σ hG2 x) f_M_isLive k_M_91 blR (va_recv hK hP (ci := 7) (q0 := 0) rfl rfl) (x_bR hK hP hN) hl.1 d_M_broader_7 rfl (lv_room (Nat.le_of_ble_eq_true rfl)) ⟨Nat.le_of_ble_eq_true rfl, Nat.le_of_ble_eq_true rfl⟩ ⟨rfl, rfl⟩ ⟨Nat.le_refl 0, Nat.le_refl 0⟩ rfl) (fun r7 q7 => ?_)
  rcases q7 with ⟨rfl, jj, hjj1, hjj2, hjj3, rfl⟩ | ⟨rfl, hnjj⟩
  · refine x_if_eq (tgt := 17) hx hb d_M_broader_10 (by decide) (fun h => absurd h (by decide)) (fun _ => ?_)
    refine lv_iload_n hx hb d_M_broader_13 rfl (lv_at hl 2 rfl) ?_
    refine lv_if_ge (tgt := 19) hx hb d_M_broader_14 (by decide) (fun c14 => ?_) (fun c14 => ?_)
    · obtain ⟨ii, hii, rfl⟩ := nI_of (show ¬ y < 0 from Int32.not_lt.mpr c14)
      refine lv_aload_n hx hb d_M_broader_19 rfl (lv_at hl 0 rfl) ?_
      refine lv_iconst (v := nI 2) hx hb d_M_broader_20 (by decide) ?_
      refine lv_iload_n hx hb d_M_broader_21 rfl (lv_at hl 1 rfl) ?_
      refine lv_iconst (v := nI 0) hx hb d_M_broader_22 (by decide) ?_
      refine x_cMv (wl := wM a t) (x_runV ⟨hx, hb, hml, hown, hT⟩ (c_M_measure l dC dI a t σ H.size hG2 hL 2 jj 0 (by omega) hjj1 hjj2 (by omega) hE) f_M_measure k_M_104 blM (va_recv hK hP (ci := 7) (q0 := 0) rfl rfl) (x_bM hK hP hN hD) hl.1 d_M_broader_23 rfl (lv_room (Nat.le_of_ble_eq_true rfl)) ⟨Nat.le_of_ble_eq_true rfl, Nat.le_of_ble_eq_true rfl⟩ ⟨rfl, rfl⟩ ⟨Nat.le_refl 0, Nat.le_refl 0⟩ rfl) hD hS hA (fun u23 H locs q23 hP hD hS => ?_)
      obtain ⟨D, rfl, hok, hcl⟩ := q23
      have hcl : DCL σ 2 0 D := hcl
      refine lv_iconst (v := nI 0) hx hb d_M_broader_26 (by decide) ?_
      refine lv_istore_n (lv' := [(3, .int (nI 0)), (0, .ref (a 0)), (1, .int (nI jj)), (2, .int (nI ii))]) hx hb d_M_broader_27 rfl hl (by decide) rfl (fun ls hl => ?_)
      refine lv_iconst (v := nI 1) hx hb d_M_broader_28 (by decide) ?_
      refine lv_istore (lv' := [(4, .int (nI 1)), (3, .int (nI 0)), (0, .ref (a 0)), (1, .int (nI jj)), (2, .int (nI ii))]) hx hb d_M_broader_29 hl (by decide) rfl (fun ls hl => ?_)
      have hloop31 : ∀ (n31 : Nat) (k : Nat) (f : Nat) (H : Heap) (locs : List Loc) (ls : Array Slot), k ≤ 60 → f = cS D (m_hn σ) k → f ≤ ii → 61 - k < n31 → va_P (dC, dI) classes (wM a t (mu_di σ (D))) H → va_D A (wM a t (mu_di σ (D))) → va_S A s.heap H locs → lv_has ls 6 [(0, .ref (a 0)), (1, .int (nI jj)), (2, .int (nI ii)), (3, .int (nI f)), (4, .int (nI (k + 1)))] → W p l e (rD 1) s m ([.ref (a 0), .int (nI jj), .int (nI ii)] : List Value).toArray below meth c H locs 0 0 (MQ below (va_Qi (fun (r : Int32) (u : SM) => (¬ (∃ j i, 1 ≤ j ∧ j ≤ m_hn σ ∧ m_lv σ j = 1 ∧ nI jj = nI j ∧ i < 2 ^ 31 ∧ nI ii = nI i) ∧ r = nI 0 ∧ u = σ) ∨ ∃ j i, 1 ≤ j ∧ j ≤ m_hn σ ∧ m_lv σ j = 1 ∧ nI jj = nI j ∧ i < 2 ^ 31 ∧ nI ii = nI i ∧ ∃ D, u = mu_di σ D ∧ DOK σ 2 0 j D ∧ DCL σ 2 0 D ∧ BRO D (m_hn σ) i r) (fun u => ME (dC, dI) (yM t) A (wM a t u)) A) ([.ref (a 0), .int (nI jj), .int (nI ii)] : List Value).toArray s 0 0 A) (F0 m 31 ls []) := by
        intro n31
        induction n31 with
        | zero => intro k f H locs ls _ _ _ h9; exact absurd h9 (Nat.not_lt_zero _)
        | succ n31 ih31 =>
          intro k f H locs ls hk hf hf2 hmu31 hP hD hS hl
          refine lv_iload hx hb d_M_broader_31 (lv_at hl 4 rfl) ?_
          refine lv_bipush (v := nI 61) hx hb d_M_broader_33 (by decide) ?_
          refine x_icmp_ge (tgt := 85) hx hb d_M_broader_35 (by decide) (fun c35 => ?_) (fun c35 => ?_)
          · refine lv_iconst (v := nI 0) hx hb d_M_broader_85 (by decide) ?_
            exact x_mi (wl := wM a t) (mu_di σ (D)) hx hb hr hlk hK hP hD hS d_M_broader_86 (Or.inr ⟨jj, ii, hjj1, hjj2, hjj3, rfl, hii, rfl, D, rfl, hok, hcl, Or.inr ⟨by rw [show 60 = k by omega, ← hf]; exact hf2, rfl⟩⟩)
          · refine lv_iconst (v := nI 1) hx hb d_M_broader_38 (by decide) ?_
            refine lv_istore (lv' := [(5, .int (nI 1)), (0, .ref (a 0)), (1, .int (nI jj)), (2, .int (nI ii)), (3, .int (nI f)), (4, .int (nI (k + 1)))]) hx hb d_M_broader_39 hl (by decide) rfl (fun ls hl => ?_)
            have hloop41 : ∀ (n41 : Nat) (b : Nat) (e2 : Nat) (H : Heap) (locs : List Loc) (ls : Array Slot), b ≤ m_hn σ → e2 = f + cntP (lvB D (k + 1)) b → e2 ≤ ii → m_hn σ + 1 - b < n41 → va_P (dC, dI) classes (wM a t (mu_di σ (D))) H → va_D A (wM a t (mu_di σ (D))) → va_S A s.heap H locs → lv_has ls 6 [(0, .ref (a 0)), (1, .int (nI jj)), (2, .int (nI ii)), (3, .int (nI e2)), (4, .int (nI (k + 1))), (5, .int (nI (b + 1)))] → W p l e (rD 1) s m ([.ref (a 0), .int (nI jj), .int (nI ii)] : List Value).toArray below meth c H locs 0 0 (MQ below (va_Qi (fun (r : Int32) (u : SM) => (¬ (∃ j i, 1 ≤ j ∧ j ≤ m_hn σ ∧ m_lv σ j = 1 ∧ nI jj = nI j ∧ i < 2 ^ 31 ∧ nI ii = nI i) ∧ r = nI 0 ∧ u = σ) ∨ ∃ j i, 1 ≤ j ∧ j ≤ m_hn σ ∧ m_lv σ j = 1 ∧ nI jj = nI j ∧ i < 2 ^ 31 ∧ nI ii = nI i ∧ ∃ D, u = mu_di σ D ∧ DOK σ 2 0 j D ∧ DCL σ 2 0 D ∧ BRO D (m_hn σ) i r) (fun u => ME (dC, dI) (yM t) A (wM a t u)) A) ([.ref (a 0), .int (nI jj), .int (nI ii)] : List Value).toArray s 0 0 A) (F0 m 41 ls []) := by
              intro n41
              induction n41 with
              | zero => intro b e2 H locs ls _ _ _ h9; exact absurd h9 (Nat.not_lt_zero _)
              | succ n41 ih41 =>
                intro b e2 H locs ls hb2 he he2 hmu41 hP hD hS hl
                refine lv_iload hx hb d_M_broader_41 (lv_at hl 5 rfl) ?_
                refine lv_aload_n hx hb d_M_broader_43 rfl (lv_at hl 0 rfl) ?_
                refine va_get (D := (dC, dI)) (C := R_M) (T := F_M) (N := 20) hx hb hT i_M hown hK hP 0 rfl rfl 3 (by decide) (hT _ k_M_66) (fun _ h9 => h9) (v := .int (nI (m_hn σ))) rfl d_M_broader_44 ?_
                refine x_icmp_gt (tgt := 79) hx hb d_M_broader_47 (by decide) (fun c47 => ?_) (fun c47 => ?_)
                · refine x_iinc (lv' := [(4, .int (nI ((k + 1) + 1))), (0, .ref (a 0)), (1, .int (nI jj)), (2, .int (nI ii)), (3, .int (nI e2)), (5, .int (nI (b + 1)))]) hx hb d_M_broader_79 hl (k := 4) rfl (by decide) rfl (fun ls hl => ?_)
                  refine lv_goto (tgt := 31) hx hb d_M_broader_82 (by decide) ?_
                  exact ih31 (k + 1) _ H locs ls (by omega) (by simp only [cS]; rw [show m_hn σ = b by omega] at hf ⊢; omega) (by omega) (by omega) hP hD hS (lv_sub hl [1, 2, 3, 4, 0] rfl)
                · refine lv_aload_n hx hb d_M_broader_50 rfl (lv_at hl 0 rfl) ?_
                  refine va_get (D := (dC, dI)) (C := R_M) (T := F_M) (N := 20) hx hb hT i_M hown hK hP 0 rfl rfl 18 (by decide) (hT _ k_M_49) (fun _ h9 => h9) (v := .ref (a 13)) rfl d_M_broader_51 ?_
                  refine lv_iload hx hb d_M_broader_54 (lv_at hl 5 rfl) ?_
                  refine x_iald hx hb hK hP 13 12 (f := D) rfl rfl d_M_broader_56 (by omega) ?_
                  refine lv_iload hx hb d_M_broader_57 (lv_at hl 4 rfl) ?_
                  have e9 := hok.1 (b + 1)
                  refine x_icmp_ne (tgt := 73) hx hb d_M_broader_59 (by decide) (fun c59 => ?_) (fun c59 => ?_)
                  · refine x_iinc (lv' := [(5, .int (nI ((b + 1) + 1))), (0, .ref (a 0)), (1, .int (nI jj)), (2, .int (nI ii)), (3, .int (nI e2)), (4, .int (nI (k + 1)))]) hx hb d_M_broader_73 hl (k := 5) rfl (by decide) rfl (fun ls hl => ?_)
                    refine lv_goto (tgt := 41) hx hb d_M_broader_76 (by decide) ?_
                    exact ih41 (b + 1) _ H locs ls (by omega) (by first | (rw [cntP_s1 (P := lvB D (k + 1)) (by unfold lvB; exact decide_eq_true (by omega))]; omega) | (rw [cntP_s0 (P := lvB D (k + 1)) (by unfold lvB; rw [decide_eq_true_eq]; omega)]; omega)) (by omega) (by omega) hP hD hS (lv_sub hl [1, 2, 3, 4, 5, 0] rfl)
                  · refine lv_iload_n hx hb d_M_broader_62 rfl (lv_at hl 3 rfl) ?_
                    refine lv_iload_n hx hb d_M_broader_63 rfl (lv_at hl 2 rfl) ?_
                    refine x_icmp_ne (tgt := 70) hx hb d_M_broader_64 (by decide) (fun c64 => ?_) (fun c64 => ?_)
                    · refine x_iinc (lv' := [(3, .int (nI (e2 + 1))), (0, .ref (a 0)), (1, .int (nI jj)), (2, .int (nI ii)), (4, .int (nI (k + 1))), (5, .int (nI (b + 1)))]) hx hb d_M_broader_70 hl (k := 3) rfl (by decide) rfl (fun ls hl => ?_)
                      refine x_iinc (lv' := [(5, .int (nI ((b + 1) + 1))), (3, .int (nI (e2 + 1))), (0, .ref (a 0)), (1, .int (nI jj)), (2, .int (nI ii)), (4, .int (nI (k + 1)))]) hx hb d_M_broader_73 hl (k := 5) rfl (by decide) rfl (fun ls hl => ?_)
                      refine lv_goto (tgt := 41) hx hb d_M_broader_76 (by decide) ?_
                      exact ih41 (b + 1) _ H locs ls (by omega) (by first | (rw [cntP_s1 (P := lvB D (k + 1)) (by unfold lvB; exact decide_eq_true (by omega))]; omega) | (rw [cntP_s0 (P := lvB D (k + 1)) (by unfold lvB; rw [decide_eq_true_eq]; omega)]; omega)) (by omega) (by omega) hP hD hS (lv_sub hl [2, 3, 4, 1, 5, 0] rfl)
                    · refine lv_iload hx hb d_M_broader_67 (lv_at hl 5 rfl) ?_
                      exact x_mi (wl := wM a t) (mu_di σ (D)) hx hb hr hlk hK hP hD hS d_M_broader_69 (Or.inr ⟨jj, ii, hjj1, hjj2, hjj3, rfl, hii, rfl, D, rfl, hok, hcl, Or.inl ⟨k, b, by omega, by omega, by omega, by omega, rfl⟩⟩)
            exact hloop41 _ 0 f _ _ ls (by omega) rfl hf2 (Nat.lt_succ_self _) hP hD hS (lv_sub hl [1, 2, 3, 4, 5, 0] rfl)
      exact hloop31 _ 0 0 _ _ ls (by omega) rfl (by omega) (Nat.lt_succ_self _) hP hD hS (lv_sub hl [2, 3, 4, 1, 0] rfl)
    · refine lv_iconst (v := nI 0) hx hb d_M_broader_17 (by decide) ?_
      exact x_mi (wl := wM a t) σ hx hb hr hlk hK hP hD hS d_M_broader_18 (Or.inl ⟨by rintro ⟨j', i', h1, h2, h3, h4, h5, h6⟩; first | exact hnjj ⟨j', h1, h2, h3, h4⟩ | (rw [h6] at c14; exact c14 (nI_pos' h5)), rfl, rfl⟩)
  · refine x_if_eq (tgt := 17) hx hb d_M_broader_10 (by decide) (fun _ => ?_) (fun h => absurd h (by decide))
    refine lv_iconst (v := nI 0) hx hb d_M_broader_17 (by decide) ?_
    exact x_mi (wl := wM a t) σ hx hb hr hlk hK hP hD hS d_M_broader_18 (Or.inl ⟨by rintro ⟨j', i', h1, h2, h3, h4, h5, h6⟩; first | exact hnjj ⟨j', h1, h2, h3, h4⟩ | (rw [h6] at c14; exact c14 (nI_pos' h5)), rfl, rfl⟩)

