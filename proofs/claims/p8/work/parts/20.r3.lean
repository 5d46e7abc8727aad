set_option maxRecDepth 100000 in
set_option maxHeartbeats 4000000 in
theorem c_M_letter (l : Launch) (dC : Nat → ClassId) (dI : Nat → Nat → Nat) (a : Nat → Nat) (t : Nat → ClassId) (σ : SM) (sz : Nat) (hG : GM σ) (x y : Int32) : Met l y_M_letter (wS y_M_letter b_M_letter 3 (some .int)) (rD 0) (va_Pc [.ref (a 0), .int x, .int y] (MB (dC, dI) (yM t) (wM a t σ) sz)) (va_Qi (fun (r : Int32) (u : SM) => u = σ ∧ ((∃ j i, 1 ≤ j ∧ j ≤ m_hn σ ∧ i < m_zs σ j ∧ x = nI j ∧ y = nI i ∧ r = nI (m_tx σ (20 * j + i))) ∨ ((¬ ∃ j i, 1 ≤ j ∧ j ≤ m_hn σ ∧ i < m_zs σ j ∧ x = nI j ∧ y = nI i) ∧ r = -1))) (fun u => ME (dC, dI) (yM t) (va_A (wM a t σ) sz) (wM a t u)) (va_A (wM a t σ) sz)) 0 0 (va_A (wM a t σ) sz) := by
  refine x_enter (by decide) (Nat.le_of_ble_eq_true rfl) ?_
  intro p e s m below meth c ls hx hb hr hml hT hown hlk hnm hl hB
  obtain ⟨rfl, hP, hK, hN, hD0⟩ := hB
  have hD := hD0.self (sz := s.heap.size)
  generalize hAe : va_A (wM a t σ) s.heap.size = A at hD ⊢
  have hA : ∀ q : Nat, s.heap.size ≤ q → A q := fun q h => by rw [← hAe]; exact Or.inr h
  have hS : va_S A s.heap s.heap [] := va_S.rf
  have hP : va_P (dC, dI) classes (wM a t σ) s.heap := hP
  have hl : lv_has ls 3 [(0, .ref (a 0)), (1, .int x), (2, .int y)] := hl
  have hown : s.vm.findClass R_M = some m.cls := hown
  have hG2 := hG
  obtain ⟨g_sz, g_sd, g_hn, g_kd, g_lv, g_tx, g_zs, g_ln, g_lf, g_lt, g_rn, g_lk, g_wy, g_wn, g_di, g_co⟩ := hG
  refine lv_aload_n hx hb d_M_letter_0 rfl (lv_at hl 0 rfl) ?_
  refine lv_iconst (v := nI 0) hx hb d_M_letter_1 (by decide) ?_
  refine va_put (D := (dC, dI)) (v := .int (nI 0)) (ty := .int) (C := R_M) (T := F_M) (N := 20) hx hb hT i_M ft_M ft_M_ok n_M hown hK hP hD hS 0 rfl rfl 0 (by decide) (hT _ k_M_52) (fun _ h9 => h9) rfl (by decide +kernel) rfl rfl (Nat.le_of_ble_eq_true rfl) d_M_letter_2 (fun H locs hP hD hS => ?_)
  have hP : va_P (dC, dI) classes (wM a t σ) H := hP
  have hD : va_D A (wM a t σ) := hD
  refine lv_iload_n hx hb d_M_letter_5 rfl (lv_at hl 1 rfl) ?_
  refine lv_iconst (v := nI 1) hx hb d_M_letter_6 (by decide) ?_
  refine lv_icmp_lt (tgt := 32) hx hb d_M_letter_7 (by decide) (fun c7 => ?_) (fun c7 => ?_)
  · refine lv_iconst (v := -1) hx hb d_M_letter_32 (by decide) ?_
    refine lv_goto (tgt := 47) hx hb d_M_letter_33 (by decide) ?_
    exact x_mi (wl := wM a t) σ hx hb hr hlk hK hP hD hS d_M_letter_47 ⟨rfl, Or.inr ⟨by rintro ⟨j', i', h1, h2, h3, h4, h5⟩; first | exact x_there1 (n := m_hn σ) (by omega) c7 ⟨j', h1, h2, h4⟩ | exact x_there2 (n := m_hn σ) (by omega) c15 ⟨j', h1, h2, h4⟩ | (have g9 := g_zs j'; rw [h5] at c19; exact absurd c19 (nI_pos (by omega))) | (have h6 := (nI_eq (by omega) (by omega)).mp h4; subst h6; have g9 := g_zs j; have h7 := (nI_eq (by omega) (by omega)).mp h5; omega), rfl⟩⟩
  · refine lv_iload_n hx hb d_M_letter_10 rfl (lv_at hl 1 rfl) ?_
    refine lv_aload_n hx hb d_M_letter_11 rfl (lv_at hl 0 rfl) ?_
    refine va_get (D := (dC, dI)) (C := R_M) (T := F_M) (N := 20) hx hb hT i_M hown hK hP 0 rfl rfl 3 (by decide) (hT _ k_M_66) (fun _ h9 => h9) (v := .int (nI (m_hn σ))) rfl d_M_letter_12 ?_
    refine lv_icmp_gt (tgt := 32) hx hb d_M_letter_15 (by decide) (fun c15 => ?_) (fun c15 => ?_)
    · refine lv_iconst (v := -1) hx hb d_M_letter_32 (by decide) ?_
      refine lv_goto (tgt := 47) hx hb d_M_letter_33 (by decide) ?_
      exact x_mi (wl := wM a t) σ hx hb hr hlk hK hP hD hS d_M_letter_47 ⟨rfl, Or.inr ⟨by rintro ⟨j', i', h1, h2, h3, h4, h5⟩; first | exact x_there1 (n := m_hn σ) (by omega) c7 ⟨j', h1, h2, h4⟩ | exact x_there2 (n := m_hn σ) (by omega) c15 ⟨j', h1, h2, h4⟩ | (have g9 := g_zs j'; rw [h5] at c19; exact absurd c19 (nI_pos (by omega))) | (have h6 := (nI_eq (by omega) (by omega)).mp h4; subst h6; have g9 := g_zs j; have h7 := (nI_eq (by omega) (by omega)).mp h5; omega), rfl⟩⟩
    · obtain ⟨j, hj1, hj2, rfl⟩ := x_there (by omega) c7 c15
      have g1 := g_zs j
      refine lv_iload_n hx hb d_M_letter_18 rfl (lv_at hl 2 rfl) ?_
      refine lv_if_lt (tgt := 32) hx hb d_M_letter_19 (by decide) (fun c19 => ?_) (fun c19 => ?_)
      · refine lv_iconst (v := -1) hx hb d_M_letter_32 (by decide) ?_
        refine lv_goto (tgt := 47) hx hb d_M_letter_33 (by decide) ?_
        exact x_mi (wl := wM a t) σ hx hb hr hlk hK hP hD hS d_M_letter_47 ⟨rfl, Or.inr ⟨by rintro ⟨j', i', h1, h2, h3, h4, h5⟩; first | exact x_there1 (n := m_hn σ) (by omega) c7 ⟨j', h1, h2, h4⟩ | exact x_there2 (n := m_hn σ) (by omega) c15 ⟨j', h1, h2, h4⟩ | (have g9 := g_zs j'; rw [h5] at c19; exact absurd c19 (nI_pos (by omega))) | (have h6 := (nI_eq (by omega) (by omega)).mp h4; subst h6; have g9 := g_zs j; have h7 := (nI_eq (by omega) (by omega)).mp h5; omega), rfl⟩⟩
      · obtain ⟨i, hi, rfl⟩ := nI_of c19
        refine lv_iload_n hx hb d_M_letter_22 rfl (lv_at hl 2 rfl) ?_
        refine lv_aload_n hx hb d_M_letter_23 rfl (lv_at hl 0 rfl) ?_
        refine va_get (D := (dC, dI)) (C := R_M) (T := F_M) (N := 20) hx hb hT i_M hown hK hP 0 rfl rfl 7 (by decide) (hT _ k_M_24) (fun _ h9 => h9) (v := .ref (a 5)) rfl d_M_letter_24 ?_
        refine lv_iload_n hx hb d_M_letter_27 rfl (lv_at hl 1 rfl) ?_
        refine x_iald hx hb hK hP 5 4 (f := (m_zs σ)) rfl rfl d_M_letter_28 (by omega) ?_
        refine x_icmp_lt (tgt := 36) hx hb d_M_letter_29 (by decide) (fun c29 => ?_) (fun c29 => ?_)
        · refine lv_aload_n hx hb d_M_letter_36 rfl (lv_at hl 0 rfl) ?_
          refine va_get (D := (dC, dI)) (C := R_M) (T := F_M) (N := 20) hx hb hT i_M hown hK hP 0 rfl rfl 6 (by decide) (hT _ k_M_21) (fun _ h9 => h9) (v := .ref (a 4)) rfl d_M_letter_37 ?_
          refine lv_bipush (v := nI 20) hx hb d_M_letter_40 (by decide) ?_
          refine lv_iload_n hx hb d_M_letter_42 rfl (lv_at hl 1 rfl) ?_
          refine x_imul hx hb d_M_letter_43 ?_
          refine lv_iload_n hx hb d_M_letter_44 rfl (lv_at hl 2 rfl) ?_
          refine x_iadd hx hb d_M_letter_45 ?_
          refine x_bald hx hb hK hP 4 3 (f := (m_tx σ)) rfl rfl d_M_letter_46 (by omega) ?_
          exact x_mi (wl := wM a t) σ hx hb hr hlk hK hP hD hS d_M_letter_47 ⟨rfl, Or.inl ⟨j, i, hj1, hj2, by omega, rfl, rfl, rfl⟩⟩
        · refine lv_iconst (v := -1) hx hb d_M_letter_32 (by decide) ?_
          refine lv_goto (tgt := 47) hx hb d_M_letter_33 (by decide) ?_
          exact x_mi (wl := wM a t) σ hx hb hr hlk hK hP hD hS d_M_letter_47 ⟨rfl, Or.inr ⟨by rintro ⟨j', i', h1, h2, h3, h4, h5⟩; first | exact x_there1 (n := m_hn σ) (by omega) c7 ⟨j', h1, h2, h4⟩ | exact x_there2 (n := m_hn σ) (by omega) c15 ⟨j', h1, h2, h4⟩ | (have g9 := g_zs j'; rw [h5] at c19; exact absurd c19 (nI_pos (by omega))) | (have h6 := (nI_eq (by omega) (by omega)).mp h4; subst h6; have g9 := g_zs j; have h7 := (nI_eq (by omega) (by omega)).mp h5; omega), rfl⟩⟩

set_option maxRecDepth 100000 in
set_option maxHeartbeats 4000000 in
theorem c_M_ring (l : Launch) (dC : Nat → ClassId) (dI : Nat → Nat → Nat) (a : Nat → Nat) (t : Nat → ClassId) (σ : SM) (sz : Nat) (hG : GM σ) (x : Int32) : Met l y_M_ring (wS y_M_ring b_M_ring 2 (some .int)) (rD 0) (va_Pc [.ref (a 0), .int x] (MB (dC, dI) (yM t) (wM a t σ) sz)) (va_Qi (fun (r : Int32) (u : SM) => u = σ ∧ ((∃ i, i < m_wn σ ∧ x = nI i ∧ r = nI (m_wy σ i)) ∨ ((¬ ∃ i, i < m_wn σ ∧ x = nI i) ∧ r = nI 0))) (fun u => ME (dC, dI) (yM t) (va_A (wM a t σ) sz) (wM a t u)) (va_A (wM a t σ) sz)) 0 0 (va_A (wM a t σ) sz) := by
  refine x_enter (by decide) (Nat.le_of_ble_eq_true rfl) ?_
  intro p e s m below meth c ls hx hb hr hml hT hown hlk hnm hl hB
  obtain ⟨rfl, hP, hK, hN, hD0⟩ := hB
  have hD := hD0.self (sz := s.heap.size)
  generalize hAe : va_A (wM a t σ) s.heap.size = A at hD ⊢
  have hA : ∀ q : Nat, s.heap.size ≤ q → A q := fun q h => by rw [← hAe]; exact Or.inr h
  have hS : va_S A s.heap s.heap [] := va_S.rf
  have hP : va_P (dC, dI) classes (wM a t σ) s.heap := hP
  have hl : lv_has ls 2 [(0, .ref (a 0)), (1, .int x)] := hl
  have hown : s.vm.findClass R_M = some m.cls := hown
  have hG2 := hG
  obtain ⟨g_sz, g_sd, g_hn, g_kd, g_lv, g_tx, g_zs, g_ln, g_lf, g_lt, g_rn, g_lk, g_wy, g_wn, g_di, g_co⟩ := hG
  refine lv_aload_n hx hb d_M_ring_0 rfl (lv_at hl 0 rfl) ?_
  refine lv_iconst (v := nI 0) hx hb d_M_ring_1 (by decide) ?_
  refine va_put (D := (dC, dI)) (v := .int (nI 0)) (ty := .int) (C := R_M) (T := F_M) (N := 20) hx hb hT i_M ft_M ft_M_ok n_M hown hK hP hD hS 0 rfl rfl 0 (by decide) (hT _ k_M_52) (fun _ h9 => h9) rfl (by decide +kernel) rfl rfl (Nat.le_of_ble_eq_true rfl) d_M_ring_2 (fun H locs hP hD hS => ?_)
  have hP : va_P (dC, dI) classes (wM a t σ) H := hP
  have hD : va_D A (wM a t σ) := hD
  refine lv_iload_n hx hb d_M_ring_5 rfl (lv_at hl 1 rfl) ?_
  refine lv_if_lt (tgt := 17) hx hb d_M_ring_6 (by decide) (fun c6 => ?_) (fun c6 => ?_)
  · refine lv_iconst (v := nI 0) hx hb d_M_ring_17 (by decide) ?_
    refine lv_goto (tgt := 27) hx hb d_M_ring_18 (by decide) ?_
    exact x_mi (wl := wM a t) σ hx hb hr hlk hK hP hD hS d_M_ring_27 ⟨rfl, Or.inr ⟨by rintro ⟨i', h1, h2⟩; first | (rw [h2] at c6; exact absurd c6 (nI_pos (by omega))) | (have h3 := (nI_eq (by omega) (by omega)).mp h2; omega), rfl⟩⟩
  · obtain ⟨i, hi, rfl⟩ := nI_of c6
    refine lv_iload_n hx hb d_M_ring_9 rfl (lv_at hl 1 rfl) ?_
    refine lv_aload_n hx hb d_M_ring_10 rfl (lv_at hl 0 rfl) ?_
    refine va_get (D := (dC, dI)) (C := R_M) (T := F_M) (N := 20) hx hb hT i_M hown hK hP 0 rfl rfl 17 (by decide) (hT _ k_M_108) (fun _ h9 => h9) (v := .int (nI (m_wn σ))) rfl d_M_ring_11 ?_
    refine x_icmp_lt (tgt := 21) hx hb d_M_ring_14 (by decide) (fun c14 => ?_) (fun c14 => ?_)
    · refine lv_aload_n hx hb d_M_ring_21 rfl (lv_at hl 0 rfl) ?_
      refine va_get (D := (dC, dI)) (C := R_M) (T := F_M) (N := 20) hx hb hT i_M hown hK hP 0 rfl rfl 16 (by decide) (hT _ k_M_46) (fun _ h9 => h9) (v := .ref (a 12)) rfl d_M_ring_22 ?_
      refine lv_iload_n hx hb d_M_ring_25 rfl (lv_at hl 1 rfl) ?_
      refine x_iald hx hb hK hP 12 11 (f := (m_wy σ)) rfl rfl d_M_ring_26 (by omega) ?_
      exact x_mi (wl := wM a t) σ hx hb hr hlk hK hP hD hS d_M_ring_27 ⟨rfl, Or.inl ⟨i, by omega, rfl, rfl⟩⟩
    · refine lv_iconst (v := nI 0) hx hb d_M_ring_17 (by decide) ?_
      refine lv_goto (tgt := 27) hx hb d_M_ring_18 (by decide) ?_
      exact x_mi (wl := wM a t) σ hx hb hr hlk hK hP hD hS d_M_ring_27 ⟨rfl, Or.inr ⟨by rintro ⟨i', h1, h2⟩; first | (rw [h2] at c6; exact absurd c6 (nI_pos (by omega))) | (have h3 := (nI_eq (by omega) (by omega)).mp h2; omega), rfl⟩⟩

set_option maxRecDepth 100000 in
set_option maxHeartbeats 4000000 in
theorem c_M_linked (l : Launch) (dC : Nat → ClassId) (dI : Nat → Nat → Nat) (a : Nat → Nat) (t : Nat → ClassId) (σ : SM) (sz : Nat) (hG : GM σ) (x : Int32) : Met l y_M_linked (wS y_M_linked b_M_linked 2 (some .int)) (rD 0) (va_Pc [.ref (a 0), .int x] (MB (dC, dI) (yM t) (wM a t σ) sz)) (va_Qi (fun (r : Int32) (u : SM) => u = σ ∧ ((∃ j, 1 ≤ j ∧ j ≤ m_rn σ ∧ x = nI j ∧ r = nI (m_lk σ j)) ∨ ((¬ ∃ j, 1 ≤ j ∧ j ≤ m_rn σ ∧ x = nI j) ∧ r = nI 0))) (fun u => ME (dC, dI) (yM t) (va_A (wM a t σ) sz) (wM a t u)) (va_A (wM a t σ) sz)) 0 0 (va_A (wM a t σ) sz) := by
  refine x_enter (by decide) (Nat.le_of_ble_eq_true rfl) ?_
  intro p e s m below meth c ls hx hb hr hml hT hown hlk hnm hl hB
  obtain ⟨rfl, hP, hK, hN, hD0⟩ := hB
  have hD := hD0.self (sz := s.heap.size)
  generalize hAe : va_A (wM a t σ) s.heap.size = A at hD ⊢
  have hA : ∀ q : Nat, s.heap.size ≤ q → A q := fun q h => by rw [← hAe]; exact Or.inr h
  have hS : va_S A s.heap s.heap [] := va_S.rf
  have hP : va_P (dC, dI) classes (wM a t σ) s.heap := hP
  have hl : lv_has ls 2 [(0, .ref (a 0)), (1, .int x)] := hl
  have hown : s.vm.findClass R_M = some m.cls := hown
  have hG2 := hG
  obtain ⟨g_sz, g_sd, g_hn, g_kd, g_lv, g_tx, g_zs, g_ln, g_lf, g_lt, g_rn, g_lk, g_wy, g_wn, g_di, g_co⟩ := hG
  refine lv_aload_n hx hb d_M_linked_0 rfl (lv_at hl 0 rfl) ?_
  refine lv_iconst (v := nI 0) hx hb d_M_linked_1 (by decide) ?_
  refine va_put (D := (dC, dI)) (v := .int (nI 0)) (ty := .int) (C := R_M) (T := F_M) (N := 20) hx hb hT i_M ft_M ft_M_ok n_M hown hK hP hD hS 0 rfl rfl 0 (by decide) (hT _ k_M_52) (fun _ h9 => h9) rfl (by decide +kernel) rfl rfl (Nat.le_of_ble_eq_true rfl) d_M_linked_2 (fun H locs hP hD hS => ?_)
  have hP : va_P (dC, dI) classes (wM a t σ) H := hP
  have hD : va_D A (wM a t σ) := hD
  refine lv_iload_n hx hb d_M_linked_5 rfl (lv_at hl 1 rfl) ?_
  refine lv_if_le (tgt := 26) hx hb d_M_linked_6 (by decide) (fun c6 => ?_) (fun c6 => ?_)
  · refine lv_iconst (v := nI 0) hx hb d_M_linked_26 (by decide) ?_
    exact x_mi (wl := wM a t) σ hx hb hr hlk hK hP hD hS d_M_linked_27 ⟨rfl, Or.inr ⟨by first | exact le0_no (by omega) c6 | exact x_there2 (by omega) c14, rfl⟩⟩
  · refine lv_iload_n hx hb d_M_linked_9 rfl (lv_at hl 1 rfl) ?_
    refine lv_aload_n hx hb d_M_linked_10 rfl (lv_at hl 0 rfl) ?_
    refine va_get (D := (dC, dI)) (C := R_M) (T := F_M) (N := 20) hx hb hT i_M hown hK hP 0 rfl rfl 13 (by decide) (hT _ k_M_88) (fun _ h9 => h9) (v := .int (nI (m_rn σ))) rfl d_M_linked_11 ?_
    refine lv_icmp_gt (tgt := 26) hx hb d_M_linked_14 (by decide) (fun c14 => ?_) (fun c14 => ?_)
    · refine lv_iconst (v := nI 0) hx hb d_M_linked_26 (by decide) ?_
      exact x_mi (wl := wM a t) σ hx hb hr hlk hK hP hD hS d_M_linked_27 ⟨rfl, Or.inr ⟨by first | exact le0_no (by omega) c6 | exact x_there2 (by omega) c14, rfl⟩⟩
    · obtain ⟨j, hj1, hj2, rfl⟩ := x_there (by omega) (fun h9 => c6 (lt1_le h9)) c14
      refine lv_aload_n hx hb d_M_linked_17 rfl (lv_at hl 0 rfl) ?_
      refine va_get (D := (dC, dI)) (C := R_M) (T := F_M) (N := 20) hx hb hT i_M hown hK hP 0 rfl rfl 14 (by decide) (hT _ k_M_40) (fun _ h9 => h9) (v := .ref (a 10)) rfl d_M_linked_18 ?_
      refine lv_iload_n hx hb d_M_linked_21 rfl (lv_at hl 1 rfl) ?_
      refine x_iald hx hb hK hP 10 9 (f := (m_lk σ)) rfl rfl d_M_linked_22 (by omega) ?_
      refine lv_goto (tgt := 27) hx hb d_M_linked_23 (by decide) ?_
      exact x_mi (wl := wM a t) σ hx hb hr hlk hK hP hD hS d_M_linked_27 ⟨rfl, Or.inl ⟨j, hj1, hj2, rfl, rfl⟩⟩

/-- every link's sort is one -/
def GL (σ : SM) : Prop := ∀ j, j < m_ln σ → m_ls σ j < 4
def isL (σ : SM) (i q f h : Nat) : Prop := m_ls σ i = q ∧ (f = 0 ∨ m_lf σ i = f) ∧ (h = 0 ∨ m_lt σ i = h)
set_option maxRecDepth 100000 in
set_option maxHeartbeats 4000000 in
theorem c_M_is (l : Launch) (dC : Nat → ClassId) (dI : Nat → Nat → Nat) (a : Nat → Nat) (t : Nat → ClassId) (σ : SM) (hG : GM σ) (hL : GL σ) (i q f h : Nat) (hi : i < m_ln σ) (hq : q < 4) (hf : f ≤ 60) (hh : h ≤ 60) : Met l y_M_is (wS y_M_is b_M_is 5 (some .boolean)) (rD 0) (va_Pc [.ref (a 0), .int (nI i), .int (nI q), .int (nI f), .int (nI h)] (RB (dC, dI) (yM t) (wM a t σ))) (vp_Si (fun r => BR r (isL σ i q f h))) 0 0 (fun _ => False) := by
  refine x_enter (by decide) (Nat.le_of_ble_eq_true rfl) ?_
  intro p e s m below meth c ls hx hb hr hml hT hown hlk hnm hl hB
  obtain ⟨hP, hK, hN⟩ := hB
  have hl : lv_has ls 5 [(0, .ref (a 0)), (1, .int (nI i)), (2, .int (nI q)), (3, .int (nI f)), (4, .int (nI h))] := hl
  have hown : s.vm.findClass R_M = some m.cls := hown
  have hG2 := hG
  obtain ⟨g_sz, g_sd, g_hn, g_kd, g_lv, g_tx, g_zs, g_ln, g_lf, g_lt, g_rn, g_lk, g_wy, g_wn, g_di, g_co⟩ := hG
  have e1 := hL i hi
  have e2 := g_lf i
  have e3 := g_lt i
  refine lv_aload_n hx hb d_M_is_0 rfl (lv_at hl 0 rfl) ?_
  refine va_get (D := (dC, dI)) (C := R_M) (T := F_M) (N := 20) hx hb hT i_M hown hK hP 0 rfl rfl 9 (by decide) (hT _ k_M_27) (fun _ h9 => h9) (v := .ref (a 6)) rfl d_M_is_1 ?_
  refine lv_iload_n hx hb d_M_is_4 rfl (lv_at hl 1 rfl) ?_
  refine x_iald hx hb hK hP 6 5 (f := (m_ls σ)) rfl rfl d_M_is_5 (by omega) ?_
  refine lv_iload_n hx hb d_M_is_6 rfl (lv_at hl 2 rfl) ?_
  refine x_icmp_ne (tgt := 44) hx hb d_M_is_7 (by decide) (fun c7 => ?_) (fun c7 => ?_)
  · refine lv_iconst (v := nI 0) hx hb d_M_is_44 (by decide) ?_
    exact x_rz hx hb hr hlk d_M_is_45 rfl (Or.inr ⟨rfl, by unfold isL; omega⟩)
  · refine lv_iload_n hx hb d_M_is_10 rfl (lv_at hl 3 rfl) ?_
    refine x_if_eq (tgt := 24) hx hb d_M_is_11 (by decide) (fun c11 => ?_) (fun c11 => ?_)
    · refine lv_iload hx hb d_M_is_24 (lv_at hl 4 rfl) ?_
      refine x_if_eq (tgt := 40) hx hb d_M_is_26 (by decide) (fun c26 => ?_) (fun c26 => ?_)
      · refine lv_iconst (v := nI 1) hx hb d_M_is_40 (by decide) ?_
        refine lv_goto (tgt := 45) hx hb d_M_is_41 (by decide) ?_
        exact x_rz hx hb hr hlk d_M_is_45 rfl (Or.inl ⟨rfl, by unfold isL; omega⟩)
      · refine lv_aload_n hx hb d_M_is_29 rfl (lv_at hl 0 rfl) ?_
        refine va_get (D := (dC, dI)) (C := R_M) (T := F_M) (N := 20) hx hb hT i_M hown hK hP 0 rfl rfl 11 (by decide) (hT _ k_M_33) (fun _ h9 => h9) (v := .ref (a 8)) rfl d_M_is_30 ?_
        refine lv_iload_n hx hb d_M_is_33 rfl (lv_at hl 1 rfl) ?_
        refine x_iald hx hb hK hP 8 7 (f := (m_lt σ)) rfl rfl d_M_is_34 (by omega) ?_
        refine lv_iload hx hb d_M_is_35 (lv_at hl 4 rfl) ?_
        refine x_icmp_ne (tgt := 44) hx hb d_M_is_37 (by decide) (fun c37 => ?_) (fun c37 => ?_)
        · refine lv_iconst (v := nI 0) hx hb d_M_is_44 (by decide) ?_
          exact x_rz hx hb hr hlk d_M_is_45 rfl (Or.inr ⟨rfl, by unfold isL; omega⟩)
        · refine lv_iconst (v := nI 1) hx hb d_M_is_40 (by decide) ?_
          refine lv_goto (tgt := 45) hx hb d_M_is_41 (by decide) ?_
          exact x_rz hx hb hr hlk d_M_is_45 rfl (Or.inl ⟨rfl, by unfold isL; omega⟩)
    · refine lv_aload_n hx hb d_M_is_14 rfl (lv_at hl 0 rfl) ?_
      refine va_get (D := (dC, dI)) (C := R_M) (T := F_M) (N := 20) hx hb hT i_M hown hK hP 0 rfl rfl 10 (by decide) (hT _ k_M_30) (fun _ h9 => h9) (v := .ref (a 7)) rfl d_M_is_15 ?_
      refine lv_iload_n hx hb d_M_is_18 rfl (lv_at hl 1 rfl) ?_
      refine x_iald hx hb hK hP 7 6 (f := (m_lf σ)) rfl rfl d_M_is_19 (by omega) ?_
      refine lv_iload_n hx hb d_M_is_20 rfl (lv_at hl 3 rfl) ?_
      refine x_icmp_ne (tgt := 44) hx hb d_M_is_21 (by decide) (fun c21 => ?_) (fun c21 => ?_)
      · refine lv_iconst (v := nI 0) hx hb d_M_is_44 (by decide) ?_
        exact x_rz hx hb hr hlk d_M_is_45 rfl (Or.inr ⟨rfl, by unfold isL; omega⟩)
      · refine lv_iload hx hb d_M_is_24 (lv_at hl 4 rfl) ?_
        refine x_if_eq (tgt := 40) hx hb d_M_is_26 (by decide) (fun c26 => ?_) (fun c26 => ?_)
        · refine lv_iconst (v := nI 1) hx hb d_M_is_40 (by decide) ?_
          refine lv_goto (tgt := 45) hx hb d_M_is_41 (by decide) ?_
          exact x_rz hx hb hr hlk d_M_is_45 rfl (Or.inl ⟨rfl, by unfold isL; omega⟩)
        · refine lv_aload_n hx hb d_M_is_29 rfl (lv_at hl 0 rfl) ?_
          refine va_get (D := (dC, dI)) (C := R_M) (T := F_M) (N := 20) hx hb hT i_M hown hK hP 0 rfl rfl 11 (by decide) (hT _ k_M_33) (fun _ h9 => h9) (v := .ref (a 8)) rfl d_M_is_30 ?_
          refine lv_iload_n hx hb d_M_is_33 rfl (lv_at hl 1 rfl) ?_
          refine x_iald hx hb hK hP 8 7 (f := (m_lt σ)) rfl rfl d_M_is_34 (by omega) ?_
          refine lv_iload hx hb d_M_is_35 (lv_at hl 4 rfl) ?_
          refine x_icmp_ne (tgt := 44) hx hb d_M_is_37 (by decide) (fun c37 => ?_) (fun c37 => ?_)
          · refine lv_iconst (v := nI 0) hx hb d_M_is_44 (by decide) ?_
            exact x_rz hx hb hr hlk d_M_is_45 rfl (Or.inr ⟨rfl, by unfold isL; omega⟩)
          · refine lv_iconst (v := nI 1) hx hb d_M_is_40 (by decide) ?_
            refine lv_goto (tgt := 45) hx hb d_M_is_41 (by decide) ?_
            exact x_rz hx hb hr hlk d_M_is_45 rfl (Or.inl ⟨rfl, by unfold isL; omega⟩)

set_option maxRecDepth 100000 in
set_option maxHeartbeats 4000000 in
theorem c_M_has (l : Launch) (dC : Nat → ClassId) (dI : Nat → Nat → Nat) (a : Nat → Nat) (t : Nat → ClassId) (σ : SM) (hG : GM σ) (hL : GL σ) (q f h : Nat) (hq : q < 4) (hf : f ≤ 60) (hh : h ≤ 60) : Met l y_M_has (wS y_M_has b_M_has 6 (some .boolean)) (rD 1) (va_Pc [.ref (a 0), .int (nI q), .int (nI f), .int (nI h)] (RB (dC, dI) (yM t) (wM a t σ))) (vp_Si (fun r => BR r (∃ i, i < m_ln σ ∧ isL σ i q f h))) 0 0 (fun _ => False) := by
  refine x_enter (by decide) (Nat.le_of_ble_eq_true rfl) ?_
  intro p e s m below meth c ls hx hb hr hml hT hown hlk hnm hl hB
  obtain ⟨hP, hK, hN⟩ := hB
  have hl : lv_has ls 6 [(0, .ref (a 0)), (1, .int (nI q)), (2, .int (nI f)), (3, .int (nI h))] := hl
  have hown : s.vm.findClass R_M = some m.cls := hown
  have hG2 := hG
  obtain ⟨g_sz, g_sd, g_hn, g_kd, g_lv, g_tx, g_zs, g_ln, g_lf, g_lt, g_rn, g_lk, g_wy, g_wn, g_di, g_co⟩ := hG
  refine lv_iconst (v := nI 0) hx hb d_M_has_0 (by decide) ?_
  refine lv_istore (lv' := [(4, .int (nI 0)), (0, .ref (a 0)), (1, .int (nI q)), (2, .int (nI f)), (3, .int (nI h))]) hx hb d_M_has_1 hl (by decide) rfl (fun ls hl => ?_)
  refine lv_iconst (v := nI 0) hx hb d_M_has_3 (by decide) ?_
  refine lv_istore (lv' := [(5, .int (nI 0)), (4, .int (nI 0)), (0, .ref (a 0)), (1, .int (nI q)), (2, .int (nI f)), (3, .int (nI h))]) hx hb d_M_has_4 hl (by decide) rfl (fun ls hl => ?_)
  have hloop6 : ∀ (n6 : Nat) (k : Nat) (y : Int32) (ls : Array Slot), k ≤ m_ln σ → ((y = nI 1 ∧ ∃ i, i < k ∧ isL σ i q f h) ∨ (y = nI 0 ∧ ∀ i, i < k → ¬ isL σ i q f h)) → m_ln σ + 1 - k < n6 → lv_has ls 6 [(0, .ref (a 0)), (1, .int (nI q)), (2, .int (nI f)), (3, .int (nI h)), (4, .int y), (5, .int (nI k))] → W p l e (rD 1) s m ([.ref (a 0), .int (nI q), .int (nI f), .int (nI h)] : List Value).toArray below meth c s.heap [] 0 0 (MQ below (vp_Si (fun r => BR r (∃ i, i < m_ln σ ∧ isL σ i q f h))) ([.ref (a 0), .int (nI q), .int (nI f), .int (nI h)] : List Value).toArray s 0 0 (fun _ => False)) (F0 m 6 ls []) := by
    intro n6
    induction n6 with
    | zero => intro k y ls _ _ h9; exact absurd h9 (Nat.not_lt_zero _)
    | succ n6 ih6 =>
      intro k y ls hk hy hmu6 hl
      rcases hy with ⟨rfl, hex⟩ | ⟨rfl, hno⟩
      · refine lv_iload hx hb d_M_has_6 (lv_at hl 5 rfl) ?_
        refine lv_aload_n hx hb d_M_has_8 rfl (lv_at hl 0 rfl) ?_
        refine va_get (D := (dC, dI)) (C := R_M) (T := F_M) (N := 20) hx hb hT i_M hown hK hP 0 rfl rfl 8 (by decide) (hT _ k_M_97) (fun _ h9 => h9) (v := .int (nI (m_ln σ))) rfl d_M_has_9 ?_
        refine x_icmp_ge (tgt := 45) hx hb d_M_has_12 (by decide) (fun c12 => ?_) (fun c12 => ?_)
        · refine lv_iload hx hb d_M_has_45 (lv_at hl 4 rfl) ?_
          exact x_rz hx hb hr hlk d_M_has_47 rfl (Or.inl ⟨rfl, by obtain ⟨i, h1, h2⟩ := hex; exact ⟨i, by omega, h2⟩⟩)
        · refine lv_iload hx hb d_M_has_15 (lv_at hl 4 rfl) ?_
          refine x_if_ne (tgt := 32) hx hb d_M_has_17 (by decide) (fun _ => ?_) (fun h => absurd h (by decide))
          refine lv_iconst (v := nI 1) hx hb d_M_has_32 (by decide) ?_
          refine lv_goto (tgt := 37) hx hb d_M_has_33 (by decide) ?_
          refine lv_istore (lv' := [(4, .int (nI 1)), (0, .ref (a 0)), (1, .int (nI q)), (2, .int (nI f)), (3, .int (nI h)), (5, .int (nI k))]) hx hb d_M_has_37 hl (by decide) rfl (fun ls hl => ?_)
          refine x_iinc (lv' := [(5, .int (nI (k + 1))), (4, .int (nI 1)), (0, .ref (a 0)), (1, .int (nI q)), (2, .int (nI f)), (3, .int (nI h))]) hx hb d_M_has_39 hl (k := 5) rfl (by decide) rfl (fun ls hl => ?_)
          refine lv_goto (tgt := 6) hx hb d_M_has_42 (by decide) ?_
          exact ih6 (k + 1) _ ls (by omega) (Or.inl ⟨rfl, by first | (obtain ⟨i, h1, h2⟩ := hex; exact ⟨i, by omega, h2⟩) | exact ⟨k, by omega, hqq⟩⟩) (by omega) (lv_sub hl [2, 3, 4, 5, 1, 0] rfl)
      · refine lv_iload hx hb d_M_has_6 (lv_at hl 5 rfl) ?_
        refine lv_aload_n hx hb d_M_has_8 rfl (lv_at hl 0 rfl) ?_
        refine va_get (D := (dC, dI)) (C := R_M) (T := F_M) (N := 20) hx hb hT i_M hown hK hP 0 rfl rfl 8 (by decide) (hT _ k_M_97) (fun _ h9 => h9) (v := .int (nI (m_ln σ))) rfl d_M_has_9 ?_
        refine x_icmp_ge (tgt := 45) hx hb d_M_has_12 (by decide) (fun c12 => ?_) (fun c12 => ?_)
        · refine lv_iload hx hb d_M_has_45 (lv_at hl 4 rfl) ?_
          exact x_rz hx hb hr hlk d_M_has_47 rfl (Or.inr ⟨rfl, fun ⟨i, h1, h2⟩ => hno i (by omega) h2⟩)
        · refine lv_iload hx hb d_M_has_15 (lv_at hl 4 rfl) ?_
          refine x_if_ne (tgt := 32) hx hb d_M_has_17 (by decide) (fun h => absurd h (by decide)) (fun _ => ?_)
          refine lv_aload_n hx hb d_M_has_20 rfl (lv_at hl 0 rfl) ?_
          refine lv_iload hx hb d_M_has_21 (lv_at hl 5 rfl) ?_
          refine lv_iload_n hx hb d_M_has_23 rfl (lv_at hl 1 rfl) ?_
          refine lv_iload_n hx hb d_M_has_24 rfl (lv_at hl 2 rfl) ?_
          refine lv_iload_n hx hb d_M_has_25 rfl (lv_at hl 3 rfl) ?_
          refine x_ci (x_runV ⟨hx, hb, hml, hown, hT⟩ (c_M_is l dC dI a t σ hG2 hL k q f h (by omega) hq hf hh) f_M_is k_M_100 blR (va_recv hK hP (ci := 7) (q0 := 0) rfl rfl) (x_bR hK hP hN) hl.1 d_M_has_26 rfl (lv_room (Nat.le_of_ble_eq_true rfl)) ⟨Nat.le_of_ble_eq_true rfl, Nat.le_of_ble_eq_true rfl⟩ ⟨rfl, rfl⟩ ⟨Nat.le_refl 0, Nat.le_refl 0⟩ rfl) (fun r26 q26 => ?_)
          rcases q26 with ⟨rfl, hqq⟩ | ⟨rfl, hqq⟩
          · refine x_if_eq (tgt := 36) hx hb d_M_has_29 (by decide) (fun h => absurd h (by decide)) (fun _ => ?_)
            refine lv_iconst (v := nI 1) hx hb d_M_has_32 (by decide) ?_
            refine lv_goto (tgt := 37) hx hb d_M_has_33 (by decide) ?_
            refine lv_istore (lv' := [(4, .int (nI 1)), (0, .ref (a 0)), (1, .int (nI q)), (2, .int (nI f)), (3, .int (nI h)), (5, .int (nI k))]) hx hb d_M_has_37 hl (by decide) rfl (fun ls hl => ?_)
            refine x_iinc (lv' := [(5, .int (nI (k + 1))), (4, .int (nI 1)), (0, .ref (a 0)), (1, .int (nI q)), (2, .int (nI f)), (3, .int (nI h))]) hx hb d_M_has_39 hl (k := 5) rfl (by decide) rfl (fun ls hl => ?_)
            refine lv_goto (tgt := 6) hx hb d_M_has_42 (by decide) ?_
            exact ih6 (k + 1) _ ls (by omega) (Or.inl ⟨rfl, by first | (obtain ⟨i, h1, h2⟩ := hex; exact ⟨i, by omega, h2⟩) | exact ⟨k, by omega, hqq⟩⟩) (by omega) (lv_sub hl [2, 3, 4, 5, 1, 0] rfl)
          · refine x_if_eq (tgt := 36) hx hb d_M_has_29 (by decide) (fun _ => ?_) (fun h => absurd h (by decide))
            refine lv_iconst (v := nI 0) hx hb d_M_has_36 (by decide) ?_
            refine lv_istore (lv' := [(4, .int (nI 0)), (0, .ref (a 0)), (1, .int (nI q)), (2, .int (nI f)), (3, .int (nI h)), (5, .int (nI k))]) hx hb d_M_has_37 hl (by decide) rfl (fun ls hl => ?_)
            refine x_iinc (lv' := [(5, .int (nI (k + 1))), (4, .int (nI 0)), (0, .ref (a 0)), (1, .int (nI q)), (2, .int (nI f)), (3, .int (nI h))]) hx hb d_M_has_39 hl (k := 5) rfl (by decide) rfl (fun ls hl => ?_)
            refine lv_goto (tgt := 6) hx hb d_M_has_42 (by decide) ?_
            exact ih6 (k + 1) _ ls (by omega) (Or.inr ⟨rfl, fun i h9 => by rcases Nat.lt_succ_iff_lt_or_eq.mp h9 with h8 | h8; exact hno i h8; rw [h8]; exact hqq⟩) (by omega) (lv_sub hl [2, 3, 4, 5, 1, 0] rfl)
  exact hloop6 _ 0 _ ls (by omega) (Or.inr ⟨rfl, fun i h9 => absurd h9 (Nat.not_lt_zero _)⟩) (Nat.lt_succ_self _) (lv_sub hl [2, 3, 4, 5, 1, 0] rfl)

def ADM (σ : SM) (q f h : Nat) (d : Int64) : SM := mu_ld (mu_lt (mu_lf (mu_ls (mu_ln σ (m_ln σ + 1)) (updN (m_ls σ) (m_ln σ) q)) (updN (m_lf σ) (m_ln σ) f)) (updN (m_lt σ) (m_ln σ) h)) (vp_updL (m_ld σ) (m_ln σ) d)
set_option maxRecDepth 100000 in
set_option maxHeartbeats 4000000 in
theorem c_M_add (l : Launch) (dC : Nat → ClassId) (dI : Nat → Nat → Nat) (a : Nat → Nat) (t : Nat → ClassId) (σ : SM) (sz : Nat) (hG : GM σ) (q f h : Nat) (d : Int64) : Met l y_M_add (wS y_M_add b_M_add 6 none) (rD 0) (va_Pc [.ref (a 0), .int (nI q), .int (nI f), .int (nI h), .long d] (MB (dC, dI) (yM t) (wM a t σ) sz)) (va_Qv (fun u : SM => u = ADM σ q f h d) (fun u => ME (dC, dI) (yM t) (va_A (wM a t σ) sz) (wM a t u)) (va_A (wM a t σ) sz)) 0 0 (va_A (wM a t σ) sz) := by
  refine x_enter (by decide) (Nat.le_of_ble_eq_true rfl) ?_
  intro p e s m below meth c ls hx hb hr hml hT hown hlk hnm hl hB
  obtain ⟨rfl, hP, hK, hN, hD0⟩ := hB
  have hD := hD0.self (sz := s.heap.size)
  generalize hAe : va_A (wM a t σ) s.heap.size = A at hD ⊢
  have hA : ∀ q : Nat, s.heap.size ≤ q → A q := fun q h => by rw [← hAe]; exact Or.inr h
  have hS : va_S A s.heap s.heap [] := va_S.rf
  have hP : va_P (dC, dI) classes (wM a t σ) s.heap := hP
  have hl : lv_has ls 6 [(0, .ref (a 0)), (1, .int (nI q)), (2, .int (nI f)), (3, .int (nI h)), (4, .long d)] := hl
  have hown : s.vm.findClass R_M = some m.cls := hown
  have hG2 := hG
  obtain ⟨g_sz, g_sd, g_hn, g_kd, g_lv, g_tx, g_zs, g_ln, g_lf, g_lt, g_rn, g_lk, g_wy, g_wn, g_di, g_co⟩ := hG
  refine lv_aload_n hx hb d_M_add_0 rfl (lv_at hl 0 rfl) ?_
  refine va_get (D := (dC, dI)) (C := R_M) (T := F_M) (N := 20) hx hb hT i_M hown hK hP 0 rfl rfl 9 (by decide) (hT _ k_M_27) (fun _ h9 => h9) (v := .ref (a 6)) rfl d_M_add_1 ?_
  refine lv_aload_n hx hb d_M_add_4 rfl (lv_at hl 0 rfl) ?_
  refine va_get (D := (dC, dI)) (C := R_M) (T := F_M) (N := 20) hx hb hT i_M hown hK hP 0 rfl rfl 8 (by decide) (hT _ k_M_97) (fun _ h9 => h9) (v := .int (nI (m_ln σ))) rfl d_M_add_5 ?_
  refine lv_iload_n hx hb d_M_add_8 rfl (lv_at hl 1 rfl) ?_
  refine x_iast hx hb hK hP hD hS 6 5 (f := (m_ls σ)) rfl rfl d_M_add_9 (by omega) (fun H locs hP hD hS => ?_)
  have hP : va_P (dC, dI) classes (wM a t (mu_ls σ (updN (m_ls σ) (m_ln σ) (q)))) H := hP
  have hD : va_D A (wM a t (mu_ls σ (updN (m_ls σ) (m_ln σ) (q)))) := hD
  refine lv_aload_n hx hb d_M_add_10 rfl (lv_at hl 0 rfl) ?_
  refine va_get (D := (dC, dI)) (C := R_M) (T := F_M) (N := 20) hx hb hT i_M hown hK hP 0 rfl rfl 10 (by decide) (hT _ k_M_30) (fun _ h9 => h9) (v := .ref (a 7)) rfl d_M_add_11 ?_
  refine lv_aload_n hx hb d_M_add_14 rfl (lv_at hl 0 rfl) ?_
  refine va_get (D := (dC, dI)) (C := R_M) (T := F_M) (N := 20) hx hb hT i_M hown hK hP 0 rfl rfl 8 (by decide) (hT _ k_M_97) (fun _ h9 => h9) (v := .int (nI (m_ln σ))) rfl d_M_add_15 ?_
  refine lv_iload_n hx hb d_M_add_18 rfl (lv_at hl 2 rfl) ?_
  refine x_iast hx hb hK hP hD hS 7 6 (f := (m_lf σ)) rfl rfl d_M_add_19 (by omega) (fun H locs hP hD hS => ?_)
  have hP : va_P (dC, dI) classes (wM a t (mu_lf (mu_ls σ (updN (m_ls σ) (m_ln σ) (q))) (updN (m_lf σ) (m_ln σ) (f)))) H := hP
  have hD : va_D A (wM a t (mu_lf (mu_ls σ (updN (m_ls σ) (m_ln σ) (q))) (updN (m_lf σ) (m_ln σ) (f)))) := hD
  refine lv_aload_n hx hb d_M_add_20 rfl (lv_at hl 0 rfl) ?_
  refine va_get (D := (dC, dI)) (C := R_M) (T := F_M) (N := 20) hx hb hT i_M hown hK hP 0 rfl rfl 11 (by decide) (hT _ k_M_33) (fun _ h9 => h9) (v := .ref (a 8)) rfl d_M_add_21 ?_
  refine lv_aload_n hx hb d_M_add_24 rfl (lv_at hl 0 rfl) ?_
  refine va_get (D := (dC, dI)) (C := R_M) (T := F_M) (N := 20) hx hb hT i_M hown hK hP 0 rfl rfl 8 (by decide) (hT _ k_M_97) (fun _ h9 => h9) (v := .int (nI (m_ln σ))) rfl d_M_add_25 ?_
  refine lv_iload_n hx hb d_M_add_28 rfl (lv_at hl 3 rfl) ?_
  refine x_iast hx hb hK hP hD hS 8 7 (f := (m_lt σ)) rfl rfl d_M_add_29 (by omega) (fun H locs hP hD hS => ?_)
  have hP : va_P (dC, dI) classes (wM a t (mu_lt (mu_lf (mu_ls σ (updN (m_ls σ) (m_ln σ) (q))) (updN (m_lf σ) (m_ln σ) (f))) (updN (m_lt σ) (m_ln σ) (h)))) H := hP
  have hD : va_D A (wM a t (mu_lt (mu_lf (mu_ls σ (updN (m_ls σ) (m_ln σ) (q))) (updN (m_lf σ) (m_ln σ) (f))) (updN (m_lt σ) (m_ln σ) (h)))) := hD
  refine lv_aload_n hx hb d_M_add_30 rfl (lv_at hl 0 rfl) ?_
  refine va_get (D := (dC, dI)) (C := R_M) (T := F_M) (N := 20) hx hb hT i_M hown hK hP 0 rfl rfl 12 (by decide) (hT _ k_M_36) (fun _ h9 => h9) (v := .ref (a 9)) rfl d_M_add_31 ?_
  refine lv_aload_n hx hb d_M_add_34 rfl (lv_at hl 0 rfl) ?_
  refine va_get (D := (dC, dI)) (C := R_M) (T := F_M) (N := 20) hx hb hT i_M hown hK hP 0 rfl rfl 8 (by decide) (hT _ k_M_97) (fun _ h9 => h9) (v := .int (nI (m_ln σ))) rfl d_M_add_35 ?_
  refine lv_lload hx hb d_M_add_38 (lv_at hl 4 rfl) ?_
  refine x_last hx hb hK hP hD hS 9 8 (f := (m_ld σ)) rfl rfl d_M_add_40 (by omega) (fun H locs hP hD hS => ?_)
  have hP : va_P (dC, dI) classes (wM a t (mu_ld (mu_lt (mu_lf (mu_ls σ (updN (m_ls σ) (m_ln σ) (q))) (updN (m_lf σ) (m_ln σ) (f))) (updN (m_lt σ) (m_ln σ) (h))) (vp_updL (m_ld σ) (m_ln σ) (d)))) H := hP
  have hD : va_D A (wM a t (mu_ld (mu_lt (mu_lf (mu_ls σ (updN (m_ls σ) (m_ln σ) (q))) (updN (m_lf σ) (m_ln σ) (f))) (updN (m_lt σ) (m_ln σ) (h))) (vp_updL (m_ld σ) (m_ln σ) (d)))) := hD
  refine lv_aload_n hx hb d_M_add_41 rfl (lv_at hl 0 rfl) ?_
  refine lv_dup hx hb d_M_add_42 rfl ?_
  refine va_get (D := (dC, dI)) (C := R_M) (T := F_M) (N := 20) hx hb hT i_M hown hK hP 0 rfl rfl 8 (by decide) (hT _ k_M_97) (fun _ h9 => h9) (v := .int (nI (m_ln σ))) rfl d_M_add_43 ?_
  refine lv_iconst (v := nI 1) hx hb d_M_add_46 (by decide) ?_
  refine x_iadd hx hb d_M_add_47 ?_
  refine va_put (D := (dC, dI)) (v := .int (nI ((m_ln σ) + 1))) (ty := .int) (C := R_M) (T := F_M) (N := 20) hx hb hT i_M ft_M ft_M_ok n_M hown hK hP hD hS 0 rfl rfl 8 (by decide) (hT _ k_M_97) (fun _ h9 => h9) rfl (by decide +kernel) rfl rfl (Nat.le_of_ble_eq_true rfl) d_M_add_48 (fun H locs hP hD hS => ?_)
  have hP : va_P (dC, dI) classes (wM a t (mu_ld (mu_lt (mu_lf (mu_ls (mu_ln σ ((m_ln σ) + 1)) (updN (m_ls σ) (m_ln σ) (q))) (updN (m_lf σ) (m_ln σ) (f))) (updN (m_lt σ) (m_ln σ) (h))) (vp_updL (m_ld σ) (m_ln σ) (d)))) H := hP
  have hD : va_D A (wM a t (mu_ld (mu_lt (mu_lf (mu_ls (mu_ln σ ((m_ln σ) + 1)) (updN (m_ls σ) (m_ln σ) (q))) (updN (m_lf σ) (m_ln σ) (f))) (updN (m_lt σ) (m_ln σ) (h))) (vp_updL (m_ld σ) (m_ln σ) (d)))) := hD
  exact x_mv (wl := wM a t) (mu_ld (mu_lt (mu_lf (mu_ls (mu_ln σ ((m_ln σ) + 1)) (updN (m_ls σ) (m_ln σ) (q))) (updN (m_lf σ) (m_ln σ) (f))) (updN (m_lt σ) (m_ln σ) (h))) (vp_updL (m_ld σ) (m_ln σ) (d))) hx hb hr hlk hK hP hD hS d_M_add_51 rfl

set_option maxRecDepth 100000 in
set_option maxHeartbeats 4000000 in
theorem c_M_used (l : Launch) (dC : Nat → ClassId) (dI : Nat → Nat → Nat) (a : Nat → Nat) (t : Nat → ClassId) (σ : SM) (hG : GM σ) (hL : GL σ) (j : Nat) (hj : j ≤ 60) : Met l y_M_used (wS y_M_used b_M_used 3 (some .int)) (rD 1) (va_Pc [.ref (a 0), .int (nI j)] (RB (dC, dI) (yM t) (wM a t σ))) (vp_Si (fun r => (∃ i, i < m_ln σ ∧ isL σ i 0 j 0 ∧ (∀ k, k < i → ¬ isL σ k 0 j 0) ∧ r = nI (m_lt σ i)) ∨ ((∀ i, i < m_ln σ → ¬ isL σ i 0 j 0) ∧ r = nI j))) 0 0 (fun _ => False) := by
  refine x_enter (by decide) (Nat.le_of_ble_eq_true rfl) ?_
  intro p e s m below meth c ls hx hb hr hml hT hown hlk hnm hl hB
  obtain ⟨hP, hK, hN⟩ := hB
  have hl : lv_has ls 3 [(0, .ref (a 0)), (1, .int (nI j))] := hl
  have hown : s.vm.findClass R_M = some m.cls := hown
  have hG2 := hG
  obtain ⟨g_sz, g_sd, g_hn, g_kd, g_lv, g_tx, g_zs, g_ln, g_lf, g_lt, g_rn, g_lk, g_wy, g_wn, g_di, g_co⟩ := hG
  refine lv_iconst (v := nI 0) hx hb d_M_used_0 (by decide) ?_
  refine lv_istore_n (lv' := [(2, .int (nI 0)), (0, .ref (a 0)), (1, .int (nI j))]) hx hb d_M_used_1 rfl hl (by decide) rfl (fun ls hl => ?_)
  have hloop2 : ∀ (n2 : Nat) (k : Nat) (ls : Array Slot), k ≤ m_ln σ → (∀ i, i < k → ¬ isL σ i 0 j 0) → m_ln σ + 1 - k < n2 → lv_has ls 3 [(0, .ref (a 0)), (1, .int (nI j)), (2, .int (nI k))] → W p l e (rD 1) s m ([.ref (a 0), .int (nI j)] : List Value).toArray below meth c s.heap [] 0 0 (MQ below (vp_Si (fun r => (∃ i, i < m_ln σ ∧ isL σ i 0 j 0 ∧ (∀ k, k < i → ¬ isL σ k 0 j 0) ∧ r = nI (m_lt σ i)) ∨ ((∀ i, i < m_ln σ → ¬ isL σ i 0 j 0) ∧ r = nI j))) ([.ref (a 0), .int (nI j)] : List Value).toArray s 0 0 (fun _ => False)) (F0 m 2 ls []) := by
    intro n2
    induction n2 with
    | zero => intro k ls _ _ h9; exact absurd h9 (Nat.not_lt_zero _)
    | succ n2 ih2 =>
      intro k ls hk hno hmu2 hl
      refine lv_iload_n hx hb d_M_used_2 rfl (lv_at hl 2 rfl) ?_
      refine lv_aload_n hx hb d_M_used_3 rfl (lv_at hl 0 rfl) ?_
      refine va_get (D := (dC, dI)) (C := R_M) (T := F_M) (N := 20) hx hb hT i_M hown hK hP 0 rfl rfl 8 (by decide) (hT _ k_M_97) (fun _ h9 => h9) (v := .int (nI (m_ln σ))) rfl d_M_used_4 ?_
      refine x_icmp_ge (tgt := 34) hx hb d_M_used_7 (by decide) (fun c7 => ?_) (fun c7 => ?_)
      · refine lv_iload_n hx hb d_M_used_34 rfl (lv_at hl 1 rfl) ?_
        exact x_ri hx hb hr hlk d_M_used_35 (Or.inr ⟨fun i h9 => hno i (by omega), rfl⟩)
      · refine lv_aload_n hx hb d_M_used_10 rfl (lv_at hl 0 rfl) ?_
        refine lv_iload_n hx hb d_M_used_11 rfl (lv_at hl 2 rfl) ?_
        refine lv_iconst (v := nI 0) hx hb d_M_used_12 (by decide) ?_
        refine lv_iload_n hx hb d_M_used_13 rfl (lv_at hl 1 rfl) ?_
        refine lv_iconst (v := nI 0) hx hb d_M_used_14 (by decide) ?_
        refine x_ci (x_runV ⟨hx, hb, hml, hown, hT⟩ (c_M_is l dC dI a t σ hG2 hL k 0 j 0 (by omega) (by omega) hj (by omega)) f_M_is k_M_100 blR (va_recv hK hP (ci := 7) (q0 := 0) rfl rfl) (x_bR hK hP hN) hl.1 d_M_used_15 rfl (lv_room (Nat.le_of_ble_eq_true rfl)) ⟨Nat.le_of_ble_eq_true rfl, Nat.le_of_ble_eq_true rfl⟩ ⟨rfl, rfl⟩ ⟨Nat.le_refl 0, Nat.le_refl 0⟩ rfl) (fun r15 q15 => ?_)
        rcases q15 with ⟨rfl, hqq⟩ | ⟨rfl, hqq⟩
        · refine x_if_eq (tgt := 28) hx hb d_M_used_18 (by decide) (fun h => absurd h (by decide)) (fun _ => ?_)
          refine lv_aload_n hx hb d_M_used_21 rfl (lv_at hl 0 rfl) ?_
          refine va_get (D := (dC, dI)) (C := R_M) (T := F_M) (N := 20) hx hb hT i_M hown hK hP 0 rfl rfl 11 (by decide) (hT _ k_M_33) (fun _ h9 => h9) (v := .ref (a 8)) rfl d_M_used_22 ?_
          refine lv_iload_n hx hb d_M_used_25 rfl (lv_at hl 2 rfl) ?_
          refine x_iald hx hb hK hP 8 7 (f := (m_lt σ)) rfl rfl d_M_used_26 (by omega) ?_
          exact x_ri hx hb hr hlk d_M_used_27 (Or.inl ⟨k, by omega, hqq, hno, rfl⟩)
        · refine x_if_eq (tgt := 28) hx hb d_M_used_18 (by decide) (fun _ => ?_) (fun h => absurd h (by decide))
          refine x_iinc (lv' := [(2, .int (nI (k + 1))), (0, .ref (a 0)), (1, .int (nI j))]) hx hb d_M_used_28 hl (k := 2) rfl (by decide) rfl (fun ls hl => ?_)
          refine lv_goto (tgt := 2) hx hb d_M_used_31 (by decide) ?_
          exact ih2 (k + 1) ls (by omega) (fun i h9 => by rcases Nat.lt_succ_iff_lt_or_eq.mp h9 with h8 | h8; exact hno i h8; rw [h8]; exact hqq) (by omega) (lv_sub hl [1, 2, 0] rfl)
  exact hloop2 _ 0 ls (by omega) (fun i h9 => absurd h9 (Nat.not_lt_zero _)) (Nat.lt_succ_self _) (lv_sub hl [1, 2, 0] rfl)

