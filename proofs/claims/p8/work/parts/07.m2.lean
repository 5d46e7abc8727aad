set_option maxRecDepth 100000 in
set_option maxHeartbeats 4000000 in
theorem c_H_kindOf (l : Launch) (dC : Nat → ClassId) (dI : Nat → Nat → Nat) (a : Nat → Nat) (t : Nat → ClassId) (σ : SA) (hG : GA σ) (j : Nat) (hj1 : 1 ≤ j) (hj2 : j ≤ a_hn σ) : Met l y_H_kindOf (wS y_H_kindOf b_H_kindOf 2 (some .int)) (rD 1) (va_Pc [.ref (a 5), .int (nI j)] (RB (dC, dI) (yA t) (wA a t σ))) (vp_Si (fun r => r = nI (a_kd σ j))) 0 0 (fun _ => False) := by
  refine x_enter (by decide) (Nat.le_of_ble_eq_true rfl) ?_
  intro p e s m below meth c ls hx hb hr hml hT hown hlk hnm hl hB
  obtain ⟨hP, hK, hN⟩ := hB
  have hl : lv_has ls 2 [(0, .ref (a 5)), (1, .int (nI j))] := hl
  have hown : s.vm.findClass R_H = some m.cls := hown
  have hG2 := hG
  obtain ⟨g_sn, g_sg, g_tn, g_tx, g_kd, g_lv, g_le, g_ln, g_hn, g_lf, g_lt, g_lc, g_rh, g_rn, g_ws, g_wn⟩ := hG
  refine lv_aload_n hx hb d_H_kindOf_0 rfl (lv_at hl 0 rfl) ?_
  refine lv_iload_n hx hb d_H_kindOf_1 rfl (lv_at hl 1 rfl) ?_
  refine x_ci (x_runV ⟨hx, hb, hml, hown, hT⟩ (c_H_isThere l dC dI a t σ hG2 (nI j)) f_H_isThere k_H_30 blR (va_recv hK hP (ci := 2) (q0 := 5) rfl rfl) (x_bR hK hP hN) hl.1 d_H_kindOf_2 rfl (lv_room (Nat.le_of_ble_eq_true rfl)) ⟨Nat.le_of_ble_eq_true rfl, Nat.le_of_ble_eq_true rfl⟩ ⟨rfl, rfl⟩ ⟨Nat.le_refl 0, Nat.le_refl 0⟩ rfl) (fun r2 q2 => ?_)
  obtain ⟨rfl, _⟩ : r2 = nI 1 ∧ True := by
    rcases q2 with ⟨h9, _⟩ | ⟨_, h9⟩
    · exact ⟨h9, trivial⟩
    · exact absurd ⟨j, by omega, by omega, rfl⟩ h9
  refine x_if_eq (tgt := 17) hx hb d_H_kindOf_5 (by decide) (fun h => absurd h (by decide)) (fun _ => ?_)
  refine lv_aload_n hx hb d_H_kindOf_8 rfl (lv_at hl 0 rfl) ?_
  refine va_get (D := (dC, dI)) (C := R_H) (T := F_H) (N := 5) hx hb hT i_H hown hK hP 5 rfl rfl 0 (by decide) (hT _ k_H_9) (fun _ h9 => h9) (v := .ref (a 6)) rfl d_H_kindOf_9 ?_
  refine lv_iload_n hx hb d_H_kindOf_12 rfl (lv_at hl 1 rfl) ?_
  refine x_iald hx hb hK hP 6 2 (f := (a_kd σ)) rfl rfl d_H_kindOf_13 (by omega) ?_
  refine lv_goto (tgt := 18) hx hb d_H_kindOf_14 (by decide) ?_
  exact x_ri hx hb hr hlk d_H_kindOf_18 rfl

set_option maxRecDepth 100000 in
set_option maxHeartbeats 4000000 in
theorem c_H_letterOf (l : Launch) (dC : Nat → ClassId) (dI : Nat → Nat → Nat) (a : Nat → Nat) (t : Nat → ClassId) (σ : SA) (hG : GA σ) (x y : Int32) : Met l y_H_letterOf (wS y_H_letterOf b_H_letterOf 3 (some .int)) (rD 1) (va_Pc [.ref (a 5), .int x, .int y] (RB (dC, dI) (yA t) (wA a t σ))) (vp_Si (fun r => (∃ j i, 1 ≤ j ∧ j ≤ a_hn σ ∧ i < a_ln σ j ∧ x = nI j ∧ y = nI i ∧ r = nI (a_le σ (j * 20 + i))) ∨ ((¬ ∃ j i, 1 ≤ j ∧ j ≤ a_hn σ ∧ i < a_ln σ j ∧ x = nI j ∧ y = nI i) ∧ r = -1))) 0 0 (fun _ => False) := by
  refine x_enter (by decide) (Nat.le_of_ble_eq_true rfl) ?_
  intro p e s m below meth c ls hx hb hr hml hT hown hlk hnm hl hB
  obtain ⟨hP, hK, hN⟩ := hB
  have hl : lv_has ls 3 [(0, .ref (a 5)), (1, .int x), (2, .int y)] := hl
  have hown : s.vm.findClass R_H = some m.cls := hown
  have hG2 := hG
  obtain ⟨g_sn, g_sg, g_tn, g_tx, g_kd, g_lv, g_le, g_ln, g_hn, g_lf, g_lt, g_lc, g_rh, g_rn, g_ws, g_wn⟩ := hG
  refine lv_aload_n hx hb d_H_letterOf_0 rfl (lv_at hl 0 rfl) ?_
  refine lv_iload_n hx hb d_H_letterOf_1 rfl (lv_at hl 1 rfl) ?_
  refine x_ci (x_runV ⟨hx, hb, hml, hown, hT⟩ (c_H_isThere l dC dI a t σ hG2 x) f_H_isThere k_H_30 blR (va_recv hK hP (ci := 2) (q0 := 5) rfl rfl) (x_bR hK hP hN) hl.1 d_H_letterOf_2 rfl (lv_room (Nat.le_of_ble_eq_true rfl)) ⟨Nat.le_of_ble_eq_true rfl, Nat.le_of_ble_eq_true rfl⟩ ⟨rfl, rfl⟩ ⟨Nat.le_refl 0, Nat.le_refl 0⟩ rfl) (fun r2 q2 => ?_)
  rcases q2 with ⟨rfl, j, hj1, hj2, rfl⟩ | ⟨rfl, hj⟩
  · refine x_if_eq (tgt := 22) hx hb d_H_letterOf_5 (by decide) (fun h => absurd h (by decide)) (fun _ => ?_)
    refine lv_iload_n hx hb d_H_letterOf_8 rfl (lv_at hl 2 rfl) ?_
    refine lv_if_lt (tgt := 22) hx hb d_H_letterOf_9 (by decide) (fun c9 => ?_) (fun c9 => ?_)
    · refine lv_iconst (v := -1) hx hb d_H_letterOf_22 (by decide) ?_
      exact x_ri hx hb hr hlk d_H_letterOf_23 (Or.inr ⟨by first | (rintro ⟨j', i', h1, h2, h3, h4, h5⟩; exact hj ⟨j', h1, h2, h4⟩) | (rintro ⟨j', i', h1, h2, h3, h4, h5⟩; have g9 := g_ln j'; rw [h5] at c9; exact absurd c9 (nI_pos (by omega))) | (rintro ⟨j', i', h1, h2, h3, h4, h5⟩; have h6 := (nI_eq (by omega) (by omega)).mp h4; subst h6; have g9 := g_ln j; have h7 := (nI_eq (by omega) (by omega)).mp h5; omega), rfl⟩)
    · obtain ⟨i, hi, rfl⟩ := nI_of c9
      have g1 := g_ln j
      refine lv_iload_n hx hb d_H_letterOf_12 rfl (lv_at hl 2 rfl) ?_
      refine lv_aload_n hx hb d_H_letterOf_13 rfl (lv_at hl 0 rfl) ?_
      refine va_get (D := (dC, dI)) (C := R_H) (T := F_H) (N := 5) hx hb hT i_H hown hK hP 5 rfl rfl 3 (by decide) (hT _ k_H_23) (fun _ h9 => h9) (v := .ref (a 9)) rfl d_H_letterOf_14 ?_
      refine lv_iload_n hx hb d_H_letterOf_17 rfl (lv_at hl 1 rfl) ?_
      refine x_iald hx hb hK hP 9 5 (f := (a_ln σ)) rfl rfl d_H_letterOf_18 (by omega) ?_
      refine x_icmp_lt (tgt := 24) hx hb d_H_letterOf_19 (by decide) (fun c19 => ?_) (fun c19 => ?_)
      · refine lv_aload_n hx hb d_H_letterOf_24 rfl (lv_at hl 0 rfl) ?_
        refine va_get (D := (dC, dI)) (C := R_H) (T := F_H) (N := 5) hx hb hT i_H hown hK hP 5 rfl rfl 2 (by decide) (hT _ k_H_19) (fun _ h9 => h9) (v := .ref (a 8)) rfl d_H_letterOf_25 ?_
        refine lv_iload_n hx hb d_H_letterOf_28 rfl (lv_at hl 1 rfl) ?_
        refine lv_bipush (v := nI 20) hx hb d_H_letterOf_29 (by decide) ?_
        refine x_imul hx hb d_H_letterOf_31 ?_
        refine lv_iload_n hx hb d_H_letterOf_32 rfl (lv_at hl 2 rfl) ?_
        refine x_iadd hx hb d_H_letterOf_33 ?_
        refine x_cald hx hb hK hP 8 4 (f := (a_le σ)) rfl rfl d_H_letterOf_34 (by omega) ?_
        exact x_ri hx hb hr hlk d_H_letterOf_35 (Or.inl ⟨j, i, hj1, hj2, by omega, rfl, rfl, rfl⟩)
      · refine lv_iconst (v := -1) hx hb d_H_letterOf_22 (by decide) ?_
        exact x_ri hx hb hr hlk d_H_letterOf_23 (Or.inr ⟨by first | (rintro ⟨j', i', h1, h2, h3, h4, h5⟩; exact hj ⟨j', h1, h2, h4⟩) | (rintro ⟨j', i', h1, h2, h3, h4, h5⟩; have g9 := g_ln j'; rw [h5] at c9; exact absurd c9 (nI_pos (by omega))) | (rintro ⟨j', i', h1, h2, h3, h4, h5⟩; have h6 := (nI_eq (by omega) (by omega)).mp h4; subst h6; have g9 := g_ln j; have h7 := (nI_eq (by omega) (by omega)).mp h5; omega), rfl⟩)
  · refine x_if_eq (tgt := 22) hx hb d_H_letterOf_5 (by decide) (fun _ => ?_) (fun h => absurd h (by decide))
    refine lv_iconst (v := -1) hx hb d_H_letterOf_22 (by decide) ?_
    exact x_ri hx hb hr hlk d_H_letterOf_23 (Or.inr ⟨by first | (rintro ⟨j', i', h1, h2, h3, h4, h5⟩; exact hj ⟨j', h1, h2, h4⟩) | (rintro ⟨j', i', h1, h2, h3, h4, h5⟩; have g9 := g_ln j'; rw [h5] at c9; exact absurd c9 (nI_pos (by omega))) | (rintro ⟨j', i', h1, h2, h3, h4, h5⟩; have h6 := (nI_eq (by omega) (by omega)).mp h4; subst h6; have g9 := g_ln j; have h7 := (nI_eq (by omega) (by omega)).mp h5; omega), rfl⟩)

/-- two texts are the same but for capitals -/
def sameT (f : Nat → Nat) (n : Nat) (g : Nat → Nat) (k : Nat) : Prop := n = k ∧ ∀ i, i < k → smN (f i) = smN (g i)
theorem smN_lt {q : Nat} (h : q < 256) : smN q < 65536 := by unfold smN; split <;> omega
set_option maxRecDepth 100000 in
set_option maxHeartbeats 4000000 in
theorem c_H_hasText (l : Launch) (dC : Nat → ClassId) (dI : Nat → Nat → Nat) (a : Nat → Nat) (t : Nat → ClassId) (σ : SA) (hG : GA σ) (j : Nat) (hj1 : 1 ≤ j) (hj2 : j ≤ a_hn σ) : Met l y_H_hasText (wS y_H_hasText b_H_hasText 4 (some .boolean)) (rD 1) (va_Pc [.ref (a 5), .int (nI j), .ref (a 3)] (RB (dC, dI) (yA t) (wA a t σ))) (vp_Si (fun r => BR r (sameT (fun i => a_le σ (j * 20 + i)) (a_ln σ j) (a_tx σ) (a_tn σ)))) 0 0 (fun _ => False) := by
  refine x_enter (by decide) (Nat.le_of_ble_eq_true rfl) ?_
  intro p e s m below meth c ls hx hb hr hml hT hown hlk hnm hl hB
  obtain ⟨hP, hK, hN⟩ := hB
  have hl : lv_has ls 4 [(0, .ref (a 5)), (1, .int (nI j)), (2, .ref (a 3))] := hl
  have hown : s.vm.findClass R_H = some m.cls := hown
  have hG2 := hG
  obtain ⟨g_sn, g_sg, g_tn, g_tx, g_kd, g_lv, g_le, g_ln, g_hn, g_lf, g_lt, g_lc, g_rh, g_rn, g_ws, g_wn⟩ := hG
  have gj := g_ln j
  refine lv_aload_n hx hb d_H_hasText_0 rfl (lv_at hl 0 rfl) ?_
  refine va_get (D := (dC, dI)) (C := R_H) (T := F_H) (N := 5) hx hb hT i_H hown hK hP 5 rfl rfl 3 (by decide) (hT _ k_H_23) (fun _ h9 => h9) (v := .ref (a 9)) rfl d_H_hasText_1 ?_
  refine lv_iload_n hx hb d_H_hasText_4 rfl (lv_at hl 1 rfl) ?_
  refine x_iald hx hb hK hP 9 5 (f := (a_ln σ)) rfl rfl d_H_hasText_5 (by omega) ?_
  refine lv_aload_n hx hb d_H_hasText_6 rfl (lv_at hl 2 rfl) ?_
  refine va_getN (D := (dC, dI)) (C := R_T) (T := F_T) (N := 2) hx hb hT i_T hown hK hP 3 rfl rfl 1 (by decide) (va_Nw.use rfl (hN _ k_H_42 rfl)) (fun _ h9 => h9) (v := .int (nI (a_tn σ))) rfl d_H_hasText_7 ?_
  refine x_icmp_eq (tgt := 15) hx hb d_H_hasText_10 (by decide) (fun c10 => ?_) (fun c10 => ?_)
  · refine lv_iconst (v := nI 0) hx hb d_H_hasText_15 (by decide) ?_
    refine lv_istore_n (lv' := [(3, .int (nI 0)), (0, .ref (a 5)), (1, .int (nI j)), (2, .ref (a 3))]) hx hb d_H_hasText_16 rfl hl (by decide) rfl (fun ls hl => ?_)
    have hloop17 : ∀ (n17 : Nat) (i : Nat) (ls : Array Slot), i ≤ a_tn σ → (∀ i', i' < i → smN (a_le σ (j * 20 + i')) = smN (a_tx σ i')) → a_tn σ + 1 - i < n17 → lv_has ls 4 [(0, .ref (a 5)), (1, .int (nI j)), (2, .ref (a 3)), (3, .int (nI i))] → W p l e (rD 1) s m ([.ref (a 5), .int (nI j), .ref (a 3)] : List Value).toArray below meth c s.heap [] 0 0 (MQ below (vp_Si (fun r => BR r (sameT (fun i => a_le σ (j * 20 + i)) (a_ln σ j) (a_tx σ) (a_tn σ)))) ([.ref (a 5), .int (nI j), .ref (a 3)] : List Value).toArray s 0 0 (fun _ => False)) (F0 m 17 ls []) := by
      intro n17
      induction n17 with
      | zero => intro i ls _ _ h9; exact absurd h9 (Nat.not_lt_zero _)
      | succ n17 ih17 =>
        intro i ls hi hinv hmu17 hl
        refine lv_iload_n hx hb d_H_hasText_17 rfl (lv_at hl 3 rfl) ?_
        refine lv_aload_n hx hb d_H_hasText_18 rfl (lv_at hl 2 rfl) ?_
        refine va_getN (D := (dC, dI)) (C := R_T) (T := F_T) (N := 2) hx hb hT i_T hown hK hP 3 rfl rfl 1 (by decide) (va_Nw.use rfl (hN _ k_H_42 rfl)) (fun _ h9 => h9) (v := .int (nI (a_tn σ))) rfl d_H_hasText_19 ?_
        refine x_icmp_ge (tgt := 59) hx hb d_H_hasText_22 (by decide) (fun c22 => ?_) (fun c22 => ?_)
        · refine lv_iconst (v := nI 1) hx hb d_H_hasText_59 (by decide) ?_
          exact x_rz hx hb hr hlk d_H_hasText_60 rfl (Or.inl ⟨rfl, by omega, fun i' h9 => hinv i' (by omega)⟩)
        · refine lv_aload_n hx hb d_H_hasText_25 rfl (lv_at hl 0 rfl) ?_
          refine va_get (D := (dC, dI)) (C := R_H) (T := F_H) (N := 5) hx hb hT i_H hown hK hP 5 rfl rfl 2 (by decide) (hT _ k_H_19) (fun _ h9 => h9) (v := .ref (a 8)) rfl d_H_hasText_26 ?_
          refine lv_iload_n hx hb d_H_hasText_29 rfl (lv_at hl 1 rfl) ?_
          refine lv_bipush (v := nI 20) hx hb d_H_hasText_30 (by decide) ?_
          refine x_imul hx hb d_H_hasText_32 ?_
          refine lv_iload_n hx hb d_H_hasText_33 rfl (lv_at hl 3 rfl) ?_
          refine x_iadd hx hb d_H_hasText_34 ?_
          refine x_cald hx hb hK hP 8 4 (f := (a_le σ)) rfl rfl d_H_hasText_35 (by omega) ?_
          refine x_ci (x_runS ⟨hx, hb, hml, hown, hT⟩ (c_H_small l (a_le σ (j * 20 + i)) (by have := g_le (j * 20 + i); have := g_tx i; omega)) f_H_small k_H_52 blT (x_bT hN) hl.1 d_H_hasText_36 rfl (lv_room (Nat.le_of_ble_eq_true rfl)) ⟨Nat.le_of_ble_eq_true rfl, Nat.le_of_ble_eq_true rfl⟩ ⟨rfl, rfl⟩ ⟨Nat.le_refl 0, Nat.le_refl 0⟩ rfl) (fun r36 q36 => ?_)
          subst q36
          refine lv_aload_n hx hb d_H_hasText_39 rfl (lv_at hl 2 rfl) ?_
          refine va_getN (D := (dC, dI)) (C := R_T) (T := F_T) (N := 2) hx hb hT i_T hown hK hP 3 rfl rfl 0 (by decide) (va_Nw.use rfl (hN _ k_H_47 rfl)) (fun _ h9 => h9) (v := .ref (a 4)) rfl d_H_hasText_40 ?_
          refine lv_iload_n hx hb d_H_hasText_43 rfl (lv_at hl 3 rfl) ?_
          refine x_cald hx hb hK hP 4 1 (f := (a_tx σ)) rfl rfl d_H_hasText_44 (by omega) ?_
          refine x_ci (x_runS ⟨hx, hb, hml, hown, hT⟩ (c_H_small l (a_tx σ i) (by have := g_le (j * 20 + i); have := g_tx i; omega)) f_H_small k_H_52 blT (x_bT hN) hl.1 d_H_hasText_45 rfl (lv_room (Nat.le_of_ble_eq_true rfl)) ⟨Nat.le_of_ble_eq_true rfl, Nat.le_of_ble_eq_true rfl⟩ ⟨rfl, rfl⟩ ⟨Nat.le_refl 0, Nat.le_refl 0⟩ rfl) (fun r45 q45 => ?_)
          subst q45
          have g1 := smN_lt (g_le (j * 20 + i))
          have g2 := smN_lt (g_tx i)
          refine x_icmp_eq (tgt := 53) hx hb d_H_hasText_48 (by decide) (fun c48 => ?_) (fun c48 => ?_)
          · refine x_iinc (lv' := [(3, .int (nI (i + 1))), (0, .ref (a 5)), (1, .int (nI j)), (2, .ref (a 3))]) hx hb d_H_hasText_53 hl (k := 3) rfl (by decide) rfl (fun ls hl => ?_)
            refine lv_goto (tgt := 17) hx hb d_H_hasText_56 (by decide) ?_
            exact ih17 (i + 1) ls (by omega) (fun i' h9 => by rcases Nat.lt_succ_iff_lt_or_eq.mp h9 with h8 | h8; exact hinv i' h8; subst h8; exact c48) (by omega) (lv_sub hl [1, 2, 3, 0] rfl)
          · refine lv_iconst (v := nI 0) hx hb d_H_hasText_51 (by decide) ?_
            exact x_rz hx hb hr hlk d_H_hasText_52 rfl (Or.inr ⟨rfl, fun h9 => c48 (h9.2 i (by omega))⟩)
    exact hloop17 _ 0 ls (by omega) (fun i' h9 => absurd h9 (Nat.not_lt_zero _)) (Nat.lt_succ_self _) (lv_sub hl [1, 2, 3, 0] rfl)
  · refine lv_iconst (v := nI 0) hx hb d_H_hasText_13 (by decide) ?_
    exact x_rz hx hb hr hlk d_H_hasText_14 rfl (Or.inr ⟨rfl, fun h9 => by have := h9.1; omega⟩)

