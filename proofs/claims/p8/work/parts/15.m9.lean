def lowB (x : Int32) : Nat := x.toBitVec.toNat % 256
theorem lowB_lt (x : Int32) : lowB x < 256 := Nat.mod_lt _ (by decide)
theorem lowB_c (x : Int32) : ((x &&& nI 255).toUInt32 % 65536).toInt32 = nI (lowB x) := by
  have e : x &&& nI 255 = nI (lowB x) := pk_and x 8 (by decide)
  rw [e, pk_char, pk_tn (Nat.lt_trans (lowB_lt x) (by decide)), Nat.mod_eq_of_lt (Nat.lt_trans (lowB_lt x) (by decide))]
set_option maxRecDepth 100000 in
set_option maxHeartbeats 4000000 in
theorem c_A_sign (l : Launch) (dC : Nat → ClassId) (dI : Nat → Nat → Nat) (a : Nat → Nat) (t : Nat → ClassId) (σ : SA) (sz : Nat) (hG : GA σ) (x : Int32) : Met l y_A_sign (wS y_A_sign b_A_sign 2 none) (rD 1) (va_Pc [.ref (a 0), .int x] (MB (dC, dI) (yA t) (wA a t σ) sz)) (va_Qv (fun u : SA => u = if a_sn σ < 40 then au_sn (au_sg σ (updN (a_sg σ) (a_sn σ) (lowB x))) (a_sn σ + 1) else σ) (fun u => ME (dC, dI) (yA t) (va_A (wA a t σ) sz) (wA a t u)) (va_A (wA a t σ) sz)) 0 0 (va_A (wA a t σ) sz) := by
  refine x_enter (by decide) (Nat.le_of_ble_eq_true rfl) ?_
  intro p e s m below meth c ls hx hb hr hml hT hown hlk hnm hl hB
  obtain ⟨rfl, hP, hK, hN, hD0⟩ := hB
  have hD := hD0.self (sz := s.heap.size)
  generalize hAe : va_A (wA a t σ) s.heap.size = A at hD ⊢
  have hA : ∀ q : Nat, s.heap.size ≤ q → A q := fun q h => by rw [← hAe]; exact Or.inr h
  have hS : va_S A s.heap s.heap [] := va_S.rf
  have hP : va_P (dC, dI) classes (wA a t σ) s.heap := hP
  have hl : lv_has ls 2 [(0, .ref (a 0)), (1, .int x)] := hl
  have hown : s.vm.findClass R_A = some m.cls := hown
  have hG2 := hG
  obtain ⟨g_sn, g_sg, g_tn, g_tx, g_kd, g_lv, g_le, g_ln, g_hn, g_lf, g_lt, g_lc, g_rh, g_rn, g_ws, g_wn⟩ := hG
  refine lv_aload_n hx hb d_A_sign_0 rfl (lv_at hl 0 rfl) ?_
  refine va_get (D := (dC, dI)) (C := R_A) (T := F_A) (N := 6) hx hb hT i_A hown hK hP 0 rfl rfl 0 (by decide) (hT _ k_A_12) (fun _ h9 => h9) (v := .ref (a 1)) rfl d_A_sign_1 ?_
  refine lv_iload_n hx hb d_A_sign_4 rfl (lv_at hl 1 rfl) ?_
  refine lv_sipush (v := nI 255) hx hb d_A_sign_5 (by decide) ?_
  refine lv_iand hx hb d_A_sign_8 ?_
  refine lv_i2c (v := (nI (lowB x))) hx hb d_A_sign_9 (lowB_c x) ?_
  refine x_cMv (wl := wA a t) (x_runV ⟨hx, hb, hml, hown, hT⟩ (c_C_add l dC dI a t σ s.heap.size hG2 (lowB x) (lowB_lt x)) f_C_add k_A_51 blM (va_recv hK hP (ci := 0) (q0 := 1) rfl rfl) (x_bM hK hP hN hD) hl.1 d_A_sign_10 rfl (lv_room (Nat.le_of_ble_eq_true rfl)) ⟨Nat.le_of_ble_eq_true rfl, Nat.le_of_ble_eq_true rfl⟩ ⟨rfl, rfl⟩ ⟨Nat.le_refl 0, Nat.le_refl 0⟩ rfl) hD hS hA (fun u10 H locs q10 hP hD hS => ?_)
  exact x_mv (wl := wA a t) u10 hx hb hr hlk hK hP hD hS d_A_sign_13 q10

/-- behind a call that wants a text -/
def TKN (σ τ : SA) : Prop := ∃ f n, τ = au_tn (au_tx (au_sn σ 0) f) n ∧ GA τ ∧ (okT (a_sg σ) (a_sn σ) → n = a_sn σ ∧ ∀ k, k < n → f k = a_sg σ k)
set_option maxRecDepth 100000 in
set_option maxHeartbeats 4000000 in
theorem c_A_heading (l : Launch) (dC : Nat → ClassId) (dI : Nat → Nat → Nat) (a : Nat → Nat) (t : Nat → ClassId) (σ : SA) (sz : Nat) (hG : GA σ) (x : Int32) : Met l y_A_heading (wS y_A_heading b_A_heading 2 (some .int)) (rD 4) (va_Pc [.ref (a 0), .int x] (MB (dC, dI) (yA t) (wA a t σ) sz)) (va_Qi (fun (r : Int32) (u : SA) => ∃ τ, TKN σ τ ∧ ((¬ okT (a_sg σ) (a_sn σ) ∧ r = -99 ∧ u = τ) ∨ (okT (a_sg σ) (a_sn σ) ∧ ((¬ (∃ kk, kk < 4 ∧ x = nI kk) ∧ r = nI 0 ∧ u = τ) ∨ ∃ kk, kk < 4 ∧ x = nI kk ∧ ADH τ kk r u)))) (fun u => ME (dC, dI) (yA t) (va_A (wA a t σ) sz) (wA a t u)) (va_A (wA a t σ) sz)) 0 0 (va_A (wA a t σ) sz) := by
  refine x_enter (by decide) (Nat.le_of_ble_eq_true rfl) ?_
  intro p e s m below meth c ls hx hb hr hml hT hown hlk hnm hl hB
  obtain ⟨rfl, hP, hK, hN, hD0⟩ := hB
  have hD := hD0.self (sz := s.heap.size)
  generalize hAe : va_A (wA a t σ) s.heap.size = A at hD ⊢
  have hA : ∀ q : Nat, s.heap.size ≤ q → A q := fun q h => by rw [← hAe]; exact Or.inr h
  have hS : va_S A s.heap s.heap [] := va_S.rf
  have hP : va_P (dC, dI) classes (wA a t σ) s.heap := hP
  have hl : lv_has ls 2 [(0, .ref (a 0)), (1, .int x)] := hl
  have hown : s.vm.findClass R_A = some m.cls := hown
  have hG2 := hG
  obtain ⟨g_sn, g_sg, g_tn, g_tx, g_kd, g_lv, g_le, g_ln, g_hn, g_lf, g_lt, g_lc, g_rh, g_rn, g_ws, g_wn⟩ := hG
  refine lv_aload_n hx hb d_A_heading_0 rfl (lv_at hl 0 rfl) ?_
  refine va_get (D := (dC, dI)) (C := R_A) (T := F_A) (N := 6) hx hb hT i_A hown hK hP 0 rfl rfl 0 (by decide) (hT _ k_A_12) (fun _ h9 => h9) (v := .ref (a 1)) rfl d_A_heading_1 ?_
  refine lv_aload_n hx hb d_A_heading_4 rfl (lv_at hl 0 rfl) ?_
  refine va_get (D := (dC, dI)) (C := R_A) (T := F_A) (N := 6) hx hb hT i_A hown hK hP 0 rfl rfl 1 (by decide) (hT _ k_A_19) (fun _ h9 => h9) (v := .ref (a 3)) rfl d_A_heading_5 ?_
  refine x_cMi (wl := wA a t) (x_runV ⟨hx, hb, hml, hown, hT⟩ (c_C_moveTo l dC dI a t σ s.heap.size hG2) f_C_moveTo k_A_55 blM (va_recv hK hP (ci := 0) (q0 := 1) rfl rfl) (x_bM hK hP hN hD) hl.1 d_A_heading_8 rfl (lv_room (Nat.le_of_ble_eq_true rfl)) ⟨Nat.le_of_ble_eq_true rfl, Nat.le_of_ble_eq_true rfl⟩ ⟨rfl, rfl⟩ ⟨Nat.le_refl 0, Nat.le_refl 0⟩ rfl) hD hS hA (fun r8 τ H locs q8 hP hD hS => ?_)
  obtain ⟨hok, hτ⟩ := q8
  have hτ : TKN σ τ := hτ
  have hGτ : GA τ := by obtain ⟨_, _, _, h9, _⟩ := hτ; exact h9
  obtain ⟨t_sn, t_sg, t_tn, t_tx, t_kd, t_lv, t_le, t_ln, t_hn, t_lf, t_lt, t_lc, t_rh, t_rn, t_ws, t_wn⟩ := id hGτ
  rcases hok with ⟨rfl, hok⟩ | ⟨rfl, hok⟩
  · refine x_if_ne (tgt := 17) hx hb d_A_heading_11 (by decide) (fun _ => ?_) (fun h => absurd h (by decide))
    refine lv_iload_n hx hb d_A_heading_17 rfl (lv_at hl 1 rfl) ?_
    refine lv_if_lt (tgt := 26) hx hb d_A_heading_18 (by decide) (fun c18 => ?_) (fun c18 => ?_)
    · refine lv_iconst (v := nI 0) hx hb d_A_heading_26 (by decide) ?_
      exact x_mi (wl := wA a t) (τ) hx hb hr hlk hK hP hD hS d_A_heading_27 ⟨τ, hτ, Or.inr ⟨hok, Or.inl ⟨by rintro ⟨k', h1, h2⟩; first | (rw [h2] at c18; exact absurd c18 (nI_pos (by omega))) | (have h3 := (nI_eq (by omega) (by omega)).mp h2; omega), rfl, rfl⟩⟩⟩
    · obtain ⟨kk, hkk0, rfl⟩ := nI_of c18
      refine lv_iload_n hx hb d_A_heading_21 rfl (lv_at hl 1 rfl) ?_
      refine lv_iconst (v := nI 4) hx hb d_A_heading_22 (by decide) ?_
      refine x_icmp_lt (tgt := 28) hx hb d_A_heading_23 (by decide) (fun c23 => ?_) (fun c23 => ?_)
      · refine lv_aload_n hx hb d_A_heading_28 rfl (lv_at hl 0 rfl) ?_
        refine lv_iload_n hx hb d_A_heading_29 rfl (lv_at hl 1 rfl) ?_
        refine x_cMi (wl := wA a t) (x_runV ⟨hx, hb, hml, hown, hT⟩ (c_A_addHeading l dC dI a t τ H.size hGτ kk (by omega)) f_A_addHeading k_A_59 blM (va_recv hK hP (ci := 6) (q0 := 0) rfl rfl) (x_bM hK hP hN hD) hl.1 d_A_heading_30 rfl (lv_room (Nat.le_of_ble_eq_true rfl)) ⟨Nat.le_of_ble_eq_true rfl, Nat.le_of_ble_eq_true rfl⟩ ⟨rfl, rfl⟩ ⟨Nat.le_refl 0, Nat.le_refl 0⟩ rfl) hD hS hA (fun r30 u30 H locs q30 hP hD hS => ?_)
        exact x_mi (wl := wA a t) u30 hx hb hr hlk hK hP hD hS d_A_heading_33 ⟨τ, hτ, Or.inr ⟨hok, Or.inr ⟨kk, by omega, rfl, q30⟩⟩⟩
      · refine lv_iconst (v := nI 0) hx hb d_A_heading_26 (by decide) ?_
        exact x_mi (wl := wA a t) (τ) hx hb hr hlk hK hP hD hS d_A_heading_27 ⟨τ, hτ, Or.inr ⟨hok, Or.inl ⟨by rintro ⟨k', h1, h2⟩; first | (rw [h2] at c18; exact absurd c18 (nI_pos (by omega))) | (have h3 := (nI_eq (by omega) (by omega)).mp h2; omega), rfl, rfl⟩⟩⟩
  · refine x_if_ne (tgt := 17) hx hb d_A_heading_11 (by decide) (fun h => absurd h (by decide)) (fun _ => ?_)
    refine lv_bipush (v := -99) hx hb d_A_heading_14 (by decide) ?_
    exact x_mi (wl := wA a t) (τ) hx hb hr hlk hK hP hD hS d_A_heading_16 ⟨τ, hτ, Or.inl ⟨hok, rfl, rfl⟩⟩

set_option maxRecDepth 100000 in
set_option maxHeartbeats 4000000 in
theorem c_A_find (l : Launch) (dC : Nat → ClassId) (dI : Nat → Nat → Nat) (a : Nat → Nat) (t : Nat → ClassId) (σ : SA) (sz : Nat) (hG : GA σ) : Met l y_A_find (wS y_A_find b_A_find 1 (some .int)) (rD 3) (va_Pc [.ref (a 0)] (MB (dC, dI) (yA t) (wA a t σ) sz)) (va_Qi (fun (r : Int32) (u : SA) => TKN σ u ∧ ((¬ okT (a_sg σ) (a_sn σ) ∧ r = -99) ∨ (okT (a_sg σ) (a_sn σ) ∧ FST (fun h => a_lv u h = 1 ∧ a_same u h) (a_hn u) r))) (fun u => ME (dC, dI) (yA t) (va_A (wA a t σ) sz) (wA a t u)) (va_A (wA a t σ) sz)) 0 0 (va_A (wA a t σ) sz) := by
  refine x_enter (by decide) (Nat.le_of_ble_eq_true rfl) ?_
  intro p e s m below meth c ls hx hb hr hml hT hown hlk hnm hl hB
  obtain ⟨rfl, hP, hK, hN, hD0⟩ := hB
  have hD := hD0.self (sz := s.heap.size)
  generalize hAe : va_A (wA a t σ) s.heap.size = A at hD ⊢
  have hA : ∀ q : Nat, s.heap.size ≤ q → A q := fun q h => by rw [← hAe]; exact Or.inr h
  have hS : va_S A s.heap s.heap [] := va_S.rf
  have hP : va_P (dC, dI) classes (wA a t σ) s.heap := hP
  have hl : lv_has ls 1 [(0, .ref (a 0))] := hl
  have hown : s.vm.findClass R_A = some m.cls := hown
  have hG2 := hG
  obtain ⟨g_sn, g_sg, g_tn, g_tx, g_kd, g_lv, g_le, g_ln, g_hn, g_lf, g_lt, g_lc, g_rh, g_rn, g_ws, g_wn⟩ := hG
  refine lv_aload_n hx hb d_A_find_0 rfl (lv_at hl 0 rfl) ?_
  refine va_get (D := (dC, dI)) (C := R_A) (T := F_A) (N := 6) hx hb hT i_A hown hK hP 0 rfl rfl 0 (by decide) (hT _ k_A_12) (fun _ h9 => h9) (v := .ref (a 1)) rfl d_A_find_1 ?_
  refine lv_aload_n hx hb d_A_find_4 rfl (lv_at hl 0 rfl) ?_
  refine va_get (D := (dC, dI)) (C := R_A) (T := F_A) (N := 6) hx hb hT i_A hown hK hP 0 rfl rfl 1 (by decide) (hT _ k_A_19) (fun _ h9 => h9) (v := .ref (a 3)) rfl d_A_find_5 ?_
  refine x_cMi (wl := wA a t) (x_runV ⟨hx, hb, hml, hown, hT⟩ (c_C_moveTo l dC dI a t σ s.heap.size hG2) f_C_moveTo k_A_55 blM (va_recv hK hP (ci := 0) (q0 := 1) rfl rfl) (x_bM hK hP hN hD) hl.1 d_A_find_8 rfl (lv_room (Nat.le_of_ble_eq_true rfl)) ⟨Nat.le_of_ble_eq_true rfl, Nat.le_of_ble_eq_true rfl⟩ ⟨rfl, rfl⟩ ⟨Nat.le_refl 0, Nat.le_refl 0⟩ rfl) hD hS hA (fun r8 τ H locs q8 hP hD hS => ?_)
  obtain ⟨hok, hτ⟩ := q8
  have hτ : TKN σ τ := hτ
  have hGτ : GA τ := by obtain ⟨_, _, _, h9, _⟩ := hτ; exact h9
  obtain ⟨t_sn, t_sg, t_tn, t_tx, t_kd, t_lv, t_le, t_ln, t_hn, t_lf, t_lt, t_lc, t_rh, t_rn, t_ws, t_wn⟩ := id hGτ
  rcases hok with ⟨rfl, hok⟩ | ⟨rfl, hok⟩
  · refine x_if_ne (tgt := 17) hx hb d_A_find_11 (by decide) (fun _ => ?_) (fun h => absurd h (by decide))
    refine lv_aload_n hx hb d_A_find_17 rfl (lv_at hl 0 rfl) ?_
    refine va_get (D := (dC, dI)) (C := R_A) (T := F_A) (N := 6) hx hb hT i_A hown hK hP 0 rfl rfl 2 (by decide) (hT _ k_A_26) (fun _ h9 => h9) (v := .ref (a 5)) rfl d_A_find_18 ?_
    refine lv_aload_n hx hb d_A_find_21 rfl (lv_at hl 0 rfl) ?_
    refine va_get (D := (dC, dI)) (C := R_A) (T := F_A) (N := 6) hx hb hT i_A hown hK hP 0 rfl rfl 1 (by decide) (hT _ k_A_19) (fun _ h9 => h9) (v := .ref (a 3)) rfl d_A_find_22 ?_
    refine x_ci (x_runV ⟨hx, hb, hml, hown, hT⟩ (c_H_firstOfAnyKind l dC dI a t τ hGτ) f_H_firstOfAnyKind k_A_100 blR (va_recv hK hP (ci := 2) (q0 := 5) rfl rfl) (x_bR hK hP hN) hl.1 d_A_find_25 rfl (lv_room (Nat.le_of_ble_eq_true rfl)) ⟨Nat.le_of_ble_eq_true rfl, Nat.le_of_ble_eq_true rfl⟩ ⟨rfl, rfl⟩ ⟨Nat.le_refl 0, Nat.le_refl 0⟩ rfl) (fun r25 q25 => ?_)
    exact x_mi (wl := wA a t) (τ) hx hb hr hlk hK hP hD hS d_A_find_28 ⟨hτ, Or.inr ⟨hok, q25⟩⟩
  · refine x_if_ne (tgt := 17) hx hb d_A_find_11 (by decide) (fun h => absurd h (by decide)) (fun _ => ?_)
    refine lv_bipush (v := -99) hx hb d_A_find_14 (by decide) ?_
    exact x_mi (wl := wA a t) (τ) hx hb hr hlk hK hP hD hS d_A_find_16 ⟨hτ, Or.inl ⟨hok, rfl⟩⟩

set_option maxRecDepth 100000 in
set_option maxHeartbeats 4000000 in
theorem c_A_rename (l : Launch) (dC : Nat → ClassId) (dI : Nat → Nat → Nat) (a : Nat → Nat) (t : Nat → ClassId) (σ : SA) (sz : Nat) (hG : GA σ) (x : Int32) : Met l y_A_rename (wS y_A_rename b_A_rename 3 (some .int)) (rD 3) (va_Pc [.ref (a 0), .int x] (MB (dC, dI) (yA t) (wA a t σ) sz)) (va_Qi (fun (r : Int32) (u : SA) => ∃ τ, TKN σ τ ∧ ((¬ okT (a_sg σ) (a_sn σ) ∧ r = -99 ∧ u = τ) ∨ (okT (a_sg σ) (a_sn σ) ∧ ((¬ (∃ j, 1 ≤ j ∧ j ≤ a_hn τ ∧ a_lv τ j = 1 ∧ x = nI j) ∧ r = -100 ∧ u = τ) ∨ ∃ j, 1 ≤ j ∧ j ≤ a_hn τ ∧ a_lv τ j = 1 ∧ x = nI j ∧ ((∃ i, 1 ≤ i ∧ i ≤ a_hn τ ∧ r = -nI i ∧ FST (fun h => h ≠ j ∧ a_lv τ h = 1 ∧ a_kd τ h = a_kd τ j ∧ a_same τ h) (a_hn τ) (nI i) ∧ u = τ) ∨ (FST (fun h => h ≠ j ∧ a_lv τ h = 1 ∧ a_kd τ h = a_kd τ j ∧ a_same τ h) (a_hn τ) (nI 0) ∧ r = nI (cntN (a_rh τ) j (a_rn τ)) ∧ u = au_ln (au_le τ (cpT (a_le τ) (j * 20) (a_tx τ) (a_tn τ))) (updN (a_ln τ) j (a_tn τ)))))))) (fun u => ME (dC, dI) (yA t) (va_A (wA a t σ) sz) (wA a t u)) (va_A (wA a t σ) sz)) 0 0 (va_A (wA a t σ) sz) := by
  refine x_enter (by decide) (Nat.le_of_ble_eq_true rfl) ?_
  intro p e s m below meth c ls hx hb hr hml hT hown hlk hnm hl hB
  obtain ⟨rfl, hP, hK, hN, hD0⟩ := hB
  have hD := hD0.self (sz := s.heap.size)
  generalize hAe : va_A (wA a t σ) s.heap.size = A at hD ⊢
  have hA : ∀ q : Nat, s.heap.size ≤ q → A q := fun q h => by rw [← hAe]; exact Or.inr h
  have hS : va_S A s.heap s.heap [] := va_S.rf
  have hP : va_P (dC, dI) classes (wA a t σ) s.heap := hP
  have hl : lv_has ls 3 [(0, .ref (a 0)), (1, .int x)] := hl
  have hown : s.vm.findClass R_A = some m.cls := hown
  have hG2 := hG
  obtain ⟨g_sn, g_sg, g_tn, g_tx, g_kd, g_lv, g_le, g_ln, g_hn, g_lf, g_lt, g_lc, g_rh, g_rn, g_ws, g_wn⟩ := hG
  refine lv_aload_n hx hb d_A_rename_0 rfl (lv_at hl 0 rfl) ?_
  refine va_get (D := (dC, dI)) (C := R_A) (T := F_A) (N := 6) hx hb hT i_A hown hK hP 0 rfl rfl 0 (by decide) (hT _ k_A_12) (fun _ h9 => h9) (v := .ref (a 1)) rfl d_A_rename_1 ?_
  refine lv_aload_n hx hb d_A_rename_4 rfl (lv_at hl 0 rfl) ?_
  refine va_get (D := (dC, dI)) (C := R_A) (T := F_A) (N := 6) hx hb hT i_A hown hK hP 0 rfl rfl 1 (by decide) (hT _ k_A_19) (fun _ h9 => h9) (v := .ref (a 3)) rfl d_A_rename_5 ?_
  refine x_cMi (wl := wA a t) (x_runV ⟨hx, hb, hml, hown, hT⟩ (c_C_moveTo l dC dI a t σ s.heap.size hG2) f_C_moveTo k_A_55 blM (va_recv hK hP (ci := 0) (q0 := 1) rfl rfl) (x_bM hK hP hN hD) hl.1 d_A_rename_8 rfl (lv_room (Nat.le_of_ble_eq_true rfl)) ⟨Nat.le_of_ble_eq_true rfl, Nat.le_of_ble_eq_true rfl⟩ ⟨rfl, rfl⟩ ⟨Nat.le_refl 0, Nat.le_refl 0⟩ rfl) hD hS hA (fun r8 τ H locs q8 hP hD hS => ?_)
  obtain ⟨hok, hτ⟩ := q8
  have hτ : TKN σ τ := hτ
  have hGτ : GA τ := by obtain ⟨_, _, _, h9, _⟩ := hτ; exact h9
  obtain ⟨t_sn, t_sg, t_tn, t_tx, t_kd, t_lv, t_le, t_ln, t_hn, t_lf, t_lt, t_lc, t_rh, t_rn, t_ws, t_wn⟩ := id hGτ
  rcases hok with ⟨rfl, hok⟩ | ⟨rfl, hok⟩
  · refine x_if_ne (tgt := 17) hx hb d_A_rename_11 (by decide) (fun _ => ?_) (fun h => absurd h (by decide))
    refine lv_aload_n hx hb d_A_rename_17 rfl (lv_at hl 0 rfl) ?_
    refine va_get (D := (dC, dI)) (C := R_A) (T := F_A) (N := 6) hx hb hT i_A hown hK hP 0 rfl rfl 2 (by decide) (hT _ k_A_26) (fun _ h9 => h9) (v := .ref (a 5)) rfl d_A_rename_18 ?_
    refine lv_iload_n hx hb d_A_rename_21 rfl (lv_at hl 1 rfl) ?_
    refine x_ci (x_runV ⟨hx, hb, hml, hown, hT⟩ (c_H_isLive l dC dI a t (τ) hGτ x) f_H_isLive k_A_63 blR (va_recv hK hP (ci := 2) (q0 := 5) rfl rfl) (x_bR hK hP hN) hl.1 d_A_rename_22 rfl (lv_room (Nat.le_of_ble_eq_true rfl)) ⟨Nat.le_of_ble_eq_true rfl, Nat.le_of_ble_eq_true rfl⟩ ⟨rfl, rfl⟩ ⟨Nat.le_refl 0, Nat.le_refl 0⟩ rfl) (fun r22 q22 => ?_)
    rcases q22 with ⟨rfl, j, hj1, hj2, hj3, rfl⟩ | ⟨rfl, hnj⟩
    · refine x_if_ne (tgt := 31) hx hb d_A_rename_25 (by decide) (fun _ => ?_) (fun h => absurd h (by decide))
      refine lv_aload_n hx hb d_A_rename_31 rfl (lv_at hl 0 rfl) ?_
      refine va_get (D := (dC, dI)) (C := R_A) (T := F_A) (N := 6) hx hb hT i_A hown hK hP 0 rfl rfl 2 (by decide) (hT _ k_A_26) (fun _ h9 => h9) (v := .ref (a 5)) rfl d_A_rename_32 ?_
      refine lv_aload_n hx hb d_A_rename_35 rfl (lv_at hl 0 rfl) ?_
      refine va_get (D := (dC, dI)) (C := R_A) (T := F_A) (N := 6) hx hb hT i_A hown hK hP 0 rfl rfl 2 (by decide) (hT _ k_A_26) (fun _ h9 => h9) (v := .ref (a 5)) rfl d_A_rename_36 ?_
      refine lv_iload_n hx hb d_A_rename_39 rfl (lv_at hl 1 rfl) ?_
      refine x_ci (x_runV ⟨hx, hb, hml, hown, hT⟩ (c_H_kindOf l dC dI a t τ hGτ j (by omega) (by omega)) f_H_kindOf k_A_86 blR (va_recv hK hP (ci := 2) (q0 := 5) rfl rfl) (x_bR hK hP hN) hl.1 d_A_rename_40 rfl (lv_room (Nat.le_of_ble_eq_true rfl)) ⟨Nat.le_of_ble_eq_true rfl, Nat.le_of_ble_eq_true rfl⟩ ⟨rfl, rfl⟩ ⟨Nat.le_refl 0, Nat.le_refl 0⟩ rfl) (fun r40 q40 => ?_)
      subst q40
      refine lv_aload_n hx hb d_A_rename_43 rfl (lv_at hl 0 rfl) ?_
      refine va_get (D := (dC, dI)) (C := R_A) (T := F_A) (N := 6) hx hb hT i_A hown hK hP 0 rfl rfl 1 (by decide) (hT _ k_A_19) (fun _ h9 => h9) (v := .ref (a 3)) rfl d_A_rename_44 ?_
      refine lv_iload_n hx hb d_A_rename_47 rfl (lv_at hl 1 rfl) ?_
      refine x_ci (x_runV ⟨hx, hb, hml, hown, hT⟩ (c_H_firstOfKind l dC dI a t τ hGτ (a_kd τ j) j (t_kd j) (by omega)) f_H_firstOfKind k_A_89 blR (va_recv hK hP (ci := 2) (q0 := 5) rfl rfl) (x_bR hK hP hN) hl.1 d_A_rename_48 rfl (lv_room (Nat.le_of_ble_eq_true rfl)) ⟨Nat.le_of_ble_eq_true rfl, Nat.le_of_ble_eq_true rfl⟩ ⟨rfl, rfl⟩ ⟨Nat.le_refl 0, Nat.le_refl 0⟩ rfl) (fun r48 q48 => ?_)
      have qF := q48
      rcases q48 with ⟨i, hi1, hi2, _, _, rfl⟩ | ⟨_, rfl⟩
      · refine lv_istore_n (lv' := [(2, .int (nI i)), (0, .ref (a 0)), (1, .int (nI j))]) hx hb d_A_rename_51 rfl hl (by decide) rfl (fun ls hl => ?_)
        refine lv_iload_n hx hb d_A_rename_52 rfl (lv_at hl 0 rfl) ?_
        refine x_if_eq (tgt := 59) hx hb d_A_rename_53 (by decide) (fun c53 => ?_) (fun c53 => ?_)
        · refine lv_aload_n hx hb d_A_rename_59 rfl (lv_at hl 1 rfl) ?_
          refine va_get (D := (dC, dI)) (C := R_A) (T := F_A) (N := 6) hx hb hT i_A hown hK hP 0 rfl rfl 2 (by decide) (hT _ k_A_26) (fun _ h9 => h9) (v := .ref (a 5)) rfl d_A_rename_60 ?_
          refine lv_iload_n hx hb d_A_rename_63 rfl (lv_at hl 2 rfl) ?_
          refine lv_aload_n hx hb d_A_rename_64 rfl (lv_at hl 1 rfl) ?_
          refine va_get (D := (dC, dI)) (C := R_A) (T := F_A) (N := 6) hx hb hT i_A hown hK hP 0 rfl rfl 1 (by decide) (hT _ k_A_19) (fun _ h9 => h9) (v := .ref (a 3)) rfl d_A_rename_65 ?_
          refine x_cMv (wl := wA a t) (x_runV ⟨hx, hb, hml, hown, hT⟩ (c_H_setText l dC dI a t τ H.size hGτ j (by omega) (by omega)) f_H_setText k_A_93 blM (va_recv hK hP (ci := 2) (q0 := 5) rfl rfl) (x_bM hK hP hN hD) hl.1 d_A_rename_68 rfl (lv_room (Nat.le_of_ble_eq_true rfl)) ⟨Nat.le_of_ble_eq_true rfl, Nat.le_of_ble_eq_true rfl⟩ ⟨rfl, rfl⟩ ⟨Nat.le_refl 0, Nat.le_refl 0⟩ rfl) hD hS hA (fun u68 H locs q68 hP hD hS => ?_)
          subst q68
          have hP : va_P (dC, dI) classes (wA a t (au_ln (au_le (τ) (cpT (a_le τ) (j * 20) (a_tx τ) (a_tn τ))) (updN (a_ln τ) j (a_tn τ)))) H := hP
          have hD : va_D A (wA a t (au_ln (au_le (τ) (cpT (a_le τ) (j * 20) (a_tx τ) (a_tn τ))) (updN (a_ln τ) j (a_tn τ)))) := hD
          refine lv_aload_n hx hb d_A_rename_71 rfl (lv_at hl 1 rfl) ?_
          refine va_get (D := (dC, dI)) (C := R_A) (T := F_A) (N := 6) hx hb hT i_A hown hK hP 0 rfl rfl 4 (by decide) (hT _ k_A_40) (fun _ h9 => h9) (v := .ref (a 15)) rfl d_A_rename_72 ?_
          refine lv_iload_n hx hb d_A_rename_75 rfl (lv_at hl 2 rfl) ?_
          refine x_ci (x_runV ⟨hx, hb, hml, hown, hT⟩ (c_R_countOf l dC dI a t (au_ln (au_le (τ) (cpT (a_le τ) (j * 20) (a_tx τ) (a_tn τ))) (updN (a_ln τ) j (a_tn τ))) (GA_ln (GA_le hGτ (cpT_lt t_le t_tx)) (updN_le t_ln t_tn)) j (by omega)) f_R_countOf k_A_97 blR (va_recv hK hP (ci := 4) (q0 := 15) rfl rfl) (x_bR hK hP hN) hl.1 d_A_rename_76 rfl (lv_room (Nat.le_of_ble_eq_true rfl)) ⟨Nat.le_of_ble_eq_true rfl, Nat.le_of_ble_eq_true rfl⟩ ⟨rfl, rfl⟩ ⟨Nat.le_refl 0, Nat.le_refl 0⟩ rfl) (fun r76 q76 => ?_)
          subst q76
          exact x_mi (wl := wA a t) (au_ln (au_le (τ) (cpT (a_le τ) (j * 20) (a_tx τ) (a_tn τ))) (updN (a_ln τ) j (a_tn τ))) hx hb hr hlk hK hP hD hS d_A_rename_79 ⟨τ, hτ, Or.inr ⟨hok, Or.inr ⟨j, hj1, hj2, hj3, rfl, Or.inr ⟨by first | exact qF | (exfalso; omega), rfl, rfl⟩⟩⟩⟩
        · refine lv_iload_n hx hb d_A_rename_56 rfl (lv_at hl 0 rfl) ?_
          refine lv_ineg hx hb d_A_rename_57 ?_
          exact x_mi (wl := wA a t) (τ) hx hb hr hlk hK hP hD hS d_A_rename_58 ⟨τ, hτ, Or.inr ⟨hok, Or.inr ⟨j, hj1, hj2, hj3, rfl, Or.inl ⟨i, hi1, hi2, rfl, qF, rfl⟩⟩⟩⟩
      · refine lv_istore_n (lv' := [(2, .int (nI 0)), (0, .ref (a 0)), (1, .int (nI j))]) hx hb d_A_rename_51 rfl hl (by decide) rfl (fun ls hl => ?_)
        refine lv_iload_n hx hb d_A_rename_52 rfl (lv_at hl 0 rfl) ?_
        refine x_if_eq (tgt := 59) hx hb d_A_rename_53 (by decide) (fun _ => ?_) (fun h => absurd h (by decide))
        refine lv_aload_n hx hb d_A_rename_59 rfl (lv_at hl 1 rfl) ?_
        refine va_get (D := (dC, dI)) (C := R_A) (T := F_A) (N := 6) hx hb hT i_A hown hK hP 0 rfl rfl 2 (by decide) (hT _ k_A_26) (fun _ h9 => h9) (v := .ref (a 5)) rfl d_A_rename_60 ?_
        refine lv_iload_n hx hb d_A_rename_63 rfl (lv_at hl 2 rfl) ?_
        refine lv_aload_n hx hb d_A_rename_64 rfl (lv_at hl 1 rfl) ?_
        refine va_get (D := (dC, dI)) (C := R_A) (T := F_A) (N := 6) hx hb hT i_A hown hK hP 0 rfl rfl 1 (by decide) (hT _ k_A_19) (fun _ h9 => h9) (v := .ref (a 3)) rfl d_A_rename_65 ?_
        refine x_cMv (wl := wA a t) (x_runV ⟨hx, hb, hml, hown, hT⟩ (c_H_setText l dC dI a t τ H.size hGτ j (by omega) (by omega)) f_H_setText k_A_93 blM (va_recv hK hP (ci := 2) (q0 := 5) rfl rfl) (x_bM hK hP hN hD) hl.1 d_A_rename_68 rfl (lv_room (Nat.le_of_ble_eq_true rfl)) ⟨Nat.le_of_ble_eq_true rfl, Nat.le_of_ble_eq_true rfl⟩ ⟨rfl, rfl⟩ ⟨Nat.le_refl 0, Nat.le_refl 0⟩ rfl) hD hS hA (fun u68 H locs q68 hP hD hS => ?_)
        subst q68
        have hP : va_P (dC, dI) classes (wA a t (au_ln (au_le (τ) (cpT (a_le τ) (j * 20) (a_tx τ) (a_tn τ))) (updN (a_ln τ) j (a_tn τ)))) H := hP
        have hD : va_D A (wA a t (au_ln (au_le (τ) (cpT (a_le τ) (j * 20) (a_tx τ) (a_tn τ))) (updN (a_ln τ) j (a_tn τ)))) := hD
        refine lv_aload_n hx hb d_A_rename_71 rfl (lv_at hl 1 rfl) ?_
        refine va_get (D := (dC, dI)) (C := R_A) (T := F_A) (N := 6) hx hb hT i_A hown hK hP 0 rfl rfl 4 (by decide) (hT _ k_A_40) (fun _ h9 => h9) (v := .ref (a 15)) rfl d_A_rename_72 ?_
        refine lv_iload_n hx hb d_A_rename_75 rfl (lv_at hl 2 rfl) ?_
        refine x_ci (x_runV ⟨hx, hb, hml, hown, hT⟩ (c_R_countOf l dC dI a t (au_ln (au_le (τ) (cpT (a_le τ) (j * 20) (a_tx τ) (a_tn τ))) (updN (a_ln τ) j (a_tn τ))) (GA_ln (GA_le hGτ (cpT_lt t_le t_tx)) (updN_le t_ln t_tn)) j (by omega)) f_R_countOf k_A_97 blR (va_recv hK hP (ci := 4) (q0 := 15) rfl rfl) (x_bR hK hP hN) hl.1 d_A_rename_76 rfl (lv_room (Nat.le_of_ble_eq_true rfl)) ⟨Nat.le_of_ble_eq_true rfl, Nat.le_of_ble_eq_true rfl⟩ ⟨rfl, rfl⟩ ⟨Nat.le_refl 0, Nat.le_refl 0⟩ rfl) (fun r76 q76 => ?_)
        subst q76
        exact x_mi (wl := wA a t) (au_ln (au_le (τ) (cpT (a_le τ) (j * 20) (a_tx τ) (a_tn τ))) (updN (a_ln τ) j (a_tn τ))) hx hb hr hlk hK hP hD hS d_A_rename_79 ⟨τ, hτ, Or.inr ⟨hok, Or.inr ⟨j, hj1, hj2, hj3, rfl, Or.inr ⟨by first | exact qF | (exfalso; omega), rfl, rfl⟩⟩⟩⟩
    · refine x_if_ne (tgt := 31) hx hb d_A_rename_25 (by decide) (fun h => absurd h (by decide)) (fun _ => ?_)
      refine lv_bipush (v := -100) hx hb d_A_rename_28 (by decide) ?_
      exact x_mi (wl := wA a t) (τ) hx hb hr hlk hK hP hD hS d_A_rename_30 ⟨τ, hτ, Or.inr ⟨hok, Or.inl ⟨hnj, rfl, rfl⟩⟩⟩
  · refine x_if_ne (tgt := 17) hx hb d_A_rename_11 (by decide) (fun h => absurd h (by decide)) (fun _ => ?_)
    refine lv_bipush (v := -99) hx hb d_A_rename_14 (by decide) ?_
    exact x_mi (wl := wA a t) (τ) hx hb hr hlk hK hP hD hS d_A_rename_16 ⟨τ, hτ, Or.inl ⟨hok, rfl, rfl⟩⟩

set_option maxRecDepth 100000 in
set_option maxHeartbeats 4000000 in
theorem c_A_linked (l : Launch) (dC : Nat → ClassId) (dI : Nat → Nat → Nat) (a : Nat → Nat) (t : Nat → ClassId) (σ : SA) (hG : GA σ) (x : Int32) : Met l y_A_linked (wS y_A_linked b_A_linked 2 (some .int)) (rD 1) (va_Pc [.ref (a 0), .int x] (RB (dC, dI) (yA t) (wA a t σ))) (vp_Si (fun r => (∃ j, 1 ≤ j ∧ j ≤ a_rn σ ∧ x = nI j ∧ r = nI (a_rh σ j)) ∨ ((¬ ∃ j, 1 ≤ j ∧ j ≤ a_rn σ ∧ x = nI j) ∧ r = nI 0))) 0 0 (fun _ => False) := by
  refine x_enter (by decide) (Nat.le_of_ble_eq_true rfl) ?_
  intro p e s m below meth c ls hx hb hr hml hT hown hlk hnm hl hB
  obtain ⟨hP, hK, hN⟩ := hB
  have hl : lv_has ls 2 [(0, .ref (a 0)), (1, .int x)] := hl
  have hown : s.vm.findClass R_A = some m.cls := hown
  refine lv_aload_n hx hb d_A_linked_0 rfl (lv_at hl 0 rfl) ?_
  refine va_get (D := (dC, dI)) (C := R_A) (T := F_A) (N := 6) hx hb hT i_A hown hK hP 0 rfl rfl 4 (by decide) (hT _ k_A_40) (fun _ h9 => h9) (v := .ref (a 15)) rfl d_A_linked_1 ?_
  refine lv_iload_n hx hb d_A_linked_4 rfl (lv_at hl 1 rfl) ?_
  refine x_ci (x_runV ⟨hx, hb, hml, hown, hT⟩ (c_R_headingOf l dC dI a t σ hG x) f_R_headingOf k_A_152 blR (va_recv hK hP (ci := 4) (q0 := 15) rfl rfl) (x_bR hK hP hN) hl.1 d_A_linked_5 rfl (lv_room (Nat.le_of_ble_eq_true rfl)) ⟨Nat.le_of_ble_eq_true rfl, Nat.le_of_ble_eq_true rfl⟩ ⟨rfl, rfl⟩ ⟨Nat.le_refl 0, Nat.le_refl 0⟩ rfl) (fun r5 q5 => ?_)
  exact x_ri hx hb hr hlk d_A_linked_8 q5

set_option maxRecDepth 100000 in
set_option maxHeartbeats 4000000 in
theorem c_A_ring (l : Launch) (dC : Nat → ClassId) (dI : Nat → Nat → Nat) (a : Nat → Nat) (t : Nat → ClassId) (σ : SA) (hG : GA σ) (x : Int32) : Met l y_A_ring (wS y_A_ring b_A_ring 2 (some .int)) (rD 1) (va_Pc [.ref (a 0), .int x] (RB (dC, dI) (yA t) (wA a t σ))) (vp_Si (fun r => (∃ i, i < a_wn σ ∧ x = nI i ∧ r = nI (a_ws σ i)) ∨ ((¬ ∃ i, i < a_wn σ ∧ x = nI i) ∧ r = nI 0))) 0 0 (fun _ => False) := by
  refine x_enter (by decide) (Nat.le_of_ble_eq_true rfl) ?_
  intro p e s m below meth c ls hx hb hr hml hT hown hlk hnm hl hB
  obtain ⟨hP, hK, hN⟩ := hB
  have hl : lv_has ls 2 [(0, .ref (a 0)), (1, .int x)] := hl
  have hown : s.vm.findClass R_A = some m.cls := hown
  refine lv_aload_n hx hb d_A_ring_0 rfl (lv_at hl 0 rfl) ?_
  refine va_get (D := (dC, dI)) (C := R_A) (T := F_A) (N := 6) hx hb hT i_A hown hK hP 0 rfl rfl 5 (by decide) (hT _ k_A_47) (fun _ h9 => h9) (v := .ref (a 18)) rfl d_A_ring_1 ?_
  refine lv_iload_n hx hb d_A_ring_4 rfl (lv_at hl 1 rfl) ?_
  refine x_ci (x_runV ⟨hx, hb, hml, hown, hT⟩ (c_Y_at l dC dI a t σ hG x) f_Y_at k_A_155 blR (va_recv hK hP (ci := 5) (q0 := 18) rfl rfl) (x_bR hK hP hN) hl.1 d_A_ring_5 rfl (lv_room (Nat.le_of_ble_eq_true rfl)) ⟨Nat.le_of_ble_eq_true rfl, Nat.le_of_ble_eq_true rfl⟩ ⟨rfl, rfl⟩ ⟨Nat.le_refl 0, Nat.le_refl 0⟩ rfl) (fun r5 q5 => ?_)
  exact x_ri hx hb hr hlk d_A_ring_8 q5

set_option maxRecDepth 100000 in
set_option maxHeartbeats 4000000 in
theorem c_A_letter (l : Launch) (dC : Nat → ClassId) (dI : Nat → Nat → Nat) (a : Nat → Nat) (t : Nat → ClassId) (σ : SA) (hG : GA σ) (x y : Int32) : Met l y_A_letter (wS y_A_letter b_A_letter 3 (some .int)) (rD 2) (va_Pc [.ref (a 0), .int x, .int y] (RB (dC, dI) (yA t) (wA a t σ))) (vp_Si (fun r => (∃ j i, 1 ≤ j ∧ j ≤ a_hn σ ∧ i < a_ln σ j ∧ x = nI j ∧ y = nI i ∧ r = nI (a_le σ (j * 20 + i))) ∨ ((¬ ∃ j i, 1 ≤ j ∧ j ≤ a_hn σ ∧ i < a_ln σ j ∧ x = nI j ∧ y = nI i) ∧ r = -1))) 0 0 (fun _ => False) := by
  refine x_enter (by decide) (Nat.le_of_ble_eq_true rfl) ?_
  intro p e s m below meth c ls hx hb hr hml hT hown hlk hnm hl hB
  obtain ⟨hP, hK, hN⟩ := hB
  have hl : lv_has ls 3 [(0, .ref (a 0)), (1, .int x), (2, .int y)] := hl
  have hown : s.vm.findClass R_A = some m.cls := hown
  refine lv_aload_n hx hb d_A_letter_0 rfl (lv_at hl 0 rfl) ?_
  refine va_get (D := (dC, dI)) (C := R_A) (T := F_A) (N := 6) hx hb hT i_A hown hK hP 0 rfl rfl 2 (by decide) (hT _ k_A_26) (fun _ h9 => h9) (v := .ref (a 5)) rfl d_A_letter_1 ?_
  refine lv_iload_n hx hb d_A_letter_4 rfl (lv_at hl 1 rfl) ?_
  refine lv_iload_n hx hb d_A_letter_5 rfl (lv_at hl 2 rfl) ?_
  refine x_ci (x_runV ⟨hx, hb, hml, hown, hT⟩ (c_H_letterOf l dC dI a t σ hG x y) f_H_letterOf k_A_158 blR (va_recv hK hP (ci := 2) (q0 := 5) rfl rfl) (x_bR hK hP hN) hl.1 d_A_letter_6 rfl (lv_room (Nat.le_of_ble_eq_true rfl)) ⟨Nat.le_of_ble_eq_true rfl, Nat.le_of_ble_eq_true rfl⟩ ⟨rfl, rfl⟩ ⟨Nat.le_refl 0, Nat.le_refl 0⟩ rfl) (fun r6 q6 => ?_)
  exact x_ri hx hb hr hlk d_A_letter_9 q6

set_option maxRecDepth 100000 in
set_option maxHeartbeats 4000000 in
theorem c_A_see (l : Launch) (dC : Nat → ClassId) (dI : Nat → Nat → Nat) (a : Nat → Nat) (t : Nat → ClassId) (σ : SA) (hG : GA σ) (x y : Int32) : Met l y_A_see (wS y_A_see b_A_see 3 (some .int)) (rD 3) (va_Pc [.ref (a 0), .int x, .int y] (RB (dC, dI) (yA t) (wA a t σ))) (vp_Si (fun r => (¬ (∃ j i, 1 ≤ j ∧ j ≤ a_hn σ ∧ a_lv σ j = 1 ∧ x = nI j ∧ i < 2 ^ 31 ∧ y = nI i) ∧ r = nI 0) ∨ ∃ j i, 1 ≤ j ∧ j ≤ a_hn σ ∧ a_lv σ j = 1 ∧ x = nI j ∧ i < 2 ^ 31 ∧ y = nI i ∧ ∃ sv : Int64, (∀ b, bt6 sv b = true ↔ ∃ h, h < 60 ∧ b = h + 1 ∧ ¬ (a_tg σ (0 * 61 + (h + 1)) &&& sg j) = 0) ∧ NTH (bt6 sv) 60 i r)) 0 0 (fun _ => False) := by
  refine x_enter (by decide) (Nat.le_of_ble_eq_true rfl) ?_
  intro p e s m below meth c ls hx hb hr hml hT hown hlk hnm hl hB
  obtain ⟨hP, hK, hN⟩ := hB
  have hl : lv_has ls 3 [(0, .ref (a 0)), (1, .int x), (2, .int y)] := hl
  have hown : s.vm.findClass R_A = some m.cls := hown
  have hG2 := hG
  obtain ⟨g_sn, g_sg, g_tn, g_tx, g_kd, g_lv, g_le, g_ln, g_hn, g_lf, g_lt, g_lc, g_rh, g_rn, g_ws, g_wn⟩ := hG
  refine lv_aload_n hx hb d_A_see_0 rfl (lv_at hl 0 rfl) ?_
  refine va_get (D := (dC, dI)) (C := R_A) (T := F_A) (N := 6) hx hb hT i_A hown hK hP 0 rfl rfl 2 (by decide) (hT _ k_A_26) (fun _ h9 => h9) (v := .ref (a 5)) rfl d_A_see_1 ?_
  refine lv_iload_n hx hb d_A_see_4 rfl (lv_at hl 1 rfl) ?_
  refine x_ci (x_runV ⟨hx, hb, hml, hown, hT⟩ (c_H_isLive l dC dI a t σ hG2 x) f_H_isLive k_A_63 blR (va_recv hK hP (ci := 2) (q0 := 5) rfl rfl) (x_bR hK hP hN) hl.1 d_A_see_5 rfl (lv_room (Nat.le_of_ble_eq_true rfl)) ⟨Nat.le_of_ble_eq_true rfl, Nat.le_of_ble_eq_true rfl⟩ ⟨rfl, rfl⟩ ⟨Nat.le_refl 0, Nat.le_refl 0⟩ rfl) (fun r5 q5 => ?_)
  rcases q5 with ⟨rfl, j, hj1, hj2, hj3, rfl⟩ | ⟨rfl, hnj⟩
  · refine x_if_eq (tgt := 15) hx hb d_A_see_8 (by decide) (fun h => absurd h (by decide)) (fun _ => ?_)
    refine lv_iload_n hx hb d_A_see_11 rfl (lv_at hl 2 rfl) ?_
    refine lv_if_ge (tgt := 17) hx hb d_A_see_12 (by decide) (fun c12 => ?_) (fun c12 => ?_)
    · obtain ⟨i, hi, rfl⟩ := nI_of (show ¬ y < 0 from Int32.not_lt.mpr c12)
      refine lv_aload_n hx hb d_A_see_17 rfl (lv_at hl 0 rfl) ?_
      refine va_get (D := (dC, dI)) (C := R_A) (T := F_A) (N := 6) hx hb hT i_A hown hK hP 0 rfl rfl 3 (by decide) (hT _ k_A_33) (fun _ h9 => h9) (v := .ref (a 10)) rfl d_A_see_18 ?_
      refine lv_iconst (v := nI 0) hx hb d_A_see_21 (by decide) ?_
      refine lv_iload_n hx hb d_A_see_22 rfl (lv_at hl 1 rfl) ?_
      refine x_cl (x_runS ⟨hx, hb, hml, hown, hT⟩ (c_A_setOf l j (by omega)) f_A_setOf k_A_104 blT (x_bT hN) hl.1 d_A_see_23 rfl (lv_room (Nat.le_of_ble_eq_true rfl)) ⟨Nat.le_of_ble_eq_true rfl, Nat.le_of_ble_eq_true rfl⟩ ⟨rfl, rfl⟩ ⟨Nat.le_refl 0, Nat.le_refl 0⟩ rfl) (fun r23 q23 => ?_)
      subst q23
      refine x_cl (x_runV ⟨hx, hb, hml, hown, hT⟩ (c_K_sourcesOf l dC dI a t σ 0 (sg j) (by omega)) f_K_sourcesOf k_A_108 blR (va_recv hK hP (ci := 3) (q0 := 10) rfl rfl) (x_bR hK hP hN) hl.1 d_A_see_26 rfl (lv_room (Nat.le_of_ble_eq_true rfl)) ⟨Nat.le_of_ble_eq_true rfl, Nat.le_of_ble_eq_true rfl⟩ ⟨rfl, rfl⟩ ⟨Nat.le_refl 0, Nat.le_refl 0⟩ rfl) (fun sv q26 => ?_)
      refine lv_iload_n hx hb d_A_see_29 rfl (lv_at hl 2 rfl) ?_
      refine x_ci (x_runS ⟨hx, hb, hml, hown, hT⟩ (c_A_nthOf l sv i hi) f_A_nthOf k_A_112 blT (x_bT hN) hl.1 d_A_see_30 rfl (lv_room (Nat.le_of_ble_eq_true rfl)) ⟨Nat.le_of_ble_eq_true rfl, Nat.le_of_ble_eq_true rfl⟩ ⟨rfl, rfl⟩ ⟨Nat.le_refl 0, Nat.le_refl 0⟩ rfl) (fun r30 q30 => ?_)
      exact x_ri hx hb hr hlk d_A_see_33 (Or.inr ⟨j, i, hj1, hj2, hj3, rfl, hi, rfl, sv, q26, q30⟩)
    · refine lv_iconst (v := nI 0) hx hb d_A_see_15 (by decide) ?_
      exact x_ri hx hb hr hlk d_A_see_16 (Or.inl ⟨by rintro ⟨j', i', h1, h2, h3, h4, h5, h6⟩; first | exact hnj ⟨j', h1, h2, h3, h4⟩ | (rw [h6] at c12; exact c12 (nI_pos' h5)), rfl⟩)
  · refine x_if_eq (tgt := 15) hx hb d_A_see_8 (by decide) (fun _ => ?_) (fun h => absurd h (by decide))
    refine lv_iconst (v := nI 0) hx hb d_A_see_15 (by decide) ?_
    exact x_ri hx hb hr hlk d_A_see_16 (Or.inl ⟨by rintro ⟨j', i', h1, h2, h3, h4, h5, h6⟩; first | exact hnj ⟨j', h1, h2, h3, h4⟩ | (rw [h6] at c12; exact c12 (nI_pos' h5)), rfl⟩)

