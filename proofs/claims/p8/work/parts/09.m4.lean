/-- a text that passes -/
def okT (f : Nat → Nat) (n : Nat) : Prop := 1 ≤ n ∧ n ≤ 20 ∧ ∀ k, k < n → isLD (f k)
set_option maxRecDepth 100000 in
set_option maxHeartbeats 4000000 in
theorem c_C_moveTo (l : Launch) (dC : Nat → ClassId) (dI : Nat → Nat → Nat) (a : Nat → Nat) (t : Nat → ClassId) (σ : SA) (sz : Nat) (hG : GA σ) : Met l y_C_moveTo (wS y_C_moveTo b_C_moveTo 4 (some .boolean)) (rD 1) (va_Pc [.ref (a 1), .ref (a 3)] (MB (dC, dI) (yA t) (wA a t σ) sz)) (va_Qi (fun (r : Int32) (u : SA) => BR r (okT (a_sg σ) (a_sn σ)) ∧ ∃ f n, u = au_tn (au_tx (au_sn σ 0) f) n ∧ GA u ∧ (okT (a_sg σ) (a_sn σ) → n = a_sn σ ∧ ∀ k, k < n → f k = a_sg σ k)) (fun u => ME (dC, dI) (yA t) (va_A (wA a t σ) sz) (wA a t u)) (va_A (wA a t σ) sz)) 0 0 (va_A (wA a t σ) sz) := by
  refine x_enter (by decide) (Nat.le_of_ble_eq_true rfl) ?_
  intro p e s m below meth c ls hx hb hr hml hT hown hlk hnm hl hB
  obtain ⟨rfl, hP, hK, hN, hD0⟩ := hB
  have hD := hD0.self (sz := s.heap.size)
  generalize hAe : va_A (wA a t σ) s.heap.size = A at hD ⊢
  have hA : ∀ q : Nat, s.heap.size ≤ q → A q := fun q h => by rw [← hAe]; exact Or.inr h
  have hS : va_S A s.heap s.heap [] := va_S.rf
  have hP : va_P (dC, dI) classes (wA a t σ) s.heap := hP
  have hl : lv_has ls 4 [(0, .ref (a 1)), (1, .ref (a 3))] := hl
  have hown : s.vm.findClass R_C = some m.cls := hown
  have hG2 := hG
  obtain ⟨g_sn, g_sg, g_tn, g_tx, g_kd, g_lv, g_le, g_ln, g_hn, g_lf, g_lt, g_lc, g_rh, g_rn, g_ws, g_wn⟩ := hG
  refine lv_aload_n hx hb d_C_moveTo_0 rfl (lv_at hl 0 rfl) ?_
  refine va_get (D := (dC, dI)) (C := R_C) (T := F_C) (N := 2) hx hb hT i_C hown hK hP 1 rfl rfl 1 (by decide) (hT _ k_C_15) (fun _ h9 => h9) (v := .int (nI (a_sn σ))) rfl d_C_moveTo_1 ?_
  refine lv_istore_n (lv' := [(2, .int (nI (a_sn σ))), (0, .ref (a 1)), (1, .ref (a 3))]) hx hb d_C_moveTo_4 rfl hl (by decide) rfl (fun ls hl => ?_)
  refine lv_aload_n hx hb d_C_moveTo_5 rfl (lv_at hl 1 rfl) ?_
  refine lv_iconst (v := nI 0) hx hb d_C_moveTo_6 (by decide) ?_
  refine va_put (D := (dC, dI)) (v := .int (nI 0)) (ty := .int) (C := R_C) (T := F_C) (N := 2) hx hb hT i_C ft_C ft_C_ok n_C hown hK hP hD hS 1 rfl rfl 1 (by decide) (hT _ k_C_15) (fun _ h9 => h9) rfl (by decide +kernel) rfl rfl (Nat.le_of_ble_eq_true rfl) d_C_moveTo_7 (fun H locs hP hD hS => ?_)
  have hP : va_P (dC, dI) classes (wA a t (au_sn σ (0))) H := hP
  have hD : va_D A (wA a t (au_sn σ (0))) := hD
  refine lv_iload_n hx hb d_C_moveTo_10 rfl (lv_at hl 0 rfl) ?_
  refine lv_iconst (v := nI 1) hx hb d_C_moveTo_11 (by decide) ?_
  refine x_icmp_lt (tgt := 21) hx hb d_C_moveTo_12 (by decide) (fun c12 => ?_) (fun c12 => ?_)
  · refine lv_iconst (v := nI 0) hx hb d_C_moveTo_21 (by decide) ?_
    exact x_mz (wl := wA a t) (au_sn σ (0)) hx hb hr hlk hK hP hD hS d_C_moveTo_22 rfl ⟨Or.inr ⟨rfl, fun h9 => by have h8 := h9.1; have h7 := h9.2.1; omega⟩, a_tx σ, a_tn σ, rfl, (GA_sn hG2 (by omega)), fun h9 => by have h8 := h9.1; have h7 := h9.2.1; omega⟩
  · refine lv_iload_n hx hb d_C_moveTo_15 rfl (lv_at hl 0 rfl) ?_
    refine lv_bipush (v := nI 20) hx hb d_C_moveTo_16 (by decide) ?_
    refine x_icmp_le (tgt := 23) hx hb d_C_moveTo_18 (by decide) (fun c18 => ?_) (fun c18 => ?_)
    · refine lv_aload_n hx hb d_C_moveTo_23 rfl (lv_at hl 2 rfl) ?_
      refine x_cMv (wl := wA a t) (x_runV ⟨hx, hb, hml, hown, hT⟩ (c_T_clear l dC dI a t (au_sn σ (0)) H.size) f_T_clear k_C_19 blM (va_recv hK hP (ci := 1) (q0 := 3) rfl rfl) (x_bM hK hP hN hD) hl.1 d_C_moveTo_24 rfl (lv_room (Nat.le_of_ble_eq_true rfl)) ⟨Nat.le_of_ble_eq_true rfl, Nat.le_of_ble_eq_true rfl⟩ ⟨rfl, rfl⟩ ⟨Nat.le_refl 0, Nat.le_refl 0⟩ rfl) hD hS hA (fun u24 H locs q24 hP hD hS => ?_)
      subst q24
      have hP : va_P (dC, dI) classes (wA a t (au_tn (au_sn σ (0)) (0))) H := hP
      have hD : va_D A (wA a t (au_tn (au_sn σ (0)) (0))) := hD
      refine lv_iconst (v := nI 0) hx hb d_C_moveTo_27 (by decide) ?_
      refine lv_istore_n (lv' := [(3, .int (nI 0)), (2, .int (nI (a_sn σ))), (0, .ref (a 1)), (1, .ref (a 3))]) hx hb d_C_moveTo_28 rfl hl (by decide) rfl (fun ls hl => ?_)
      have hloop29 : ∀ (n29 : Nat) (i : Nat) (f : Nat → Nat) (H : Heap) (locs : List Loc) (ls : Array Slot), i ≤ a_sn σ → (∀ j, f j < 256) → (∀ k, k < i → isLD (a_sg σ k) ∧ f k = a_sg σ k) → a_sn σ + 1 - i < n29 → va_P (dC, dI) classes (wA a t (au_tn (au_tx (au_sn σ (0)) (f)) (i))) H → va_D A (wA a t (au_tn (au_tx (au_sn σ (0)) (f)) (i))) → va_S A s.heap H locs → lv_has ls 4 [(0, .ref (a 1)), (1, .ref (a 3)), (2, .int (nI (a_sn σ))), (3, .int (nI i))] → W p l e (rD 1) s m ([.ref (a 1), .ref (a 3)] : List Value).toArray below meth c H locs 0 0 (MQ below (va_Qi (fun (r : Int32) (u : SA) => BR r (okT (a_sg σ) (a_sn σ)) ∧ ∃ f n, u = au_tn (au_tx (au_sn σ 0) f) n ∧ GA u ∧ (okT (a_sg σ) (a_sn σ) → n = a_sn σ ∧ ∀ k, k < n → f k = a_sg σ k)) (fun u => ME (dC, dI) (yA t) A (wA a t u)) A) ([.ref (a 1), .ref (a 3)] : List Value).toArray s 0 0 A) (F0 m 29 ls []) := by
        intro n29
        induction n29 with
        | zero => intro i f H locs ls _ _ _ h9; exact absurd h9 (Nat.not_lt_zero _)
        | succ n29 ih29 =>
          intro i f H locs ls hi hf hinv hmu29 hP hD hS hl
          refine lv_iload_n hx hb d_C_moveTo_29 rfl (lv_at hl 3 rfl) ?_
          refine lv_iload_n hx hb d_C_moveTo_30 rfl (lv_at hl 2 rfl) ?_
          refine x_icmp_ge (tgt := 64) hx hb d_C_moveTo_31 (by decide) (fun c31 => ?_) (fun c31 => ?_)
          · refine lv_iconst (v := nI 1) hx hb d_C_moveTo_64 (by decide) ?_
            exact x_mz (wl := wA a t) (au_tn (au_tx (au_sn σ (0)) (f)) (i)) hx hb hr hlk hK hP hD hS d_C_moveTo_65 rfl ⟨Or.inl ⟨rfl, by omega, by omega, fun k h9 => (hinv k (by omega)).1⟩, f, i, rfl, (GA_tn (GA_tx (GA_sn hG2 (by omega)) hf) (by omega)), fun _ => ⟨by omega, fun k h9 => (hinv k h9).2⟩⟩
          · refine lv_aload_n hx hb d_C_moveTo_34 rfl (lv_at hl 0 rfl) ?_
            refine va_get (D := (dC, dI)) (C := R_C) (T := F_C) (N := 2) hx hb hT i_C hown hK hP 1 rfl rfl 0 (by decide) (hT _ k_C_9) (fun _ h9 => h9) (v := .ref (a 2)) rfl d_C_moveTo_35 ?_
            refine lv_iload_n hx hb d_C_moveTo_38 rfl (lv_at hl 3 rfl) ?_
            refine x_cald hx hb hK hP 2 0 (f := (a_sg σ)) rfl rfl d_C_moveTo_39 (by omega) ?_
            refine x_ci (x_runS ⟨hx, hb, hml, hown, hT⟩ (c_C_isLetterOrDigit l (a_sg σ i) (by have := g_sg i; omega)) f_C_isLetterOrDigit k_C_24 blT (x_bT hN) hl.1 d_C_moveTo_40 rfl (lv_room (Nat.le_of_ble_eq_true rfl)) ⟨Nat.le_of_ble_eq_true rfl, Nat.le_of_ble_eq_true rfl⟩ ⟨rfl, rfl⟩ ⟨Nat.le_refl 0, Nat.le_refl 0⟩ rfl) (fun r40 q40 => ?_)
            rcases q40 with ⟨rfl, hq⟩ | ⟨rfl, hq⟩
            · refine x_if_ne (tgt := 48) hx hb d_C_moveTo_43 (by decide) (fun _ => ?_) (fun h => absurd h (by decide))
              refine lv_aload_n hx hb d_C_moveTo_48 rfl (lv_at hl 1 rfl) ?_
              refine lv_aload_n hx hb d_C_moveTo_49 rfl (lv_at hl 0 rfl) ?_
              refine va_get (D := (dC, dI)) (C := R_C) (T := F_C) (N := 2) hx hb hT i_C hown hK hP 1 rfl rfl 0 (by decide) (hT _ k_C_9) (fun _ h9 => h9) (v := .ref (a 2)) rfl d_C_moveTo_50 ?_
              refine lv_iload_n hx hb d_C_moveTo_53 rfl (lv_at hl 3 rfl) ?_
              refine x_cald hx hb hK hP 2 0 (f := (a_sg σ)) rfl rfl d_C_moveTo_54 (by omega) ?_
              refine x_cMv (wl := wA a t) (x_runV ⟨hx, hb, hml, hown, hT⟩ (c_T_add l dC dI a t (au_tn (au_tx (au_sn σ (0)) (f)) (i)) H.size (GA_tn (GA_tx (GA_sn hG2 (by omega)) hf) (by omega)) (a_sg σ i) (g_sg i)) f_T_add k_C_28 blM (va_recv hK hP (ci := 1) (q0 := 3) rfl rfl) (x_bM hK hP hN hD) hl.1 d_C_moveTo_55 rfl (lv_room (Nat.le_of_ble_eq_true rfl)) ⟨Nat.le_of_ble_eq_true rfl, Nat.le_of_ble_eq_true rfl⟩ ⟨rfl, rfl⟩ ⟨Nat.le_refl 0, Nat.le_refl 0⟩ rfl) hD hS hA (fun u55 H locs q55 hP hD hS => ?_)
              rw [if_pos (show a_tn (au_tn (au_tx (au_sn σ 0) f) i) < 20 from (by show i < 20; omega))] at q55
              subst q55
              have hP : va_P (dC, dI) classes (wA a t (au_tn (au_tx (au_sn σ (0)) (updN f i (a_sg σ i))) (i + 1))) H := hP
              have hD : va_D A (wA a t (au_tn (au_tx (au_sn σ (0)) (updN f i (a_sg σ i))) (i + 1))) := hD
              refine x_iinc (lv' := [(3, .int (nI (i + 1))), (0, .ref (a 1)), (1, .ref (a 3)), (2, .int (nI (a_sn σ)))]) hx hb d_C_moveTo_58 hl (k := 3) rfl (by decide) rfl (fun ls hl => ?_)
              refine lv_goto (tgt := 29) hx hb d_C_moveTo_61 (by decide) ?_
              exact ih29 (i + 1) (updN f i (a_sg σ i)) H locs ls (by omega) (updN_lt hf (g_sg i)) (fun k h9 => by rcases Nat.lt_succ_iff_lt_or_eq.mp h9 with h8 | h8; rw [updN_n (by omega)]; exact hinv k h8; subst h8; rw [updN_s]; exact ⟨hq, rfl⟩) (by omega) hP hD hS (lv_sub hl [1, 2, 3, 0] rfl)
            · refine x_if_ne (tgt := 48) hx hb d_C_moveTo_43 (by decide) (fun h => absurd h (by decide)) (fun _ => ?_)
              refine lv_iconst (v := nI 0) hx hb d_C_moveTo_46 (by decide) ?_
              exact x_mz (wl := wA a t) (au_tn (au_tx (au_sn σ (0)) (f)) (i)) hx hb hr hlk hK hP hD hS d_C_moveTo_47 rfl ⟨Or.inr ⟨rfl, fun h9 => hq (h9.2.2 i (by omega))⟩, f, i, rfl, (GA_tn (GA_tx (GA_sn hG2 (by omega)) hf) (by omega)), fun h9 => absurd (h9.2.2 i (by omega)) hq⟩
      exact hloop29 _ 0 (a_tx σ) _ _ ls (by omega) g_tx (fun k h9 => absurd h9 (Nat.not_lt_zero _)) (Nat.lt_succ_self _) hP hD hS (lv_sub hl [2, 3, 1, 0] rfl)
    · refine lv_iconst (v := nI 0) hx hb d_C_moveTo_21 (by decide) ?_
      exact x_mz (wl := wA a t) (au_sn σ (0)) hx hb hr hlk hK hP hD hS d_C_moveTo_22 rfl ⟨Or.inr ⟨rfl, fun h9 => by have h8 := h9.1; have h7 := h9.2.1; omega⟩, a_tx σ, a_tn σ, rfl, (GA_sn hG2 (by omega)), fun h9 => by have h8 := h9.1; have h7 := h9.2.1; omega⟩

set_option maxRecDepth 100000 in
set_option maxHeartbeats 4000000 in
theorem c_R_add (l : Launch) (dC : Nat → ClassId) (dI : Nat → Nat → Nat) (a : Nat → Nat) (t : Nat → ClassId) (σ : SA) (sz : Nat) (hG : GA σ) (j : Nat) (d : Int64) (hj : j ≤ 60) (hf : a_rn σ < 60) : Met l y_R_add (wS y_R_add b_R_add 4 (some .int)) (rD 1) (va_Pc [.ref (a 15), .int (nI j), .long d] (MB (dC, dI) (yA t) (wA a t σ) sz)) (va_Qi (fun (r : Int32) (u : SA) => r = nI (a_rn σ + 1) ∧ u = au_rn (au_rd (au_rh σ (updN (a_rh σ) (a_rn σ + 1) j)) (vp_updL (a_rd σ) (a_rn σ + 1) d)) (a_rn σ + 1)) (fun u => ME (dC, dI) (yA t) (va_A (wA a t σ) sz) (wA a t u)) (va_A (wA a t σ) sz)) 0 0 (va_A (wA a t σ) sz) := by
  refine x_enter (by decide) (Nat.le_of_ble_eq_true rfl) ?_
  intro p e s m below meth c ls hx hb hr hml hT hown hlk hnm hl hB
  obtain ⟨rfl, hP, hK, hN, hD0⟩ := hB
  have hD := hD0.self (sz := s.heap.size)
  generalize hAe : va_A (wA a t σ) s.heap.size = A at hD ⊢
  have hA : ∀ q : Nat, s.heap.size ≤ q → A q := fun q h => by rw [← hAe]; exact Or.inr h
  have hS : va_S A s.heap s.heap [] := va_S.rf
  have hP : va_P (dC, dI) classes (wA a t σ) s.heap := hP
  have hl : lv_has ls 4 [(0, .ref (a 15)), (1, .int (nI j)), (2, .long d)] := hl
  have hown : s.vm.findClass R_R = some m.cls := hown
  have hG2 := hG
  obtain ⟨g_sn, g_sg, g_tn, g_tx, g_kd, g_lv, g_le, g_ln, g_hn, g_lf, g_lt, g_lc, g_rh, g_rn, g_ws, g_wn⟩ := hG
  refine lv_aload_n hx hb d_R_add_0 rfl (lv_at hl 0 rfl) ?_
  refine x_ci (x_runV ⟨hx, hb, hml, hown, hT⟩ (c_R_isFull l dC dI a t σ hG2) f_R_isFull k_R_23 blR (va_recv hK hP (ci := 4) (q0 := 15) rfl rfl) (x_bR hK hP hN) hl.1 d_R_add_1 rfl (lv_room (Nat.le_of_ble_eq_true rfl)) ⟨Nat.le_of_ble_eq_true rfl, Nat.le_of_ble_eq_true rfl⟩ ⟨rfl, rfl⟩ ⟨Nat.le_refl 0, Nat.le_refl 0⟩ rfl) (fun r1 q1 => ?_)
  rcases q1 with ⟨_, h9⟩ | ⟨rfl, _⟩
  · exact absurd h9 (by omega)
  refine x_if_eq (tgt := 9) hx hb d_R_add_4 (by decide) (fun _ => ?_) (fun h => absurd h (by decide))
  refine lv_aload_n hx hb d_R_add_9 rfl (lv_at hl 0 rfl) ?_
  refine lv_dup hx hb d_R_add_10 rfl ?_
  refine va_get (D := (dC, dI)) (C := R_R) (T := F_R) (N := 3) hx hb hT i_R hown hK hP 15 rfl rfl 2 (by decide) (hT _ k_R_19) (fun _ h9 => h9) (v := .int (nI (a_rn σ))) rfl d_R_add_11 ?_
  refine lv_iconst (v := nI 1) hx hb d_R_add_14 (by decide) ?_
  refine x_iadd hx hb d_R_add_15 ?_
  refine va_put (D := (dC, dI)) (v := .int (nI ((a_rn σ) + 1))) (ty := .int) (C := R_R) (T := F_R) (N := 3) hx hb hT i_R ft_R ft_R_ok n_R hown hK hP hD hS 15 rfl rfl 2 (by decide) (hT _ k_R_19) (fun _ h9 => h9) rfl (by decide +kernel) rfl rfl (Nat.le_of_ble_eq_true rfl) d_R_add_16 (fun H locs hP hD hS => ?_)
  have hP : va_P (dC, dI) classes (wA a t (au_rn σ ((a_rn σ) + 1))) H := hP
  have hD : va_D A (wA a t (au_rn σ ((a_rn σ) + 1))) := hD
  refine lv_aload_n hx hb d_R_add_19 rfl (lv_at hl 0 rfl) ?_
  refine va_get (D := (dC, dI)) (C := R_R) (T := F_R) (N := 3) hx hb hT i_R hown hK hP 15 rfl rfl 0 (by decide) (hT _ k_R_9) (fun _ h9 => h9) (v := .ref (a 16)) rfl d_R_add_20 ?_
  refine lv_aload_n hx hb d_R_add_23 rfl (lv_at hl 0 rfl) ?_
  refine va_get (D := (dC, dI)) (C := R_R) (T := F_R) (N := 3) hx hb hT i_R hown hK hP 15 rfl rfl 2 (by decide) (hT _ k_R_19) (fun _ h9 => h9) (v := .int (nI ((a_rn σ) + 1))) rfl d_R_add_24 ?_
  refine lv_iload_n hx hb d_R_add_27 rfl (lv_at hl 1 rfl) ?_
  refine x_iast hx hb hK hP hD hS 16 10 (f := (a_rh σ)) rfl rfl d_R_add_28 (by omega) (fun H locs hP hD hS => ?_)
  have hP : va_P (dC, dI) classes (wA a t (au_rn (au_rh σ (updN (a_rh σ) ((a_rn σ) + 1) (j))) ((a_rn σ) + 1))) H := hP
  have hD : va_D A (wA a t (au_rn (au_rh σ (updN (a_rh σ) ((a_rn σ) + 1) (j))) ((a_rn σ) + 1))) := hD
  refine lv_aload_n hx hb d_R_add_29 rfl (lv_at hl 0 rfl) ?_
  refine va_get (D := (dC, dI)) (C := R_R) (T := F_R) (N := 3) hx hb hT i_R hown hK hP 15 rfl rfl 1 (by decide) (hT _ k_R_15) (fun _ h9 => h9) (v := .ref (a 17)) rfl d_R_add_30 ?_
  refine lv_aload_n hx hb d_R_add_33 rfl (lv_at hl 0 rfl) ?_
  refine va_get (D := (dC, dI)) (C := R_R) (T := F_R) (N := 3) hx hb hT i_R hown hK hP 15 rfl rfl 2 (by decide) (hT _ k_R_19) (fun _ h9 => h9) (v := .int (nI ((a_rn σ) + 1))) rfl d_R_add_34 ?_
  refine lv_lload_n hx hb d_R_add_37 rfl (lv_at hl 2 rfl) ?_
  refine x_last hx hb hK hP hD hS 17 11 (f := (a_rd σ)) rfl rfl d_R_add_38 (by omega) (fun H locs hP hD hS => ?_)
  have hP : va_P (dC, dI) classes (wA a t (au_rn (au_rd (au_rh σ (updN (a_rh σ) ((a_rn σ) + 1) (j))) (vp_updL (a_rd σ) ((a_rn σ) + 1) (d))) ((a_rn σ) + 1))) H := hP
  have hD : va_D A (wA a t (au_rn (au_rd (au_rh σ (updN (a_rh σ) ((a_rn σ) + 1) (j))) (vp_updL (a_rd σ) ((a_rn σ) + 1) (d))) ((a_rn σ) + 1))) := hD
  refine lv_aload_n hx hb d_R_add_39 rfl (lv_at hl 0 rfl) ?_
  refine va_get (D := (dC, dI)) (C := R_R) (T := F_R) (N := 3) hx hb hT i_R hown hK hP 15 rfl rfl 2 (by decide) (hT _ k_R_19) (fun _ h9 => h9) (v := .int (nI ((a_rn σ) + 1))) rfl d_R_add_40 ?_
  exact x_mi (wl := wA a t) (au_rn (au_rd (au_rh σ (updN (a_rh σ) ((a_rn σ) + 1) (j))) (vp_updL (a_rd σ) ((a_rn σ) + 1) (d))) ((a_rn σ) + 1)) hx hb hr hlk hK hP hD hS d_R_add_43 ⟨rfl, rfl⟩

set_option maxRecDepth 100000 in
set_option maxHeartbeats 4000000 in
theorem c_R_headingOf (l : Launch) (dC : Nat → ClassId) (dI : Nat → Nat → Nat) (a : Nat → Nat) (t : Nat → ClassId) (σ : SA) (hG : GA σ) (x : Int32) : Met l y_R_headingOf (wS y_R_headingOf b_R_headingOf 2 (some .int)) (rD 0) (va_Pc [.ref (a 15), .int x] (RB (dC, dI) (yA t) (wA a t σ))) (vp_Si (fun r => (∃ j, 1 ≤ j ∧ j ≤ a_rn σ ∧ x = nI j ∧ r = nI (a_rh σ j)) ∨ ((¬ ∃ j, 1 ≤ j ∧ j ≤ a_rn σ ∧ x = nI j) ∧ r = nI 0))) 0 0 (fun _ => False) := by
  refine x_enter (by decide) (Nat.le_of_ble_eq_true rfl) ?_
  intro p e s m below meth c ls hx hb hr hml hT hown hlk hnm hl hB
  obtain ⟨hP, hK, hN⟩ := hB
  have hl : lv_has ls 2 [(0, .ref (a 15)), (1, .int x)] := hl
  have hown : s.vm.findClass R_R = some m.cls := hown
  have hG2 := hG
  obtain ⟨g_sn, g_sg, g_tn, g_tx, g_kd, g_lv, g_le, g_ln, g_hn, g_lf, g_lt, g_lc, g_rh, g_rn, g_ws, g_wn⟩ := hG
  refine lv_iload_n hx hb d_R_headingOf_0 rfl (lv_at hl 1 rfl) ?_
  refine lv_iconst (v := nI 1) hx hb d_R_headingOf_1 (by decide) ?_
  refine lv_icmp_lt (tgt := 22) hx hb d_R_headingOf_2 (by decide) (fun c2 => ?_) (fun c2 => ?_)
  · refine lv_iconst (v := nI 0) hx hb d_R_headingOf_22 (by decide) ?_
    exact x_ri hx hb hr hlk d_R_headingOf_23 (Or.inr ⟨by first | exact x_there1 (by omega) (by assumption) | exact x_there2 (by omega) (by assumption), rfl⟩)
  · refine lv_iload_n hx hb d_R_headingOf_5 rfl (lv_at hl 1 rfl) ?_
    refine lv_aload_n hx hb d_R_headingOf_6 rfl (lv_at hl 0 rfl) ?_
    refine va_get (D := (dC, dI)) (C := R_R) (T := F_R) (N := 3) hx hb hT i_R hown hK hP 15 rfl rfl 2 (by decide) (hT _ k_R_19) (fun _ h9 => h9) (v := .int (nI (a_rn σ))) rfl d_R_headingOf_7 ?_
    refine lv_icmp_gt (tgt := 22) hx hb d_R_headingOf_10 (by decide) (fun c10 => ?_) (fun c10 => ?_)
    · refine lv_iconst (v := nI 0) hx hb d_R_headingOf_22 (by decide) ?_
      exact x_ri hx hb hr hlk d_R_headingOf_23 (Or.inr ⟨by first | exact x_there1 (by omega) (by assumption) | exact x_there2 (by omega) (by assumption), rfl⟩)
    · obtain ⟨j, hj1, hj2, rfl⟩ := x_there (by omega) c2 c10
      refine lv_aload_n hx hb d_R_headingOf_13 rfl (lv_at hl 0 rfl) ?_
      refine va_get (D := (dC, dI)) (C := R_R) (T := F_R) (N := 3) hx hb hT i_R hown hK hP 15 rfl rfl 0 (by decide) (hT _ k_R_9) (fun _ h9 => h9) (v := .ref (a 16)) rfl d_R_headingOf_14 ?_
      refine lv_iload_n hx hb d_R_headingOf_17 rfl (lv_at hl 1 rfl) ?_
      refine x_iald hx hb hK hP 16 10 (f := (a_rh σ)) rfl rfl d_R_headingOf_18 (by omega) ?_
      refine lv_goto (tgt := 23) hx hb d_R_headingOf_19 (by decide) ?_
      exact x_ri hx hb hr hlk d_R_headingOf_23 (Or.inl ⟨j, hj1, hj2, rfl, rfl⟩)

def cntN (f : Nat → Nat) (h : Nat) : Nat → Nat
  | 0 => 0
  | n + 1 => cntN f h n + if f (n + 1) = h then 1 else 0
theorem cntN_le (f : Nat → Nat) (h : Nat) : ∀ n, cntN f h n ≤ n := by
  intro n
  induction n with
  | zero => exact Nat.le_refl _
  | succ n ih => simp only [cntN]; split <;> omega
set_option maxRecDepth 100000 in
set_option maxHeartbeats 4000000 in
theorem c_R_countOf (l : Launch) (dC : Nat → ClassId) (dI : Nat → Nat → Nat) (a : Nat → Nat) (t : Nat → ClassId) (σ : SA) (hG : GA σ) (j : Nat) (hj : j ≤ 60) : Met l y_R_countOf (wS y_R_countOf b_R_countOf 4 (some .int)) (rD 0) (va_Pc [.ref (a 15), .int (nI j)] (RB (dC, dI) (yA t) (wA a t σ))) (vp_Si (fun r => r = nI (cntN (a_rh σ) j (a_rn σ)))) 0 0 (fun _ => False) := by
  refine x_enter (by decide) (Nat.le_of_ble_eq_true rfl) ?_
  intro p e s m below meth c ls hx hb hr hml hT hown hlk hnm hl hB
  obtain ⟨hP, hK, hN⟩ := hB
  have hl : lv_has ls 4 [(0, .ref (a 15)), (1, .int (nI j))] := hl
  have hown : s.vm.findClass R_R = some m.cls := hown
  have hG2 := hG
  obtain ⟨g_sn, g_sg, g_tn, g_tx, g_kd, g_lv, g_le, g_ln, g_hn, g_lf, g_lt, g_lc, g_rh, g_rn, g_ws, g_wn⟩ := hG
  refine lv_iconst (v := nI 0) hx hb d_R_countOf_0 (by decide) ?_
  refine lv_istore_n (lv' := [(2, .int (nI 0)), (0, .ref (a 15)), (1, .int (nI j))]) hx hb d_R_countOf_1 rfl hl (by decide) rfl (fun ls hl => ?_)
  refine lv_iconst (v := nI 1) hx hb d_R_countOf_2 (by decide) ?_
  refine lv_istore_n (lv' := [(3, .int (nI 1)), (2, .int (nI 0)), (0, .ref (a 15)), (1, .int (nI j))]) hx hb d_R_countOf_3 rfl hl (by decide) rfl (fun ls hl => ?_)
  have hloop4 : ∀ (n4 : Nat) (i : Nat) (k : Nat) (ls : Array Slot), i ≤ a_rn σ → k = cntN (a_rh σ) j i → a_rn σ + 1 - i < n4 → lv_has ls 4 [(0, .ref (a 15)), (1, .int (nI j)), (2, .int (nI k)), (3, .int (nI (i + 1)))] → W p l e (rD 0) s m ([.ref (a 15), .int (nI j)] : List Value).toArray below meth c s.heap [] 0 0 (MQ below (vp_Si (fun r => r = nI (cntN (a_rh σ) j (a_rn σ)))) ([.ref (a 15), .int (nI j)] : List Value).toArray s 0 0 (fun _ => False)) (F0 m 4 ls []) := by
    intro n4
    induction n4 with
    | zero => intro i k ls _ _ h9; exact absurd h9 (Nat.not_lt_zero _)
    | succ n4 ih4 =>
      intro i k ls hi hk hmu4 hl
      refine lv_iload_n hx hb d_R_countOf_4 rfl (lv_at hl 3 rfl) ?_
      refine lv_aload_n hx hb d_R_countOf_5 rfl (lv_at hl 0 rfl) ?_
      refine va_get (D := (dC, dI)) (C := R_R) (T := F_R) (N := 3) hx hb hT i_R hown hK hP 15 rfl rfl 2 (by decide) (hT _ k_R_19) (fun _ h9 => h9) (v := .int (nI (a_rn σ))) rfl d_R_countOf_6 ?_
      refine x_icmp_gt (tgt := 31) hx hb d_R_countOf_9 (by decide) (fun c9 => ?_) (fun c9 => ?_)
      · refine lv_iload_n hx hb d_R_countOf_31 rfl (lv_at hl 2 rfl) ?_
        exact x_ri hx hb hr hlk d_R_countOf_32 (by rw [hk, show i = a_rn σ by omega])
      · have hk2 := cntN_le (a_rh σ) j i
        refine lv_aload_n hx hb d_R_countOf_12 rfl (lv_at hl 0 rfl) ?_
        refine va_get (D := (dC, dI)) (C := R_R) (T := F_R) (N := 3) hx hb hT i_R hown hK hP 15 rfl rfl 0 (by decide) (hT _ k_R_9) (fun _ h9 => h9) (v := .ref (a 16)) rfl d_R_countOf_13 ?_
        refine lv_iload_n hx hb d_R_countOf_16 rfl (lv_at hl 3 rfl) ?_
        refine x_iald hx hb hK hP 16 10 (f := (a_rh σ)) rfl rfl d_R_countOf_17 (by omega) ?_
        refine lv_iload_n hx hb d_R_countOf_18 rfl (lv_at hl 1 rfl) ?_
        have g9 := g_rh (i + 1)
        refine x_icmp_ne (tgt := 25) hx hb d_R_countOf_19 (by decide) (fun c19 => ?_) (fun c19 => ?_)
        · refine x_iinc (lv' := [(3, .int (nI ((i + 1) + 1))), (0, .ref (a 15)), (1, .int (nI j)), (2, .int (nI k))]) hx hb d_R_countOf_25 hl (k := 3) rfl (by decide) rfl (fun ls hl => ?_)
          refine lv_goto (tgt := 4) hx hb d_R_countOf_28 (by decide) ?_
          exact ih4 (i + 1) _ ls (by omega) (by simp only [cntN]; first | (rw [if_pos (by omega)]; omega) | (rw [if_neg (by omega)]; omega)) (by omega) (lv_sub hl [1, 2, 3, 0] rfl)
        · refine x_iinc (lv' := [(2, .int (nI (k + 1))), (0, .ref (a 15)), (1, .int (nI j)), (3, .int (nI (i + 1)))]) hx hb d_R_countOf_22 hl (k := 2) rfl (by decide) rfl (fun ls hl => ?_)
          refine x_iinc (lv' := [(3, .int (nI ((i + 1) + 1))), (2, .int (nI (k + 1))), (0, .ref (a 15)), (1, .int (nI j))]) hx hb d_R_countOf_25 hl (k := 3) rfl (by decide) rfl (fun ls hl => ?_)
          refine lv_goto (tgt := 4) hx hb d_R_countOf_28 (by decide) ?_
          exact ih4 (i + 1) _ ls (by omega) (by simp only [cntN]; first | (rw [if_pos (by omega)]; omega) | (rw [if_neg (by omega)]; omega)) (by omega) (lv_sub hl [2, 3, 1, 0] rfl)
  exact hloop4 _ 0 0 ls (by omega) rfl (Nat.lt_succ_self _) (lv_sub hl [2, 3, 1, 0] rfl)

def mvR (f : Nat → Nat) (d : Nat → Int64) (h g : Nat) (day : Int64) (n : Nat) : Nat → Nat := fun j => if 1 ≤ j ∧ j ≤ n ∧ f j = h ∧ day ≤ d j then g else f j
theorem mvR_0 (f : Nat → Nat) (d : Nat → Int64) (h g : Nat) (day : Int64) : mvR f d h g day 0 = f := by
  funext j
  unfold mvR
  rw [if_neg (by omega)]
theorem mvR_same {f : Nat → Nat} {d : Nat → Int64} {h g : Nat} {day : Int64} {n : Nat} (hn : ¬ (f (n + 1) = h ∧ day ≤ d (n + 1))) : mvR f d h g day (n + 1) = mvR f d h g day n := by
  funext j
  unfold mvR
  by_cases e : j = n + 1
  · subst e
    rw [if_neg (fun q => hn ⟨q.2.2.1, q.2.2.2⟩), if_neg (fun q => by omega)]
  · by_cases q : 1 ≤ j ∧ j ≤ n ∧ f j = h ∧ day ≤ d j
    · rw [if_pos q, if_pos ⟨q.1, by omega, q.2.2⟩]
    · rw [if_neg q, if_neg (fun z => q ⟨z.1, by omega, z.2.2⟩)]
theorem mvR_put {f : Nat → Nat} {d : Nat → Int64} {h g : Nat} {day : Int64} {n : Nat} (h1 : f (n + 1) = h) (h2 : day ≤ d (n + 1)) : updN (mvR f d h g day n) (n + 1) g = mvR f d h g day (n + 1) := by
  funext j
  unfold updN mvR
  by_cases e : j = n + 1
  · subst e
    rw [if_pos rfl, if_pos ⟨by omega, by omega, h1, h2⟩]
  · rw [if_neg e]
    by_cases q : 1 ≤ j ∧ j ≤ n ∧ f j = h ∧ day ≤ d j
    · rw [if_pos q, if_pos ⟨q.1, by omega, q.2.2⟩]
    · rw [if_neg q, if_neg (fun z => q ⟨z.1, by omega, z.2.2⟩)]
theorem mvR_at {f : Nat → Nat} {d : Nat → Int64} {h g : Nat} {day : Int64} {n : Nat} : mvR f d h g day n (n + 1) = f (n + 1) := by
  unfold mvR
  rw [if_neg (by omega)]
theorem mvR_le {f : Nat → Nat} {d : Nat → Int64} {h g b : Nat} {day : Int64} {n : Nat} (hf : ∀ j, f j ≤ b) (hg : g ≤ b) : ∀ j, mvR f d h g day n j ≤ b := fun j => by unfold mvR; split; exact hg; exact hf j
set_option maxRecDepth 100000 in
set_option maxHeartbeats 4000000 in
theorem c_R_move (l : Launch) (dC : Nat → ClassId) (dI : Nat → Nat → Nat) (a : Nat → Nat) (t : Nat → ClassId) (σ : SA) (sz : Nat) (hG : GA σ) (j k : Nat) (d : Int64) (hj : j ≤ 60) (hk : k ≤ 60) : Met l y_R_move (wS y_R_move b_R_move 6 none) (rD 0) (va_Pc [.ref (a 15), .int (nI j), .int (nI k), .long d] (MB (dC, dI) (yA t) (wA a t σ) sz)) (va_Qv (fun u : SA => u = au_rh σ (mvR (a_rh σ) (a_rd σ) j k d (a_rn σ))) (fun u => ME (dC, dI) (yA t) (va_A (wA a t σ) sz) (wA a t u)) (va_A (wA a t σ) sz)) 0 0 (va_A (wA a t σ) sz) := by
  refine x_enter (by decide) (Nat.le_of_ble_eq_true rfl) ?_
  intro p e s m below meth c ls hx hb hr hml hT hown hlk hnm hl hB
  obtain ⟨rfl, hP, hK, hN, hD0⟩ := hB
  have hD := hD0.self (sz := s.heap.size)
  generalize hAe : va_A (wA a t σ) s.heap.size = A at hD ⊢
  have hA : ∀ q : Nat, s.heap.size ≤ q → A q := fun q h => by rw [← hAe]; exact Or.inr h
  have hS : va_S A s.heap s.heap [] := va_S.rf
  have hP : va_P (dC, dI) classes (wA a t σ) s.heap := hP
  have hl : lv_has ls 6 [(0, .ref (a 15)), (1, .int (nI j)), (2, .int (nI k)), (3, .long d)] := hl
  have hown : s.vm.findClass R_R = some m.cls := hown
  have hG2 := hG
  obtain ⟨g_sn, g_sg, g_tn, g_tx, g_kd, g_lv, g_le, g_ln, g_hn, g_lf, g_lt, g_lc, g_rh, g_rn, g_ws, g_wn⟩ := hG
  have e0 : wA a t σ = wA a t (au_rh σ (mvR (a_rh σ) (a_rd σ) j k d 0)) := by rw [mvR_0]; rfl
  rw [e0] at hP hD
  refine lv_iconst (v := nI 1) hx hb d_R_move_0 (by decide) ?_
  refine lv_istore (lv' := [(5, .int (nI 1)), (0, .ref (a 15)), (1, .int (nI j)), (2, .int (nI k)), (3, .long d)]) hx hb d_R_move_1 hl (by decide) rfl (fun ls hl => ?_)
  have hloop3 : ∀ (n3 : Nat) (i : Nat) (H : Heap) (locs : List Loc) (ls : Array Slot), i ≤ a_rn σ → a_rn σ + 1 - i < n3 → va_P (dC, dI) classes (wA a t (au_rh σ (mvR (a_rh σ) (a_rd σ) j k d i))) H → va_D A (wA a t (au_rh σ (mvR (a_rh σ) (a_rd σ) j k d i))) → va_S A s.heap H locs → lv_has ls 6 [(0, .ref (a 15)), (1, .int (nI j)), (2, .int (nI k)), (3, .long d), (5, .int (nI (i + 1)))] → W p l e (rD 0) s m ([.ref (a 15), .int (nI j), .int (nI k), .long d] : List Value).toArray below meth c H locs 0 0 (MQ below (va_Qv (fun u : SA => u = au_rh σ (mvR (a_rh σ) (a_rd σ) j k d (a_rn σ))) (fun u => ME (dC, dI) (yA t) A (wA a t u)) A) ([.ref (a 15), .int (nI j), .int (nI k), .long d] : List Value).toArray s 0 0 A) (F0 m 3 ls []) := by
    intro n3
    induction n3 with
    | zero => intro i H locs ls _ h9; exact absurd h9 (Nat.not_lt_zero _)
    | succ n3 ih3 =>
      intro i H locs ls hi hmu3 hP hD hS hl
      refine lv_iload hx hb d_R_move_3 (lv_at hl 4 rfl) ?_
      refine lv_aload_n hx hb d_R_move_5 rfl (lv_at hl 0 rfl) ?_
      refine va_get (D := (dC, dI)) (C := R_R) (T := F_R) (N := 3) hx hb hT i_R hown hK hP 15 rfl rfl 2 (by decide) (hT _ k_R_19) (fun _ h9 => h9) (v := .int (nI (a_rn σ))) rfl d_R_move_6 ?_
      refine x_icmp_gt (tgt := 49) hx hb d_R_move_9 (by decide) (fun c9 => ?_) (fun c9 => ?_)
      · exact x_mv (wl := wA a t) (au_rh σ (mvR (a_rh σ) (a_rd σ) j k d i)) hx hb hr hlk hK hP hD hS d_R_move_49 (by rw [show i = a_rn σ by omega])
      · refine lv_aload_n hx hb d_R_move_12 rfl (lv_at hl 0 rfl) ?_
        refine va_get (D := (dC, dI)) (C := R_R) (T := F_R) (N := 3) hx hb hT i_R hown hK hP 15 rfl rfl 0 (by decide) (hT _ k_R_9) (fun _ h9 => h9) (v := .ref (a 16)) rfl d_R_move_13 ?_
        refine lv_iload hx hb d_R_move_16 (lv_at hl 4 rfl) ?_
        refine x_iald hx hb hK hP 16 10 (f := (mvR (a_rh σ) (a_rd σ) j k d i)) rfl rfl d_R_move_18 (by omega) ?_
        refine lv_iload_n hx hb d_R_move_19 rfl (lv_at hl 1 rfl) ?_
        rw [mvR_at]
        have g9 := g_rh (i + 1)
        refine x_icmp_ne (tgt := 43) hx hb d_R_move_20 (by decide) (fun c20 => ?_) (fun c20 => ?_)
        · rw [← mvR_same (g := k) (show ¬ (a_rh σ (i + 1) = j ∧ d ≤ a_rd σ (i + 1)) from fun q9 => by first | exact c20 q9.1 | exact absurd q9.2 (Int64.not_le.mpr c31))] at hP hD
          refine x_iinc (lv' := [(5, .int (nI ((i + 1) + 1))), (0, .ref (a 15)), (1, .int (nI j)), (2, .int (nI k)), (3, .long d)]) hx hb d_R_move_43 hl (k := 4) rfl (by decide) rfl (fun ls hl => ?_)
          refine lv_goto (tgt := 3) hx hb d_R_move_46 (by decide) ?_
          exact ih3 (i + 1) H locs ls (by omega) (by omega) hP hD hS (lv_sub hl [1, 2, 3, 4, 0] rfl)
        · refine lv_aload_n hx hb d_R_move_23 rfl (lv_at hl 0 rfl) ?_
          refine va_get (D := (dC, dI)) (C := R_R) (T := F_R) (N := 3) hx hb hT i_R hown hK hP 15 rfl rfl 1 (by decide) (hT _ k_R_15) (fun _ h9 => h9) (v := .ref (a 17)) rfl d_R_move_24 ?_
          refine lv_iload hx hb d_R_move_27 (lv_at hl 4 rfl) ?_
          refine x_lald hx hb hK hP 17 11 (f := (a_rd σ)) rfl rfl d_R_move_29 (by omega) ?_
          refine lv_lload_n hx hb d_R_move_30 rfl (lv_at hl 3 rfl) ?_
          refine x_lif_lt (tgt := 43) hx hb d_R_move_31 d_R_move_32 (by decide) (fun c31 => ?_) (fun c31 => ?_)
          · rw [← mvR_same (g := k) (show ¬ (a_rh σ (i + 1) = j ∧ d ≤ a_rd σ (i + 1)) from fun q9 => by first | exact c20 q9.1 | exact absurd q9.2 (Int64.not_le.mpr c31))] at hP hD
            refine x_iinc (lv' := [(5, .int (nI ((i + 1) + 1))), (0, .ref (a 15)), (1, .int (nI j)), (2, .int (nI k)), (3, .long d)]) hx hb d_R_move_43 hl (k := 4) rfl (by decide) rfl (fun ls hl => ?_)
            refine lv_goto (tgt := 3) hx hb d_R_move_46 (by decide) ?_
            exact ih3 (i + 1) H locs ls (by omega) (by omega) hP hD hS (lv_sub hl [1, 2, 3, 4, 0] rfl)
          · refine lv_aload_n hx hb d_R_move_35 rfl (lv_at hl 0 rfl) ?_
            refine va_get (D := (dC, dI)) (C := R_R) (T := F_R) (N := 3) hx hb hT i_R hown hK hP 15 rfl rfl 0 (by decide) (hT _ k_R_9) (fun _ h9 => h9) (v := .ref (a 16)) rfl d_R_move_36 ?_
            refine lv_iload hx hb d_R_move_39 (lv_at hl 4 rfl) ?_
            refine lv_iload_n hx hb d_R_move_41 rfl (lv_at hl 2 rfl) ?_
            refine x_iast hx hb hK hP hD hS 16 10 (f := (mvR (a_rh σ) (a_rd σ) j k d i)) rfl rfl d_R_move_42 (by omega) (fun H locs hP hD hS => ?_)
            have hP : va_P (dC, dI) classes (wA a t (au_rh σ (updN (mvR (a_rh σ) (a_rd σ) j k d i) (i + 1) (k)))) H := hP
            have hD : va_D A (wA a t (au_rh σ (updN (mvR (a_rh σ) (a_rd σ) j k d i) (i + 1) (k)))) := hD
            rw [mvR_put (by omega) (by first | exact Int64.not_lt.mp c31 | assumption)] at hP hD
            refine x_iinc (lv' := [(5, .int (nI ((i + 1) + 1))), (0, .ref (a 15)), (1, .int (nI j)), (2, .int (nI k)), (3, .long d)]) hx hb d_R_move_43 hl (k := 4) rfl (by decide) rfl (fun ls hl => ?_)
            refine lv_goto (tgt := 3) hx hb d_R_move_46 (by decide) ?_
            exact ih3 (i + 1) H locs ls (by omega) (by omega) hP hD hS (lv_sub hl [1, 2, 3, 4, 0] rfl)
  exact hloop3 _ 0 _ _ ls (by omega) (Nat.lt_succ_self _) hP hD hS (lv_sub hl [1, 2, 3, 4, 0] rfl)

set_option maxRecDepth 100000 in
set_option maxHeartbeats 4000000 in
theorem c_Y_at (l : Launch) (dC : Nat → ClassId) (dI : Nat → Nat → Nat) (a : Nat → Nat) (t : Nat → ClassId) (σ : SA) (hG : GA σ) (x : Int32) : Met l y_Y_at (wS y_Y_at b_Y_at 2 (some .int)) (rD 0) (va_Pc [.ref (a 18), .int x] (RB (dC, dI) (yA t) (wA a t σ))) (vp_Si (fun r => (∃ i, i < a_wn σ ∧ x = nI i ∧ r = nI (a_ws σ i)) ∨ ((¬ ∃ i, i < a_wn σ ∧ x = nI i) ∧ r = nI 0))) 0 0 (fun _ => False) := by
  refine x_enter (by decide) (Nat.le_of_ble_eq_true rfl) ?_
  intro p e s m below meth c ls hx hb hr hml hT hown hlk hnm hl hB
  obtain ⟨hP, hK, hN⟩ := hB
  have hl : lv_has ls 2 [(0, .ref (a 18)), (1, .int x)] := hl
  have hown : s.vm.findClass R_Y = some m.cls := hown
  have hG2 := hG
  obtain ⟨g_sn, g_sg, g_tn, g_tx, g_kd, g_lv, g_le, g_ln, g_hn, g_lf, g_lt, g_lc, g_rh, g_rn, g_ws, g_wn⟩ := hG
  refine lv_iload_n hx hb d_Y_at_0 rfl (lv_at hl 1 rfl) ?_
  refine lv_if_lt (tgt := 21) hx hb d_Y_at_1 (by decide) (fun c1 => ?_) (fun c1 => ?_)
  · refine lv_iconst (v := nI 0) hx hb d_Y_at_21 (by decide) ?_
    exact x_ri hx hb hr hlk d_Y_at_22 (Or.inr ⟨by rintro ⟨i', h1, h2⟩; first | (rw [h2] at c1; exact absurd c1 (nI_pos (by omega))) | (have h3 := (nI_eq (by omega) (by omega)).mp h2; omega), rfl⟩)
  · obtain ⟨i, hi, rfl⟩ := nI_of c1
    refine lv_iload_n hx hb d_Y_at_4 rfl (lv_at hl 1 rfl) ?_
    refine lv_aload_n hx hb d_Y_at_5 rfl (lv_at hl 0 rfl) ?_
    refine va_get (D := (dC, dI)) (C := R_Y) (T := F_Y) (N := 3) hx hb hT i_Y hown hK hP 18 rfl rfl 1 (by decide) (hT _ k_Y_15) (fun _ h9 => h9) (v := .int (nI (a_wn σ))) rfl d_Y_at_6 ?_
    refine x_icmp_ge (tgt := 21) hx hb d_Y_at_9 (by decide) (fun c9 => ?_) (fun c9 => ?_)
    · refine lv_iconst (v := nI 0) hx hb d_Y_at_21 (by decide) ?_
      exact x_ri hx hb hr hlk d_Y_at_22 (Or.inr ⟨by rintro ⟨i', h1, h2⟩; first | (rw [h2] at c1; exact absurd c1 (nI_pos (by omega))) | (have h3 := (nI_eq (by omega) (by omega)).mp h2; omega), rfl⟩)
    · refine lv_aload_n hx hb d_Y_at_12 rfl (lv_at hl 0 rfl) ?_
      refine va_get (D := (dC, dI)) (C := R_Y) (T := F_Y) (N := 3) hx hb hT i_Y hown hK hP 18 rfl rfl 0 (by decide) (hT _ k_Y_9) (fun _ h9 => h9) (v := .ref (a 19)) rfl d_Y_at_13 ?_
      refine lv_iload_n hx hb d_Y_at_16 rfl (lv_at hl 1 rfl) ?_
      refine x_iald hx hb hK hP 19 12 (f := (a_ws σ)) rfl rfl d_Y_at_17 (by omega) ?_
      refine lv_goto (tgt := 22) hx hb d_Y_at_18 (by decide) ?_
      exact x_ri hx hb hr hlk d_Y_at_22 (Or.inl ⟨i, by omega, rfl, rfl⟩)

