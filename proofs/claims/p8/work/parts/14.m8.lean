theorem NTH_N {P : Nat → Bool} {n i : Nat} {r : Int32} (h : NTH P n i r) : ∃ v, v ≤ n ∧ r = nI v ∧ NTH P n i (nI v) := by
  rcases h with ⟨k, h1, h2, h3, rfl⟩ | ⟨h1, rfl⟩
  · exact ⟨k + 1, h1, rfl, Or.inl ⟨k, h1, h2, h3, rfl⟩⟩
  · exact ⟨0, Nat.zero_le _, rfl, Or.inr ⟨h1, rfl⟩⟩
theorem wk_s {tg aw : Nat → Int64} {S : Nat → Nat} {k v E q d : Nat} (hSj : ∀ j, j + 1 < k → NTH (bt6 (tgo tg q (S j) &&& aw (E - j))) 60 0 (nI (S (j + 1)))) (hk : 1 ≤ k) (hd : d + k = E + 1) (hn : NTH (bt6 (tgo tg q (S (k - 1)) &&& aw d)) 60 0 (nI v)) : ∀ j, j + 1 < k + 1 → NTH (bt6 (tgo tg q (updN S k v j) &&& aw (E - j))) 60 0 (nI (updN S k v (j + 1))) := by
  intro j hj
  rcases Nat.lt_or_ge (j + 1) k with h8 | h8
  · rw [updN_n (by omega), updN_n (by omega)]
    exact hSj j h8
  · have h7 : k = j + 1 := by omega
    subst h7
    have h6 : E - j = d := by omega
    rw [updN_n (by omega), updN_s, h6]
    exact hn
set_option maxRecDepth 100000 in
set_option maxHeartbeats 4000000 in
theorem c_Y_walk (l : Launch) (dC : Nat → ClassId) (dI : Nat → Nat → Nat) (a : Nat → Nat) (t : Nat → ClassId) (σ : SA) (sz : Nat) (q x E : Nat) (hq : q < 4) (hx9 : x ≤ 60) (hE : E < 59) (hws : ∀ j, a_ws σ j ≤ 60) : Met l y_Y_walk (wS y_Y_walk b_Y_walk 8 none) (rD 3) (va_Pc [.ref (a 18), .ref (a 10), .int (nI q), .int (nI x), .int (nI (E + 1))] (MB (dC, dI) (yA t) (wA a t σ) sz)) (va_Qv (fun u : SA => ∃ S : Nat → Nat, u = au_wn (au_ws σ S) (E + 2) ∧ (∀ j, S j ≤ 60) ∧ S 0 = x ∧ ∀ j, j < E + 1 → NTH (bt6 (tgo (a_tg σ) q (S j) &&& a_aw σ (E - j))) 60 0 (nI (S (j + 1)))) (fun u => ME (dC, dI) (yA t) (va_A (wA a t σ) sz) (wA a t u)) (va_A (wA a t σ) sz)) 0 0 (va_A (wA a t σ) sz) := by
  refine x_enter (by decide) (Nat.le_of_ble_eq_true rfl) ?_
  intro p e s m below meth c ls hx hb hr hml hT hown hlk hnm hl hB
  obtain ⟨rfl, hP, hK, hN, hD0⟩ := hB
  have hD := hD0.self (sz := s.heap.size)
  generalize hAe : va_A (wA a t σ) s.heap.size = A at hD ⊢
  have hA : ∀ q : Nat, s.heap.size ≤ q → A q := fun q h => by rw [← hAe]; exact Or.inr h
  have hS : va_S A s.heap s.heap [] := va_S.rf
  have hP : va_P (dC, dI) classes (wA a t σ) s.heap := hP
  have hl : lv_has ls 8 [(0, .ref (a 18)), (1, .ref (a 10)), (2, .int (nI q)), (3, .int (nI x)), (4, .int (nI (E + 1)))] := hl
  have hown : s.vm.findClass R_Y = some m.cls := hown
  refine lv_aload_n hx hb d_Y_walk_0 rfl (lv_at hl 0 rfl) ?_
  refine va_get (D := (dC, dI)) (C := R_Y) (T := F_Y) (N := 3) hx hb hT i_Y hown hK hP 18 rfl rfl 0 (by decide) (hT _ k_Y_9) (fun _ h9 => h9) (v := .ref (a 19)) rfl d_Y_walk_1 ?_
  refine lv_iconst (v := nI 0) hx hb d_Y_walk_4 (by decide) ?_
  refine lv_iload_n hx hb d_Y_walk_5 rfl (lv_at hl 3 rfl) ?_
  refine x_iast hx hb hK hP hD hS 19 12 (f := (a_ws σ)) rfl rfl d_Y_walk_6 (by omega) (fun H locs hP hD hS => ?_)
  have hP : va_P (dC, dI) classes (wA a t (au_ws σ (updN (a_ws σ) (0) (x)))) H := hP
  have hD : va_D A (wA a t (au_ws σ (updN (a_ws σ) (0) (x)))) := hD
  refine lv_aload_n hx hb d_Y_walk_7 rfl (lv_at hl 0 rfl) ?_
  refine lv_iconst (v := nI 1) hx hb d_Y_walk_8 (by decide) ?_
  refine va_put (D := (dC, dI)) (v := .int (nI 1)) (ty := .int) (C := R_Y) (T := F_Y) (N := 3) hx hb hT i_Y ft_Y ft_Y_ok n_Y hown hK hP hD hS 18 rfl rfl 1 (by decide) (hT _ k_Y_15) (fun _ h9 => h9) rfl (by decide +kernel) rfl rfl (Nat.le_of_ble_eq_true rfl) d_Y_walk_9 (fun H locs hP hD hS => ?_)
  have hP : va_P (dC, dI) classes (wA a t (au_wn (au_ws σ (updN (a_ws σ) (0) (x))) (1))) H := hP
  have hD : va_D A (wA a t (au_wn (au_ws σ (updN (a_ws σ) (0) (x))) (1))) := hD
  refine lv_iload hx hb d_Y_walk_12 (lv_at hl 4 rfl) ?_
  refine lv_iconst (v := nI 1) hx hb d_Y_walk_14 (by decide) ?_
  refine x_isub hx hb d_Y_walk_15 ?_
  refine lv_istore (lv' := [(5, .int (nI ((E + 1) - 1))), (0, .ref (a 18)), (1, .ref (a 10)), (2, .int (nI q)), (3, .int (nI x)), (4, .int (nI (E + 1)))]) hx hb d_Y_walk_16 hl (by decide) rfl (fun ls hl => ?_)
  have hloop18 : ∀ (n18 : Nat) (k : Nat) (S : Nat → Nat) (y : Int32) (H : Heap) (locs : List Loc) (ls : Array Slot), 1 ≤ k ∧ k ≤ E + 2 → (∀ j, S j ≤ 60) → S 0 = x → (∀ j, j + 1 < k → NTH (bt6 (tgo (a_tg σ) q (S j) &&& a_aw σ (E - j))) 60 0 (nI (S (j + 1)))) → ((∃ d, y = nI d ∧ d + k = E + 1) ∨ (y = -1 ∧ k = E + 2)) → E + 3 - k < n18 → va_P (dC, dI) classes (wA a t (au_wn (au_ws σ (S)) (k))) H → va_D A (wA a t (au_wn (au_ws σ (S)) (k))) → va_S A s.heap H locs → lv_has ls 8 [(0, .ref (a 18)), (1, .ref (a 10)), (2, .int (nI q)), (3, .int (nI x)), (4, .int (nI (E + 1))), (5, .int y)] → W p l e (rD 3) s m ([.ref (a 18), .ref (a 10), .int (nI q), .int (nI x), .int (nI (E + 1))] : List Value).toArray below meth c H locs 0 0 (MQ below (va_Qv (fun u : SA => ∃ S : Nat → Nat, u = au_wn (au_ws σ S) (E + 2) ∧ (∀ j, S j ≤ 60) ∧ S 0 = x ∧ ∀ j, j < E + 1 → NTH (bt6 (tgo (a_tg σ) q (S j) &&& a_aw σ (E - j))) 60 0 (nI (S (j + 1)))) (fun u => ME (dC, dI) (yA t) A (wA a t u)) A) ([.ref (a 18), .ref (a 10), .int (nI q), .int (nI x), .int (nI (E + 1))] : List Value).toArray s 0 0 A) (F0 m 18 ls []) := by
    intro n18
    induction n18 with
    | zero => intro k S y H locs ls _ _ _ _ _ h9; exact absurd h9 (Nat.not_lt_zero _)
    | succ n18 ih18 =>
      intro k S y H locs ls hk1 hS9 hS0 hSj hy hmu18 hP hD hS hl
      rcases hy with ⟨d, rfl, hdk⟩ | ⟨rfl, hdk⟩
      · refine lv_iload hx hb d_Y_walk_18 (lv_at hl 5 rfl) ?_
        refine x_if_lt (tgt := 89) hx hb d_Y_walk_20 (by decide) ?_
        refine lv_aload_n hx hb d_Y_walk_23 rfl (lv_at hl 0 rfl) ?_
        refine va_get (D := (dC, dI)) (C := R_Y) (T := F_Y) (N := 3) hx hb hT i_Y hown hK hP 18 rfl rfl 1 (by decide) (hT _ k_Y_15) (fun _ h9 => h9) (v := .int (nI k)) rfl d_Y_walk_24 ?_
        refine lv_bipush (v := nI 60) hx hb d_Y_walk_27 (by decide) ?_
        refine x_icmp_ge (tgt := 89) hx hb d_Y_walk_29 (by decide) (fun c29 => ?_) (fun c29 => ?_)
        · exact x_mv (wl := wA a t) (au_wn (au_ws σ (S)) (k)) hx hb hr hlk hK hP hD hS d_Y_walk_89 (by exfalso; omega)
        · refine lv_aload_n hx hb d_Y_walk_32 rfl (lv_at hl 1 rfl) ?_
          refine lv_iload_n hx hb d_Y_walk_33 rfl (lv_at hl 2 rfl) ?_
          refine lv_aload_n hx hb d_Y_walk_34 rfl (lv_at hl 0 rfl) ?_
          refine va_get (D := (dC, dI)) (C := R_Y) (T := F_Y) (N := 3) hx hb hT i_Y hown hK hP 18 rfl rfl 0 (by decide) (hT _ k_Y_9) (fun _ h9 => h9) (v := .ref (a 19)) rfl d_Y_walk_35 ?_
          refine lv_aload_n hx hb d_Y_walk_38 rfl (lv_at hl 0 rfl) ?_
          refine va_get (D := (dC, dI)) (C := R_Y) (T := F_Y) (N := 3) hx hb hT i_Y hown hK hP 18 rfl rfl 1 (by decide) (hT _ k_Y_15) (fun _ h9 => h9) (v := .int (nI k)) rfl d_Y_walk_39 ?_
          refine lv_iconst (v := nI 1) hx hb d_Y_walk_42 (by decide) ?_
          refine x_isub hx hb d_Y_walk_43 ?_
          refine x_iald hx hb hK hP 19 12 (f := S) rfl rfl d_Y_walk_44 (by omega) ?_
          refine x_cl (x_runV ⟨hx, hb, hml, hown, hT⟩ (c_K_targetsOf0 l dC dI a t (au_wn (au_ws σ S) k) q (S (k - 1)) hq (hS9 _)) f_K_targetsOf k_Y_47 blR (va_recv hK hP (ci := 3) (q0 := 10) rfl rfl) (x_bR hK hP hN) hl.1 d_Y_walk_45 rfl (lv_room (Nat.le_of_ble_eq_true rfl)) ⟨Nat.le_of_ble_eq_true rfl, Nat.le_of_ble_eq_true rfl⟩ ⟨rfl, rfl⟩ ⟨Nat.le_refl 0, Nat.le_refl 0⟩ rfl) (fun r45 q45 => ?_)
          subst q45
          refine lv_aload_n hx hb d_Y_walk_48 rfl (lv_at hl 0 rfl) ?_
          refine va_get (D := (dC, dI)) (C := R_Y) (T := F_Y) (N := 3) hx hb hT i_Y hown hK hP 18 rfl rfl 2 (by decide) (hT _ k_Y_19) (fun _ h9 => h9) (v := .ref (a 20)) rfl d_Y_walk_49 ?_
          refine lv_iload hx hb d_Y_walk_52 (lv_at hl 5 rfl) ?_
          refine x_lald hx hb hK hP 20 13 (f := (a_aw σ)) rfl rfl d_Y_walk_54 (by omega) ?_
          refine lv_land hx hb d_Y_walk_55 ?_
          refine lv_lstore (lv' := [(6, .long ((tgo (a_tg σ) q (S (k - 1))) &&& ((a_aw σ) d))), (0, .ref (a 18)), (1, .ref (a 10)), (2, .int (nI q)), (3, .int (nI x)), (4, .int (nI (E + 1))), (5, .int (nI d))]) hx hb d_Y_walk_56 hl (by decide) rfl (fun ls hl => ?_)
          refine lv_aload_n hx hb d_Y_walk_58 rfl (lv_at hl 1 rfl) ?_
          refine va_get (D := (dC, dI)) (C := R_Y) (T := F_Y) (N := 3) hx hb hT i_Y hown hK hP 18 rfl rfl 0 (by decide) (hT _ k_Y_9) (fun _ h9 => h9) (v := .ref (a 19)) rfl d_Y_walk_59 ?_
          refine lv_aload_n hx hb d_Y_walk_62 rfl (lv_at hl 1 rfl) ?_
          refine va_get (D := (dC, dI)) (C := R_Y) (T := F_Y) (N := 3) hx hb hT i_Y hown hK hP 18 rfl rfl 1 (by decide) (hT _ k_Y_15) (fun _ h9 => h9) (v := .int (nI k)) rfl d_Y_walk_63 ?_
          refine lv_lload hx hb d_Y_walk_66 (lv_at hl 0 rfl) ?_
          refine lv_iconst (v := nI 0) hx hb d_Y_walk_68 (by decide) ?_
          refine x_ci (x_runSN ⟨hx, hb, hml, hown, hT⟩ hN (c_A_nthOf l ((tgo (a_tg σ) q (S (k - 1))) &&& ((a_aw σ) d)) 0 (by decide)) f_A_nthOf k_Y_51 blT (x_bT hN) hl.1 d_Y_walk_69 rfl (lv_room (Nat.le_of_ble_eq_true rfl)) ⟨Nat.le_of_ble_eq_true rfl, Nat.le_of_ble_eq_true rfl⟩ ⟨rfl, rfl⟩ ⟨Nat.le_refl 0, Nat.le_refl 0⟩ rfl) (fun r69 q69 => ?_)
          obtain ⟨v, hv, rfl, hnv⟩ := NTH_N q69
          refine x_iast hx hb hK hP hD hS 19 12 (f := S) rfl rfl d_Y_walk_72 (by omega) (fun H locs hP hD hS => ?_)
          have hP : va_P (dC, dI) classes (wA a t (au_wn (au_ws σ (updN S (k) (v))) (k))) H := hP
          have hD : va_D A (wA a t (au_wn (au_ws σ (updN S (k) (v))) (k))) := hD
          refine lv_aload_n hx hb d_Y_walk_73 rfl (lv_at hl 1 rfl) ?_
          refine lv_dup hx hb d_Y_walk_74 rfl ?_
          refine va_get (D := (dC, dI)) (C := R_Y) (T := F_Y) (N := 3) hx hb hT i_Y hown hK hP 18 rfl rfl 1 (by decide) (hT _ k_Y_15) (fun _ h9 => h9) (v := .int (nI k)) rfl d_Y_walk_75 ?_
          refine lv_iconst (v := nI 1) hx hb d_Y_walk_78 (by decide) ?_
          refine x_iadd hx hb d_Y_walk_79 ?_
          refine va_put (D := (dC, dI)) (v := .int (nI (k + 1))) (ty := .int) (C := R_Y) (T := F_Y) (N := 3) hx hb hT i_Y ft_Y ft_Y_ok n_Y hown hK hP hD hS 18 rfl rfl 1 (by decide) (hT _ k_Y_15) (fun _ h9 => h9) rfl (by decide +kernel) rfl rfl (Nat.le_of_ble_eq_true rfl) d_Y_walk_80 (fun H locs hP hD hS => ?_)
          have hP : va_P (dC, dI) classes (wA a t (au_wn (au_ws σ (updN S (k) (v))) (k + 1))) H := hP
          have hD : va_D A (wA a t (au_wn (au_ws σ (updN S (k) (v))) (k + 1))) := hD
          have hl : lv_has ls 8 [(0, .ref (a 18)), (1, .ref (a 10)), (2, .int (nI q)), (3, .int (nI x)), (4, .int (nI (E + 1))), (5, .int (nI d))] := lv_sub hl [1, 2, 3, 4, 5, 6] rfl
          rcases Nat.eq_zero_or_pos d with hd0 | hd0
          · subst hd0
            refine lv_iinc (v := -1) (lv' := [(5, .int (-1)), (0, .ref (a 18)), (1, .ref (a 10)), (2, .int (nI q)), (3, .int (nI x)), (4, .int (nI (E + 1)))]) hx hb d_Y_walk_83 hl (k := 5) rfl (by decide) (by decide) rfl (fun ls hl => ?_)
            refine lv_goto (tgt := 18) hx hb d_Y_walk_86 (by decide) ?_
            exact ih18 _ _ _ H locs ls (by omega) (updN_le hS9 hv) (by rw [updN_n (by omega)]; exact hS0) (wk_s hSj hk1.1 hdk hnv) (Or.inr ⟨rfl, by omega⟩) (by omega) hP hD hS (lv_sub hl [1, 2, 3, 4, 5, 0] rfl)
          · obtain ⟨d', rfl⟩ : ∃ d', d = d' + 1 := ⟨d - 1, by omega⟩
            refine x_idec (lv' := [(5, .int (nI d')), (0, .ref (a 18)), (1, .ref (a 10)), (2, .int (nI q)), (3, .int (nI x)), (4, .int (nI (E + 1)))]) hx hb d_Y_walk_83 hl (k := 5) rfl (by decide) rfl (fun ls hl => ?_)
            refine lv_goto (tgt := 18) hx hb d_Y_walk_86 (by decide) ?_
            exact ih18 _ _ _ H locs ls (by omega) (updN_le hS9 hv) (by rw [updN_n (by omega)]; exact hS0) (wk_s hSj hk1.1 hdk hnv) (Or.inl ⟨d', rfl, by omega⟩) (by omega) hP hD hS (lv_sub hl [1, 2, 3, 4, 5, 0] rfl)
      · refine lv_iload hx hb d_Y_walk_18 (lv_at hl 5 rfl) ?_
        refine lv_if_lt (tgt := 89) hx hb d_Y_walk_20 (by decide) (fun _ => ?_) (fun h9 => absurd (by decide) h9)
        exact x_mv (wl := wA a t) (au_wn (au_ws σ (S)) (k)) hx hb hr hlk hK hP hD hS d_Y_walk_89 ⟨S, by rw [hdk], hS9, hS0, fun j hj => hSj j (by omega)⟩
  exact hloop18 _ 1 _ _ _ _ ls (by omega) (updN_le hws hx9) updN_s (fun j hj => by omega) (Or.inl ⟨E, rfl, by omega⟩) (Nat.lt_succ_self _) hP hD hS (lv_sub hl [1, 2, 3, 4, 5, 0] rfl)

theorem cntP_0 {P : Nat → Bool} : ∀ {n : Nat}, cntP P n ≤ 0 → ∀ h, 1 ≤ h → h ≤ n → ¬ P h = true := by
  intro n
  induction n with
  | zero => intro _ h h1 h2; omega
  | succ n ih =>
    intro hc h h1 h2 hp
    rcases Nat.lt_or_ge n h with h3 | h3
    · have h4 : h = n + 1 := by omega
      rw [h4] at hp
      rw [cntP_s1 hp] at hc
      omega
    · refine ih ?_ h h1 h3 hp
      have : cntP P (n + 1) = cntP P n + if P (n + 1) = true then 1 else 0 := rfl
      omega
theorem wk_ok {tg V : Nat → Int64} {S : Nat → Nat} {q x z d : Nat} (hx1 : 1 ≤ x) (hz1 : 1 ≤ z) (hz : z ≤ 60) (hl : levA tg q z (d + 1) x) (hV : ∀ e, e ≤ d + 1 → ∀ b, b < 64 → (bt6 (V e) b = true ↔ levA tg q z e b)) (h0 : S 0 = x) (hS : ∀ j, j < d + 1 → NTH (bt6 (tgo tg q (S j) &&& V (d - j))) 60 0 (nI (S (j + 1)))) (h9 : ∀ j, S j ≤ 60) : ∀ j, j < d + 1 → NTH (bt6 (tg (q * 61 + S j) &&& V (d - j))) 60 0 (nI (S (j + 1))) := by
  have eq1 : ∀ j, 1 ≤ S j → tgo tg q (S j) = tg (q * 61 + S j) := fun j hj => by unfold tgo; rw [if_neg (by omega)]
  have key : ∀ j, j ≤ d + 1 → 1 ≤ S j ∧ levA tg q z (d + 1 - j) (S j) := by
    intro j
    induction j with
    | zero => intro _; rw [h0]; exact ⟨hx1, hl⟩
    | succ j ih =>
      intro hj
      obtain ⟨i1, i2⟩ := ih (by omega)
      have i3 := hS j (by omega)
      rw [eq1 j i1] at i3
      rw [show d + 1 - j = (d - j) + 1 by omega] at i2
      obtain ⟨⟨_, _, b, hb, b1, b2⟩, _⟩ := levA_s.mp i2
      rw [show d + 1 - (j + 1) = d - j by omega]
      rcases i3 with ⟨h, k1, k2, _, k3⟩ | ⟨k1, _⟩
      · have k4 := h9 (j + 1)
        have k5 := (nI_eq (by omega) (by omega)).mp k3
        rw [k5]
        rw [b6_and, Bool.and_eq_true] at k2
        exact ⟨by omega, (hV (d - j) (by omega) (h + 1) (by omega)).mp k2.2⟩
      · exfalso
        have b3 : 1 ≤ b ∧ b ≤ 60 := by
          rcases Nat.eq_zero_or_pos (d - j) with e | e
          · rw [e] at b2; rw [levA_0.mp b2]; exact ⟨hz1, hz⟩
          · rw [show d - j = (d - j - 1) + 1 by omega] at b2
            exact ⟨(levA_s.mp b2).1.1, (levA_s.mp b2).1.2.1⟩
        refine cntP_0 k1 b b3.1 b3.2 ?_
        rw [b6_and, b1, (hV (d - j) (by omega) b hb).mpr b2]
        rfl
  intro j hj
  rw [← eq1 j (key j (by omega)).1]
  exact hS j hj
set_option maxRecDepth 100000 in
set_option maxHeartbeats 4000000 in
theorem c_Y_lay (l : Launch) (dC : Nat → ClassId) (dI : Nat → Nat → Nat) (a : Nat → Nat) (t : Nat → ClassId) (σ : SA) (sz : Nat) (hG : GA σ) (q x z : Nat) (hq : q < 4) (hx9 : x ≤ 60) (hz : z ≤ 60) (hxz : x ≠ z) (hx1 : 1 ≤ x) (hz1 : 1 ≤ z) : Met l y_Y_lay (wS y_Y_lay b_Y_lay 6 (some .boolean)) (rD 4) (va_Pc [.ref (a 18), .ref (a 10), .int (nI q), .int (nI x), .int (nI z)] (MB (dC, dI) (yA t) (wA a t σ) sz)) (va_Qi (fun (r : Int32) (u : SA) => ∃ V : Nat → Int64, (r = nI 0 ∧ u = au_aw σ V ∧ ∀ d, d < 60 → ¬ levA (a_tg σ) q z d x) ∨ ∃ (d : Nat) (S : Nat → Nat), r = nI 1 ∧ d < 59 ∧ levA (a_tg σ) q z (d + 1) x ∧ u = au_wn (au_ws (au_aw σ V) S) (d + 2) ∧ (∀ j, S j ≤ 60) ∧ S 0 = x ∧ (∀ j, j < d + 1 → NTH (bt6 (a_tg σ (q * 61 + S j) &&& V (d - j))) 60 0 (nI (S (j + 1)))) ∧ ∀ e, e ≤ d + 1 → ∀ b, b < 64 → (bt6 (V e) b = true ↔ levA (a_tg σ) q z e b)) (fun u => ME (dC, dI) (yA t) (va_A (wA a t σ) sz) (wA a t u)) (va_A (wA a t σ) sz)) 0 0 (va_A (wA a t σ) sz) := by
  refine x_enter (by decide) (Nat.le_of_ble_eq_true rfl) ?_
  intro p e s m below meth c ls hx hb hr hml hT hown hlk hnm hl hB
  obtain ⟨rfl, hP, hK, hN, hD0⟩ := hB
  have hD := hD0.self (sz := s.heap.size)
  generalize hAe : va_A (wA a t σ) s.heap.size = A at hD ⊢
  have hA : ∀ q : Nat, s.heap.size ≤ q → A q := fun q h => by rw [← hAe]; exact Or.inr h
  have hS : va_S A s.heap s.heap [] := va_S.rf
  have hP : va_P (dC, dI) classes (wA a t σ) s.heap := hP
  have hl : lv_has ls 6 [(0, .ref (a 18)), (1, .ref (a 10)), (2, .int (nI q)), (3, .int (nI x)), (4, .int (nI z))] := hl
  have hown : s.vm.findClass R_Y = some m.cls := hown
  have hG2 := hG
  obtain ⟨g_sn, g_sg, g_tn, g_tx, g_kd, g_lv, g_le, g_ln, g_hn, g_lf, g_lt, g_lc, g_rh, g_rn, g_ws, g_wn⟩ := hG
  refine lv_aload_n hx hb d_Y_lay_0 rfl (lv_at hl 0 rfl) ?_
  refine lv_aload_n hx hb d_Y_lay_1 rfl (lv_at hl 1 rfl) ?_
  refine lv_iload_n hx hb d_Y_lay_2 rfl (lv_at hl 2 rfl) ?_
  refine lv_iload_n hx hb d_Y_lay_3 rfl (lv_at hl 3 rfl) ?_
  refine lv_iload hx hb d_Y_lay_4 (lv_at hl 4 rfl) ?_
  refine x_cMi (wl := wA a t) (x_runV ⟨hx, hb, hml, hown, hT⟩ (c_Y_measure l dC dI a t σ s.heap.size q x z hq hx9 hz) f_Y_measure k_Y_23 blM (va_recv hK hP (ci := 5) (q0 := 18) rfl rfl) (x_bM hK hP hN hD) hl.1 d_Y_lay_6 rfl (lv_room (Nat.le_of_ble_eq_true rfl)) ⟨Nat.le_of_ble_eq_true rfl, Nat.le_of_ble_eq_true rfl⟩ ⟨rfl, rfl⟩ ⟨Nat.le_refl 0, Nat.le_refl 0⟩ rfl) hD hS hA (fun r6 u6 H locs q6 hP hD hS => ?_)
  obtain ⟨V, rfl, hV⟩ := q6
  rcases hV with ⟨d0, hd0, rfl, hlev, hV⟩ | ⟨rfl, hno⟩
  · obtain ⟨d, rfl⟩ : ∃ d, d0 = d + 1 := ⟨d0 - 1, by rcases Nat.eq_zero_or_pos d0 with h9 | h9; rw [h9] at hlev; exact absurd (levA_0.mp hlev) hxz; omega⟩
    refine lv_istore (lv' := [(5, .int (nI (d + 1))), (0, .ref (a 18)), (1, .ref (a 10)), (2, .int (nI q)), (3, .int (nI x)), (4, .int (nI z))]) hx hb d_Y_lay_9 hl (by decide) rfl (fun ls hl => ?_)
    refine lv_iload hx hb d_Y_lay_11 (lv_at hl 0 rfl) ?_
    refine lv_iconst (v := -1) hx hb d_Y_lay_13 (by decide) ?_
    refine lv_icmp_ne (tgt := 19) hx hb d_Y_lay_14 (by decide) (fun _ => ?_) (fun h9 => absurd h9 (nI_m1 (by omega)))
    refine lv_aload_n hx hb d_Y_lay_19 rfl (lv_at hl 1 rfl) ?_
    refine lv_aload_n hx hb d_Y_lay_20 rfl (lv_at hl 2 rfl) ?_
    refine lv_iload_n hx hb d_Y_lay_21 rfl (lv_at hl 3 rfl) ?_
    refine lv_iload_n hx hb d_Y_lay_22 rfl (lv_at hl 4 rfl) ?_
    refine lv_iload hx hb d_Y_lay_23 (lv_at hl 0 rfl) ?_
    refine x_cMv (wl := wA a t) (x_runV ⟨hx, hb, hml, hown, hT⟩ (c_Y_walk l dC dI a t (au_aw σ V) H.size q x d hq hx9 (by omega) g_ws) f_Y_walk k_Y_27 blM (va_recv hK hP (ci := 5) (q0 := 18) rfl rfl) (x_bM hK hP hN hD) hl.1 d_Y_lay_25 rfl (lv_room (Nat.le_of_ble_eq_true rfl)) ⟨Nat.le_of_ble_eq_true rfl, Nat.le_of_ble_eq_true rfl⟩ ⟨rfl, rfl⟩ ⟨Nat.le_refl 0, Nat.le_refl 0⟩ rfl) hD hS hA (fun u25 H locs q25 hP hD hS => ?_)
    obtain ⟨S, rfl, hS9, hS0, hSj⟩ := q25
    have hP : va_P (dC, dI) classes (wA a t (au_aw (au_wn (au_ws σ (S)) (d + 2)) (V))) H := hP
    have hD : va_D A (wA a t (au_aw (au_wn (au_ws σ (S)) (d + 2)) (V))) := hD
    refine lv_iconst (v := nI 1) hx hb d_Y_lay_28 (by decide) ?_
    exact x_mz (wl := wA a t) (au_aw (au_wn (au_ws σ (S)) (d + 2)) (V)) hx hb hr hlk hK hP hD hS d_Y_lay_29 rfl ⟨V, Or.inr ⟨d, S, rfl, by omega, hlev, rfl, hS9, hS0, wk_ok hx1 hz1 hz hlev hV hS0 hSj hS9, hV⟩⟩
  · refine lv_istore (lv' := [(5, .int (-1)), (0, .ref (a 18)), (1, .ref (a 10)), (2, .int (nI q)), (3, .int (nI x)), (4, .int (nI z))]) hx hb d_Y_lay_9 hl (by decide) rfl (fun ls hl => ?_)
    refine lv_iload hx hb d_Y_lay_11 (lv_at hl 0 rfl) ?_
    refine lv_iconst (v := -1) hx hb d_Y_lay_13 (by decide) ?_
    refine lv_icmp_ne (tgt := 19) hx hb d_Y_lay_14 (by decide) (fun h9 => absurd rfl h9) (fun _ => ?_)
    refine lv_iconst (v := nI 0) hx hb d_Y_lay_17 (by decide) ?_
    exact x_mz (wl := wA a t) (au_aw σ (V)) hx hb hr hlk hK hP hD hS d_Y_lay_18 rfl ⟨V, Or.inl ⟨rfl, rfl, hno⟩⟩

def ADH (σ : SA) (kk : Nat) (r : Int32) (u : SA) : Prop := (a_hn σ = 60 ∧ r = nI 0 ∧ u = σ) ∨ (a_hn σ < 60 ∧ ((∃ j, 1 ≤ j ∧ j ≤ a_hn σ ∧ r = -nI j ∧ FST (fun h => h ≠ 0 ∧ a_lv σ h = 1 ∧ a_kd σ h = kk ∧ a_same σ h) (a_hn σ) (nI j) ∧ u = σ) ∨ (FST (fun h => h ≠ 0 ∧ a_lv σ h = 1 ∧ a_kd σ h = kk ∧ a_same σ h) (a_hn σ) (nI 0) ∧ r = nI (a_hn σ + 1) ∧ u = au_hn (au_ln (au_le (au_lv (au_kd σ (updN (a_kd σ) (a_hn σ + 1) kk)) (updN (a_lv σ) (a_hn σ + 1) 1)) (cpT (a_le σ) ((a_hn σ + 1) * 20) (a_tx σ) (a_tn σ))) (updN (a_ln σ) (a_hn σ + 1) (a_tn σ))) (a_hn σ + 1))))
set_option maxRecDepth 100000 in
set_option maxHeartbeats 4000000 in
theorem c_A_addHeading (l : Launch) (dC : Nat → ClassId) (dI : Nat → Nat → Nat) (a : Nat → Nat) (t : Nat → ClassId) (σ : SA) (sz : Nat) (hG : GA σ) (kk : Nat) (hkk : kk < 4) : Met l y_A_addHeading (wS y_A_addHeading b_A_addHeading 3 (some .int)) (rD 3) (va_Pc [.ref (a 0), .int (nI kk)] (MB (dC, dI) (yA t) (wA a t σ) sz)) (va_Qi (fun (r : Int32) (u : SA) => ADH σ kk r u) (fun u => ME (dC, dI) (yA t) (va_A (wA a t σ) sz) (wA a t u)) (va_A (wA a t σ) sz)) 0 0 (va_A (wA a t σ) sz) := by
  refine x_enter (by decide) (Nat.le_of_ble_eq_true rfl) ?_
  intro p e s m below meth c ls hx hb hr hml hT hown hlk hnm hl hB
  obtain ⟨rfl, hP, hK, hN, hD0⟩ := hB
  have hD := hD0.self (sz := s.heap.size)
  generalize hAe : va_A (wA a t σ) s.heap.size = A at hD ⊢
  have hA : ∀ q : Nat, s.heap.size ≤ q → A q := fun q h => by rw [← hAe]; exact Or.inr h
  have hS : va_S A s.heap s.heap [] := va_S.rf
  have hP : va_P (dC, dI) classes (wA a t σ) s.heap := hP
  have hl : lv_has ls 3 [(0, .ref (a 0)), (1, .int (nI kk))] := hl
  have hown : s.vm.findClass R_A = some m.cls := hown
  have hG2 := hG
  obtain ⟨g_sn, g_sg, g_tn, g_tx, g_kd, g_lv, g_le, g_ln, g_hn, g_lf, g_lt, g_lc, g_rh, g_rn, g_ws, g_wn⟩ := hG
  refine lv_aload_n hx hb d_A_addHeading_0 rfl (lv_at hl 0 rfl) ?_
  refine va_get (D := (dC, dI)) (C := R_A) (T := F_A) (N := 6) hx hb hT i_A hown hK hP 0 rfl rfl 2 (by decide) (hT _ k_A_26) (fun _ h9 => h9) (v := .ref (a 5)) rfl d_A_addHeading_1 ?_
  refine x_ci (x_runV ⟨hx, hb, hml, hown, hT⟩ (c_H_isFull l dC dI a t σ hG2) f_H_isFull k_A_162 blR (va_recv hK hP (ci := 2) (q0 := 5) rfl rfl) (x_bR hK hP hN) hl.1 d_A_addHeading_4 rfl (lv_room (Nat.le_of_ble_eq_true rfl)) ⟨Nat.le_of_ble_eq_true rfl, Nat.le_of_ble_eq_true rfl⟩ ⟨rfl, rfl⟩ ⟨Nat.le_refl 0, Nat.le_refl 0⟩ rfl) (fun r4 q4 => ?_)
  rcases q4 with ⟨rfl, hq⟩ | ⟨rfl, hq⟩
  · refine x_if_eq (tgt := 12) hx hb d_A_addHeading_7 (by decide) (fun h => absurd h (by decide)) (fun _ => ?_)
    refine lv_iconst (v := nI 0) hx hb d_A_addHeading_10 (by decide) ?_
    exact x_mi (wl := wA a t) σ hx hb hr hlk hK hP hD hS d_A_addHeading_11 (Or.inl ⟨by omega, rfl, rfl⟩)
  · refine x_if_eq (tgt := 12) hx hb d_A_addHeading_7 (by decide) (fun _ => ?_) (fun h => absurd h (by decide))
    refine lv_aload_n hx hb d_A_addHeading_12 rfl (lv_at hl 0 rfl) ?_
    refine va_get (D := (dC, dI)) (C := R_A) (T := F_A) (N := 6) hx hb hT i_A hown hK hP 0 rfl rfl 2 (by decide) (hT _ k_A_26) (fun _ h9 => h9) (v := .ref (a 5)) rfl d_A_addHeading_13 ?_
    refine lv_iload_n hx hb d_A_addHeading_16 rfl (lv_at hl 1 rfl) ?_
    refine lv_aload_n hx hb d_A_addHeading_17 rfl (lv_at hl 0 rfl) ?_
    refine va_get (D := (dC, dI)) (C := R_A) (T := F_A) (N := 6) hx hb hT i_A hown hK hP 0 rfl rfl 1 (by decide) (hT _ k_A_19) (fun _ h9 => h9) (v := .ref (a 3)) rfl d_A_addHeading_18 ?_
    refine lv_iconst (v := nI 0) hx hb d_A_addHeading_21 (by decide) ?_
    refine x_ci (x_runV ⟨hx, hb, hml, hown, hT⟩ (c_H_firstOfKind l dC dI a t σ hG2 kk 0 hkk (by omega)) f_H_firstOfKind k_A_89 blR (va_recv hK hP (ci := 2) (q0 := 5) rfl rfl) (x_bR hK hP hN) hl.1 d_A_addHeading_22 rfl (lv_room (Nat.le_of_ble_eq_true rfl)) ⟨Nat.le_of_ble_eq_true rfl, Nat.le_of_ble_eq_true rfl⟩ ⟨rfl, rfl⟩ ⟨Nat.le_refl 0, Nat.le_refl 0⟩ rfl) (fun r22 q22 => ?_)
    have qF := q22
    rcases q22 with ⟨j, hj1, hj2, _, _, rfl⟩ | ⟨_, rfl⟩
    · refine lv_istore_n (lv' := [(2, .int (nI j)), (0, .ref (a 0)), (1, .int (nI kk))]) hx hb d_A_addHeading_25 rfl hl (by decide) rfl (fun ls hl => ?_)
      refine lv_iload_n hx hb d_A_addHeading_26 rfl (lv_at hl 0 rfl) ?_
      refine x_if_eq (tgt := 33) hx hb d_A_addHeading_27 (by decide) (fun c27 => ?_) (fun c27 => ?_)
      · refine lv_aload_n hx hb d_A_addHeading_33 rfl (lv_at hl 1 rfl) ?_
        refine va_get (D := (dC, dI)) (C := R_A) (T := F_A) (N := 6) hx hb hT i_A hown hK hP 0 rfl rfl 2 (by decide) (hT _ k_A_26) (fun _ h9 => h9) (v := .ref (a 5)) rfl d_A_addHeading_34 ?_
        refine lv_iload_n hx hb d_A_addHeading_37 rfl (lv_at hl 2 rfl) ?_
        refine lv_aload_n hx hb d_A_addHeading_38 rfl (lv_at hl 1 rfl) ?_
        refine va_get (D := (dC, dI)) (C := R_A) (T := F_A) (N := 6) hx hb hT i_A hown hK hP 0 rfl rfl 1 (by decide) (hT _ k_A_19) (fun _ h9 => h9) (v := .ref (a 3)) rfl d_A_addHeading_39 ?_
        refine x_cMi (wl := wA a t) (x_runV ⟨hx, hb, hml, hown, hT⟩ (c_H_add l dC dI a t σ s.heap.size hG2 kk hkk (by omega)) f_H_add k_A_163 blM (va_recv hK hP (ci := 2) (q0 := 5) rfl rfl) (x_bM hK hP hN hD) hl.1 d_A_addHeading_42 rfl (lv_room (Nat.le_of_ble_eq_true rfl)) ⟨Nat.le_of_ble_eq_true rfl, Nat.le_of_ble_eq_true rfl⟩ ⟨rfl, rfl⟩ ⟨Nat.le_refl 0, Nat.le_refl 0⟩ rfl) hD hS hA (fun r42 u42 H locs q42 hP hD hS => ?_)
        obtain ⟨rfl, rfl⟩ := q42
        exact x_mi (wl := wA a t) (au_hn (au_ln (au_le (au_lv (au_kd σ (updN (a_kd σ) (a_hn σ + 1) kk)) (updN (a_lv σ) (a_hn σ + 1) 1)) (cpT (a_le σ) ((a_hn σ + 1) * 20) (a_tx σ) (a_tn σ))) (updN (a_ln σ) (a_hn σ + 1) (a_tn σ))) (a_hn σ + 1)) hx hb hr hlk hK hP hD hS d_A_addHeading_45 (Or.inr ⟨by omega, Or.inr ⟨by first | exact qF | (exfalso; omega), rfl, rfl⟩⟩)
      · refine lv_iload_n hx hb d_A_addHeading_30 rfl (lv_at hl 0 rfl) ?_
        refine lv_ineg hx hb d_A_addHeading_31 ?_
        exact x_mi (wl := wA a t) σ hx hb hr hlk hK hP hD hS d_A_addHeading_32 (Or.inr ⟨by omega, Or.inl ⟨j, hj1, hj2, rfl, qF, rfl⟩⟩)
    · refine lv_istore_n (lv' := [(2, .int (nI 0)), (0, .ref (a 0)), (1, .int (nI kk))]) hx hb d_A_addHeading_25 rfl hl (by decide) rfl (fun ls hl => ?_)
      refine lv_iload_n hx hb d_A_addHeading_26 rfl (lv_at hl 0 rfl) ?_
      refine x_if_eq (tgt := 33) hx hb d_A_addHeading_27 (by decide) (fun _ => ?_) (fun h => absurd h (by decide))
      refine lv_aload_n hx hb d_A_addHeading_33 rfl (lv_at hl 1 rfl) ?_
      refine va_get (D := (dC, dI)) (C := R_A) (T := F_A) (N := 6) hx hb hT i_A hown hK hP 0 rfl rfl 2 (by decide) (hT _ k_A_26) (fun _ h9 => h9) (v := .ref (a 5)) rfl d_A_addHeading_34 ?_
      refine lv_iload_n hx hb d_A_addHeading_37 rfl (lv_at hl 2 rfl) ?_
      refine lv_aload_n hx hb d_A_addHeading_38 rfl (lv_at hl 1 rfl) ?_
      refine va_get (D := (dC, dI)) (C := R_A) (T := F_A) (N := 6) hx hb hT i_A hown hK hP 0 rfl rfl 1 (by decide) (hT _ k_A_19) (fun _ h9 => h9) (v := .ref (a 3)) rfl d_A_addHeading_39 ?_
      refine x_cMi (wl := wA a t) (x_runV ⟨hx, hb, hml, hown, hT⟩ (c_H_add l dC dI a t σ s.heap.size hG2 kk hkk (by omega)) f_H_add k_A_163 blM (va_recv hK hP (ci := 2) (q0 := 5) rfl rfl) (x_bM hK hP hN hD) hl.1 d_A_addHeading_42 rfl (lv_room (Nat.le_of_ble_eq_true rfl)) ⟨Nat.le_of_ble_eq_true rfl, Nat.le_of_ble_eq_true rfl⟩ ⟨rfl, rfl⟩ ⟨Nat.le_refl 0, Nat.le_refl 0⟩ rfl) hD hS hA (fun r42 u42 H locs q42 hP hD hS => ?_)
      obtain ⟨rfl, rfl⟩ := q42
      exact x_mi (wl := wA a t) (au_hn (au_ln (au_le (au_lv (au_kd σ (updN (a_kd σ) (a_hn σ + 1) kk)) (updN (a_lv σ) (a_hn σ + 1) 1)) (cpT (a_le σ) ((a_hn σ + 1) * 20) (a_tx σ) (a_tn σ))) (updN (a_ln σ) (a_hn σ + 1) (a_tn σ))) (a_hn σ + 1)) hx hb hr hlk hK hP hD hS d_A_addHeading_45 (Or.inr ⟨by omega, Or.inr ⟨by first | exact qF | (exfalso; omega), rfl, rfl⟩⟩)

theorem src0 {tg : Nat → Int64} {x : Nat} (hx : x < 64) {r : Int64} (h : ∀ b, bt6 r b = true ↔ ∃ h, h < 60 ∧ b = h + 1 ∧ ¬ (tg (0 * 61 + (h + 1)) &&& sg x) = 0) : ¬ r = 0 ↔ ∃ h, h < 60 ∧ bt6 (tg (0 * 61 + (h + 1))) x = true := by
  constructor
  · intro hr
    rw [b6_zero] at hr
    obtain ⟨j, hj⟩ := Classical.not_forall.mp hr
    obtain ⟨hj1, hj2⟩ := Classical.not_imp.mp hj
    have hj3 : bt6 r j = true := by cases hz : bt6 r j; exact absurd hz hj2; rfl
    obtain ⟨k, hk, _, h3⟩ := (h j).mp hj3
    rw [b6_hold hx] at h3
    exact ⟨k, hk, by cases hz : bt6 (tg (0 * 61 + (k + 1))) x; exact absurd hz h3; rfl⟩
  · rintro ⟨k, hk, h2⟩ hr
    have h4 := (h (k + 1)).mpr ⟨k, hk, rfl, by rw [b6_hold hx, h2]; decide⟩
    rw [hr, b6_0] at h4
    exact absurd h4 (by decide)
set_option maxRecDepth 100000 in
set_option maxHeartbeats 4000000 in
theorem c_A_wouldChainSees (l : Launch) (dC : Nat → ClassId) (dI : Nat → Nat → Nat) (a : Nat → Nat) (t : Nat → ClassId) (σ : SA) (x z : Nat) (hx9 : x ≤ 60) (hz : z ≤ 60) (hx1 : 1 ≤ x) (hz1 : 1 ≤ z) : Met l y_A_wouldChainSees (wS y_A_wouldChainSees b_A_wouldChainSees 3 (some .boolean)) (rD 3) (va_Pc [.ref (a 0), .int (nI x), .int (nI z)] (RB (dC, dI) (yA t) (wA a t σ))) (vp_Si (fun r => BR r (¬ a_tg σ (0 * 61 + x) = 0 ∨ (∃ h, h < 60 ∧ bt6 (a_tg σ (0 * 61 + (h + 1))) x = true) ∨ ¬ a_tg σ (0 * 61 + z) = 0))) 0 0 (fun _ => False) := by
  refine x_enter (by decide) (Nat.le_of_ble_eq_true rfl) ?_
  intro p e s m below meth c ls hx hb hr hml hT hown hlk hnm hl hB
  obtain ⟨hP, hK, hN⟩ := hB
  have hl : lv_has ls 3 [(0, .ref (a 0)), (1, .int (nI x)), (2, .int (nI z))] := hl
  have hown : s.vm.findClass R_A = some m.cls := hown
  refine lv_aload_n hx hb d_A_wouldChainSees_0 rfl (lv_at hl 0 rfl) ?_
  refine va_get (D := (dC, dI)) (C := R_A) (T := F_A) (N := 6) hx hb hT i_A hown hK hP 0 rfl rfl 3 (by decide) (hT _ k_A_33) (fun _ h9 => h9) (v := .ref (a 10)) rfl d_A_wouldChainSees_1 ?_
  refine lv_iconst (v := nI 0) hx hb d_A_wouldChainSees_4 (by decide) ?_
  refine lv_iload_n hx hb d_A_wouldChainSees_5 rfl (lv_at hl 1 rfl) ?_
  refine x_cl (x_runV ⟨hx, hb, hml, hown, hT⟩ (c_K_targetsOf l dC dI a t σ 0 x (by omega) (by omega) (by omega)) f_K_targetsOf k_A_116 blR (va_recv hK hP (ci := 3) (q0 := 10) rfl rfl) (x_bR hK hP hN) hl.1 d_A_wouldChainSees_6 rfl (lv_room (Nat.le_of_ble_eq_true rfl)) ⟨Nat.le_of_ble_eq_true rfl, Nat.le_of_ble_eq_true rfl⟩ ⟨rfl, rfl⟩ ⟨Nat.le_refl 0, Nat.le_refl 0⟩ rfl) (fun r6 q6 => ?_)
  subst q6
  refine lv_lconst (v := 0) hx hb d_A_wouldChainSees_9 (by decide) ?_
  refine x_lif_ne (tgt := 45) hx hb d_A_wouldChainSees_10 d_A_wouldChainSees_11 (by decide) (fun c10 => ?_) (fun c10 => ?_)
  · refine lv_iconst (v := nI 1) hx hb d_A_wouldChainSees_45 (by decide) ?_
    refine lv_goto (tgt := 50) hx hb d_A_wouldChainSees_46 (by decide) ?_
    exact x_rz hx hb hr hlk d_A_wouldChainSees_50 rfl (Or.inl ⟨rfl, by first | exact Or.inl c10 | exact Or.inr (Or.inl (hsr.mp c27)) | exact Or.inr (Or.inr c41)⟩)
  · refine lv_aload_n hx hb d_A_wouldChainSees_14 rfl (lv_at hl 0 rfl) ?_
    refine va_get (D := (dC, dI)) (C := R_A) (T := F_A) (N := 6) hx hb hT i_A hown hK hP 0 rfl rfl 3 (by decide) (hT _ k_A_33) (fun _ h9 => h9) (v := .ref (a 10)) rfl d_A_wouldChainSees_15 ?_
    refine lv_iconst (v := nI 0) hx hb d_A_wouldChainSees_18 (by decide) ?_
    refine lv_iload_n hx hb d_A_wouldChainSees_19 rfl (lv_at hl 1 rfl) ?_
    refine x_cl (x_runS ⟨hx, hb, hml, hown, hT⟩ (c_A_setOf l x (by omega)) f_A_setOf k_A_104 blT (x_bT hN) hl.1 d_A_wouldChainSees_20 rfl (lv_room (Nat.le_of_ble_eq_true rfl)) ⟨Nat.le_of_ble_eq_true rfl, Nat.le_of_ble_eq_true rfl⟩ ⟨rfl, rfl⟩ ⟨Nat.le_refl 0, Nat.le_refl 0⟩ rfl) (fun r20 q20 => ?_)
    subst q20
    refine x_cl (x_runV ⟨hx, hb, hml, hown, hT⟩ (c_K_sourcesOf l dC dI a t σ 0 (sg x) (by omega)) f_K_sourcesOf k_A_108 blR (va_recv hK hP (ci := 3) (q0 := 10) rfl rfl) (x_bR hK hP hN) hl.1 d_A_wouldChainSees_23 rfl (lv_room (Nat.le_of_ble_eq_true rfl)) ⟨Nat.le_of_ble_eq_true rfl, Nat.le_of_ble_eq_true rfl⟩ ⟨rfl, rfl⟩ ⟨Nat.le_refl 0, Nat.le_refl 0⟩ rfl) (fun nv q23 => ?_)
    have hsr := src0 (by omega) q23
    refine lv_lconst (v := 0) hx hb d_A_wouldChainSees_26 (by decide) ?_
    refine x_lif_ne (tgt := 45) hx hb d_A_wouldChainSees_27 d_A_wouldChainSees_28 (by decide) (fun c27 => ?_) (fun c27 => ?_)
    · refine lv_iconst (v := nI 1) hx hb d_A_wouldChainSees_45 (by decide) ?_
      refine lv_goto (tgt := 50) hx hb d_A_wouldChainSees_46 (by decide) ?_
      exact x_rz hx hb hr hlk d_A_wouldChainSees_50 rfl (Or.inl ⟨rfl, by first | exact Or.inl c10 | exact Or.inr (Or.inl (hsr.mp c27)) | exact Or.inr (Or.inr c41)⟩)
    · refine lv_aload_n hx hb d_A_wouldChainSees_31 rfl (lv_at hl 0 rfl) ?_
      refine va_get (D := (dC, dI)) (C := R_A) (T := F_A) (N := 6) hx hb hT i_A hown hK hP 0 rfl rfl 3 (by decide) (hT _ k_A_33) (fun _ h9 => h9) (v := .ref (a 10)) rfl d_A_wouldChainSees_32 ?_
      refine lv_iconst (v := nI 0) hx hb d_A_wouldChainSees_35 (by decide) ?_
      refine lv_iload_n hx hb d_A_wouldChainSees_36 rfl (lv_at hl 2 rfl) ?_
      refine x_cl (x_runV ⟨hx, hb, hml, hown, hT⟩ (c_K_targetsOf l dC dI a t σ 0 z (by omega) (by omega) (by omega)) f_K_targetsOf k_A_116 blR (va_recv hK hP (ci := 3) (q0 := 10) rfl rfl) (x_bR hK hP hN) hl.1 d_A_wouldChainSees_37 rfl (lv_room (Nat.le_of_ble_eq_true rfl)) ⟨Nat.le_of_ble_eq_true rfl, Nat.le_of_ble_eq_true rfl⟩ ⟨rfl, rfl⟩ ⟨Nat.le_refl 0, Nat.le_refl 0⟩ rfl) (fun r37 q37 => ?_)
      subst q37
      refine lv_lconst (v := 0) hx hb d_A_wouldChainSees_40 (by decide) ?_
      refine x_lif_eq (tgt := 49) hx hb d_A_wouldChainSees_41 d_A_wouldChainSees_42 (by decide) (fun c41 => ?_) (fun c41 => ?_)
      · refine lv_iconst (v := nI 0) hx hb d_A_wouldChainSees_49 (by decide) ?_
        exact x_rz hx hb hr hlk d_A_wouldChainSees_50 rfl (Or.inr ⟨rfl, fun h9 => by rcases h9 with h9 | h9 | h9; exact h9 c10; exact hsr.mpr h9 c27; exact h9 c41⟩)
      · refine lv_iconst (v := nI 1) hx hb d_A_wouldChainSees_45 (by decide) ?_
        refine lv_goto (tgt := 50) hx hb d_A_wouldChainSees_46 (by decide) ?_
        exact x_rz hx hb hr hlk d_A_wouldChainSees_50 rfl (Or.inl ⟨rfl, by first | exact Or.inl c10 | exact Or.inr (Or.inl (hsr.mp c27)) | exact Or.inr (Or.inr c41)⟩)

set_option maxRecDepth 100000 in
set_option maxHeartbeats 4000000 in
theorem c_A_usedFormOf (l : Launch) (dC : Nat → ClassId) (dI : Nat → Nat → Nat) (a : Nat → Nat) (t : Nat → ClassId) (σ : SA) (x : Nat) (hx9 : x ≤ 60) (hx1 : 1 ≤ x) : Met l y_A_usedFormOf (wS y_A_usedFormOf b_A_usedFormOf 3 (some .int)) (rD 3) (va_Pc [.ref (a 0), .int (nI x)] (RB (dC, dI) (yA t) (wA a t σ))) (vp_Si (fun r => ∃ v, v ≤ 60 ∧ NTH (bt6 (a_tg σ (0 * 61 + x))) 60 0 (nI v) ∧ r = nI (if v = 0 then x else v))) 0 0 (fun _ => False) := by
  refine x_enter (by decide) (Nat.le_of_ble_eq_true rfl) ?_
  intro p e s m below meth c ls hx hb hr hml hT hown hlk hnm hl hB
  obtain ⟨hP, hK, hN⟩ := hB
  have hl : lv_has ls 3 [(0, .ref (a 0)), (1, .int (nI x))] := hl
  have hown : s.vm.findClass R_A = some m.cls := hown
  refine lv_aload_n hx hb d_A_usedFormOf_0 rfl (lv_at hl 0 rfl) ?_
  refine va_get (D := (dC, dI)) (C := R_A) (T := F_A) (N := 6) hx hb hT i_A hown hK hP 0 rfl rfl 3 (by decide) (hT _ k_A_33) (fun _ h9 => h9) (v := .ref (a 10)) rfl d_A_usedFormOf_1 ?_
  refine lv_iconst (v := nI 0) hx hb d_A_usedFormOf_4 (by decide) ?_
  refine lv_iload_n hx hb d_A_usedFormOf_5 rfl (lv_at hl 1 rfl) ?_
  refine x_cl (x_runV ⟨hx, hb, hml, hown, hT⟩ (c_K_targetsOf l dC dI a t σ 0 x (by omega) (by omega) (by omega)) f_K_targetsOf k_A_116 blR (va_recv hK hP (ci := 3) (q0 := 10) rfl rfl) (x_bR hK hP hN) hl.1 d_A_usedFormOf_6 rfl (lv_room (Nat.le_of_ble_eq_true rfl)) ⟨Nat.le_of_ble_eq_true rfl, Nat.le_of_ble_eq_true rfl⟩ ⟨rfl, rfl⟩ ⟨Nat.le_refl 0, Nat.le_refl 0⟩ rfl) (fun r6 q6 => ?_)
  subst q6
  refine lv_iconst (v := nI 0) hx hb d_A_usedFormOf_9 (by decide) ?_
  refine x_ci (x_runS ⟨hx, hb, hml, hown, hT⟩ (c_A_nthOf l (a_tg σ (0 * 61 + x)) 0 (by decide)) f_A_nthOf k_A_112 blT (x_bT hN) hl.1 d_A_usedFormOf_10 rfl (lv_room (Nat.le_of_ble_eq_true rfl)) ⟨Nat.le_of_ble_eq_true rfl, Nat.le_of_ble_eq_true rfl⟩ ⟨rfl, rfl⟩ ⟨Nat.le_refl 0, Nat.le_refl 0⟩ rfl) (fun r10 q10 => ?_)
  obtain ⟨v, hv, rfl, hnv⟩ := NTH_N q10
  refine lv_istore_n (lv' := [(2, .int (nI v)), (0, .ref (a 0)), (1, .int (nI x))]) hx hb d_A_usedFormOf_13 rfl hl (by decide) rfl (fun ls hl => ?_)
  refine lv_iload_n hx hb d_A_usedFormOf_14 rfl (lv_at hl 0 rfl) ?_
  refine x_if_ne (tgt := 22) hx hb d_A_usedFormOf_15 (by decide) (fun c15 => ?_) (fun c15 => ?_)
  · refine lv_iload_n hx hb d_A_usedFormOf_22 rfl (lv_at hl 0 rfl) ?_
    exact x_ri hx hb hr hlk d_A_usedFormOf_23 ⟨v, hv, hnv, by rw [if_neg (by omega)]⟩
  · refine lv_iload_n hx hb d_A_usedFormOf_18 rfl (lv_at hl 2 rfl) ?_
    refine lv_goto (tgt := 23) hx hb d_A_usedFormOf_19 (by decide) ?_
    exact x_ri hx hb hr hlk d_A_usedFormOf_23 ⟨v, hv, hnv, by rw [if_pos (by omega)]⟩

/-- the way of LATER links from x on a day: k steps to v -/
def FRM (f g : Nat → Nat) (d : Nat → Int64) (n : Nat) (day : Int64) : Nat → Nat → Nat → Prop
  | 0, x, v => x = v
  | k + 1, x, v => ∃ w, FRM f g d n day k x w ∧ ∃ b, BST f d n w day b ∧ v = g b
set_option maxRecDepth 100000 in
set_option maxHeartbeats 4000000 in
theorem c_A_formOn (l : Launch) (dC : Nat → ClassId) (dI : Nat → Nat → Nat) (a : Nat → Nat) (t : Nat → ClassId) (σ : SA) (hG : GA σ) (x : Nat) (d : Int64) (hx9 : x ≤ 60) (hlt : ∀ j, j < a_lc σ → 1 ≤ a_lt σ j) : Met l y_A_formOn (wS y_A_formOn b_A_formOn 7 (some .int)) (rD 1) (va_Pc [.ref (a 0), .int (nI x), .long d] (RB (dC, dI) (yA t) (wA a t σ))) (vp_Si (fun r => ∃ k v, k ≤ 60 ∧ v ≤ 60 ∧ r = nI v ∧ FRM (a_lf σ) (a_lt σ) (a_ld σ) (a_lc σ) d k x v ∧ (k = 60 ∨ NOB (a_lf σ) (a_ld σ) (a_lc σ) v d))) 0 0 (fun _ => False) := by
  refine x_enter (by decide) (Nat.le_of_ble_eq_true rfl) ?_
  intro p e s m below meth c ls hx hb hr hml hT hown hlk hnm hl hB
  obtain ⟨hP, hK, hN⟩ := hB
  have hl : lv_has ls 7 [(0, .ref (a 0)), (1, .int (nI x)), (2, .long d)] := hl
  have hown : s.vm.findClass R_A = some m.cls := hown
  have hG2 := hG
  obtain ⟨g_sn, g_sg, g_tn, g_tx, g_kd, g_lv, g_le, g_ln, g_hn, g_lf, g_lt, g_lc, g_rh, g_rn, g_ws, g_wn⟩ := hG
  refine lv_iload_n hx hb d_A_formOn_0 rfl (lv_at hl 1 rfl) ?_
  refine lv_istore (lv' := [(4, .int (nI x)), (0, .ref (a 0)), (1, .int (nI x)), (2, .long d)]) hx hb d_A_formOn_1 hl (by decide) rfl (fun ls hl => ?_)
  refine lv_iconst (v := nI 0) hx hb d_A_formOn_3 (by decide) ?_
  refine lv_istore (lv' := [(5, .int (nI 0)), (4, .int (nI x)), (0, .ref (a 0)), (1, .int (nI x)), (2, .long d)]) hx hb d_A_formOn_4 hl (by decide) rfl (fun ls hl => ?_)
  have hloop6 : ∀ (n6 : Nat) (k : Nat) (v : Nat) (ls : Array Slot), k ≤ 60 → v ≤ 60 → FRM (a_lf σ) (a_lt σ) (a_ld σ) (a_lc σ) d k x v → 61 - k < n6 → lv_has ls 7 [(0, .ref (a 0)), (1, .int (nI x)), (2, .long d), (4, .int (nI v)), (5, .int (nI k))] → W p l e (rD 1) s m ([.ref (a 0), .int (nI x), .long d] : List Value).toArray below meth c s.heap [] 0 0 (MQ below (vp_Si (fun r => ∃ k v, k ≤ 60 ∧ v ≤ 60 ∧ r = nI v ∧ FRM (a_lf σ) (a_lt σ) (a_ld σ) (a_lc σ) d k x v ∧ (k = 60 ∨ NOB (a_lf σ) (a_ld σ) (a_lc σ) v d))) ([.ref (a 0), .int (nI x), .long d] : List Value).toArray s 0 0 (fun _ => False)) (F0 m 6 ls []) := by
    intro n6
    induction n6 with
    | zero => intro k v ls _ _ _ h9; exact absurd h9 (Nat.not_lt_zero _)
    | succ n6 ih6 =>
      intro k v ls hk hv hf hmu6 hl
      refine lv_iload hx hb d_A_formOn_6 (lv_at hl 4 rfl) ?_
      refine lv_bipush (v := nI 60) hx hb d_A_formOn_8 (by decide) ?_
      refine x_icmp_ge (tgt := 43) hx hb d_A_formOn_10 (by decide) (fun c10 => ?_) (fun c10 => ?_)
      · refine lv_iload hx hb d_A_formOn_43 (lv_at hl 3 rfl) ?_
        exact x_ri hx hb hr hlk d_A_formOn_45 ⟨k, v, hk, hv, rfl, hf, Or.inl (by omega)⟩
      · refine lv_aload_n hx hb d_A_formOn_13 rfl (lv_at hl 0 rfl) ?_
        refine va_get (D := (dC, dI)) (C := R_A) (T := F_A) (N := 6) hx hb hT i_A hown hK hP 0 rfl rfl 3 (by decide) (hT _ k_A_33) (fun _ h9 => h9) (v := .ref (a 10)) rfl d_A_formOn_14 ?_
        refine lv_iload hx hb d_A_formOn_17 (lv_at hl 3 rfl) ?_
        refine lv_lload_n hx hb d_A_formOn_19 rfl (lv_at hl 2 rfl) ?_
        refine x_ci (x_runV ⟨hx, hb, hml, hown, hT⟩ (c_K_latestOn l dC dI a t σ hG2 v d hv) f_K_latestOn k_A_166 blR (va_recv hK hP (ci := 3) (q0 := 10) rfl rfl) (x_bR hK hP hN) hl.1 d_A_formOn_20 rfl (lv_room (Nat.le_of_ble_eq_true rfl)) ⟨Nat.le_of_ble_eq_true rfl, Nat.le_of_ble_eq_true rfl⟩ ⟨rfl, rfl⟩ ⟨Nat.le_refl 0, Nat.le_refl 0⟩ rfl) (fun r20 q20 => ?_)
        rcases q20 with ⟨b, hbs, rfl⟩ | ⟨hno, rfl⟩
        · have g8 := hlt b hbs.1
          have g9 := g_lt b
          refine lv_istore (lv' := [(6, .int (nI (a_lt σ b))), (0, .ref (a 0)), (1, .int (nI x)), (2, .long d), (4, .int (nI v)), (5, .int (nI k))]) hx hb d_A_formOn_23 hl (by decide) rfl (fun ls hl => ?_)
          refine lv_iload hx hb d_A_formOn_25 (lv_at hl 0 rfl) ?_
          refine x_if_ne (tgt := 33) hx hb d_A_formOn_27 (by decide) (fun c27 => ?_) (fun c27 => ?_)
          · refine lv_iload hx hb d_A_formOn_33 (lv_at hl 0 rfl) ?_
            refine lv_istore (lv' := [(4, .int (nI (a_lt σ b))), (6, .int (nI (a_lt σ b))), (0, .ref (a 0)), (1, .int (nI x)), (2, .long d), (5, .int (nI k))]) hx hb d_A_formOn_35 hl (by decide) rfl (fun ls hl => ?_)
            refine x_iinc (lv' := [(5, .int (nI (k + 1))), (4, .int (nI (a_lt σ b))), (6, .int (nI (a_lt σ b))), (0, .ref (a 0)), (1, .int (nI x)), (2, .long d)]) hx hb d_A_formOn_37 hl (k := 5) rfl (by decide) rfl (fun ls hl => ?_)
            refine lv_goto (tgt := 6) hx hb d_A_formOn_40 (by decide) ?_
            exact ih6 (k + 1) _ ls (by omega) (g_lt b) ⟨v, hf, b, hbs, rfl⟩ (by omega) (lv_sub hl [3, 4, 5, 1, 0] rfl)
          · refine lv_iload hx hb d_A_formOn_30 (lv_at hl 4 rfl) ?_
            exact x_ri hx hb hr hlk d_A_formOn_32 ⟨k, v, hk, hv, rfl, hf, by first | exact Or.inr hno | (exfalso; omega)⟩
        · refine lv_istore (lv' := [(6, .int (nI 0)), (0, .ref (a 0)), (1, .int (nI x)), (2, .long d), (4, .int (nI v)), (5, .int (nI k))]) hx hb d_A_formOn_23 hl (by decide) rfl (fun ls hl => ?_)
          refine lv_iload hx hb d_A_formOn_25 (lv_at hl 0 rfl) ?_
          refine x_if_ne (tgt := 33) hx hb d_A_formOn_27 (by decide) (fun h => absurd h (by decide)) (fun _ => ?_)
          refine lv_iload hx hb d_A_formOn_30 (lv_at hl 4 rfl) ?_
          exact x_ri hx hb hr hlk d_A_formOn_32 ⟨k, v, hk, hv, rfl, hf, by first | exact Or.inr hno | (exfalso; omega)⟩
  exact hloop6 _ 0 x ls (by omega) hx9 rfl (Nat.lt_succ_self _) (lv_sub hl [2, 3, 4, 1, 0] rfl)

