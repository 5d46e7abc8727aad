/-- where a LATER link comes from; no heading for the other sorts -/
def lf3 (σ : SM) (i : Nat) : Nat := if m_ls σ i = 3 then m_lf σ i else 1000
theorem isL_3 {σ : SM} {i v : Nat} (h1 : 1 ≤ v) (h2 : v ≤ 60) : isL σ i 3 v 0 ↔ lf3 σ i = v := by
  unfold isL lf3
  constructor
  · rintro ⟨e1, e2, _⟩
    rw [if_pos e1]
    omega
  · intro e
    by_cases h : m_ls σ i = 3
    · rw [if_pos h] at e
      exact ⟨h, Or.inr e, Or.inl rfl⟩
    · rw [if_neg h] at e
      omega
theorem lf3_3 {σ : SM} {i v : Nat} (h2 : v ≤ 60) (h : lf3 σ i = v) : m_ls σ i = 3 ∧ m_lf σ i = v := by
  unfold lf3 at h
  by_cases e : m_ls σ i = 3
  · rw [if_pos e] at h; exact ⟨e, h⟩
  · rw [if_neg e] at h; omega
set_option maxRecDepth 100000 in
set_option maxHeartbeats 4000000 in
theorem c_M_formOf (l : Launch) (dC : Nat → ClassId) (dI : Nat → Nat → Nat) (a : Nat → Nat) (t : Nat → ClassId) (σ : SM) (hG : GM σ) (hL : GL σ) (x : Nat) (d : Int64) (hx1 : 1 ≤ x) (hx9 : x ≤ 60) (rk : Nat → Nat) (hrk : ∀ i, i < m_ln σ → m_ls σ i = 3 → rk (m_lt σ i) < rk (m_lf σ i)) (hlt : ∀ i, i < m_ln σ → 1 ≤ m_lt σ i) : Met l y_M_formOf (wS y_M_formOf b_M_formOf 8 (some .int)) (rD 1) (va_Pc [.ref (a 0), .int (nI x), .long d] (RB (dC, dI) (yM t) (wM a t σ))) (vp_Si (fun r => ∃ k v, 1 ≤ v ∧ v ≤ 60 ∧ r = nI v ∧ FRM (lf3 σ) (m_lt σ) (m_ld σ) (m_ln σ) d k (x) v ∧ NOB (lf3 σ) (m_ld σ) (m_ln σ) v d)) 0 0 (fun _ => False) := by
  refine x_enter (by decide) (Nat.le_of_ble_eq_true rfl) ?_
  intro p e s m below meth c ls hx hb hr hml hT hown hlk hnm hl hB
  obtain ⟨hP, hK, hN⟩ := hB
  have hl : lv_has ls 8 [(0, .ref (a 0)), (1, .int (nI x)), (2, .long d)] := hl
  have hown : s.vm.findClass R_M = some m.cls := hown
  have hG2 := hG
  obtain ⟨g_sz, g_sd, g_hn, g_kd, g_lv, g_tx, g_zs, g_ln, g_lf, g_lt, g_rn, g_lk, g_wy, g_wn, g_di, g_co⟩ := hG
  refine lv_iload_n hx hb d_M_formOf_0 rfl (lv_at hl 1 rfl) ?_
  refine lv_istore (lv' := [(4, .int (nI x)), (0, .ref (a 0)), (1, .int (nI x)), (2, .long d)]) hx hb d_M_formOf_1 hl (by decide) rfl (fun ls hl => ?_)
  refine lv_iconst (v := nI 1) hx hb d_M_formOf_3 (by decide) ?_
  refine lv_istore (lv' := [(5, .int (nI 1)), (4, .int (nI x)), (0, .ref (a 0)), (1, .int (nI x)), (2, .long d)]) hx hb d_M_formOf_4 hl (by decide) rfl (fun ls hl => ?_)
  have hloop6 : ∀ (n6 : Nat) (ee : Nat) (v : Nat) (k : Nat) (ls : Array Slot), ee ≤ 1 → 1 ≤ v → v ≤ 60 → FRM (lf3 σ) (m_lt σ) (m_ld σ) (m_ln σ) d k x v → (ee = 0 → NOB (lf3 σ) (m_ld σ) (m_ln σ) v d) → 2 * rk v + ee < n6 → lv_has ls 8 [(0, .ref (a 0)), (1, .int (nI x)), (2, .long d), (4, .int (nI v)), (5, .int (nI ee))] → W p l e (rD 1) s m ([.ref (a 0), .int (nI x), .long d] : List Value).toArray below meth c s.heap [] 0 0 (MQ below (vp_Si (fun r => ∃ k v, 1 ≤ v ∧ v ≤ 60 ∧ r = nI v ∧ FRM (lf3 σ) (m_lt σ) (m_ld σ) (m_ln σ) d k (x) v ∧ NOB (lf3 σ) (m_ld σ) (m_ln σ) v d)) ([.ref (a 0), .int (nI x), .long d] : List Value).toArray s 0 0 (fun _ => False)) (F0 m 6 ls []) := by
    intro n6
    induction n6 with
    | zero => intro ee v k ls _ _ _ _ _ h9; exact absurd h9 (Nat.not_lt_zero _)
    | succ n6 ih6 =>
      intro ee v k ls he hv1 hv hf hnb hmu6 hl
      refine lv_iload hx hb d_M_formOf_6 (lv_at hl 4 rfl) ?_
      refine x_if_eq (tgt := 120) hx hb d_M_formOf_8 (by decide) (fun c8 => ?_) (fun c8 => ?_)
      · refine lv_iload hx hb d_M_formOf_120 (lv_at hl 3 rfl) ?_
        exact x_ri hx hb hr hlk d_M_formOf_122 ⟨k, v, hv1, hv, rfl, hf, hnb (by omega)⟩
      · refine lv_iconst (v := -1) hx hb d_M_formOf_11 (by decide) ?_
        refine lv_istore (lv' := [(6, .int (-1)), (0, .ref (a 0)), (1, .int (nI x)), (2, .long d), (4, .int (nI v)), (5, .int (nI ee))]) hx hb d_M_formOf_12 hl (by decide) rfl (fun ls hl => ?_)
        refine lv_iconst (v := nI 0) hx hb d_M_formOf_14 (by decide) ?_
        refine lv_istore (lv' := [(7, .int (nI 0)), (6, .int (-1)), (0, .ref (a 0)), (1, .int (nI x)), (2, .long d), (4, .int (nI v)), (5, .int (nI ee))]) hx hb d_M_formOf_15 hl (by decide) rfl (fun ls hl => ?_)
        have hloop17 : ∀ (n17 : Nat) (i : Nat) (y : Int32) (ls : Array Slot), i ≤ m_ln σ → ((y = -1 ∧ NOB (lf3 σ) (m_ld σ) i v d) ∨ ∃ b, y = nI b ∧ BST (lf3 σ) (m_ld σ) i v d b) → m_ln σ + 1 - i < n17 → lv_has ls 8 [(0, .ref (a 0)), (1, .int (nI x)), (2, .long d), (4, .int (nI v)), (6, .int y), (7, .int (nI i))] → W p l e (rD 1) s m ([.ref (a 0), .int (nI x), .long d] : List Value).toArray below meth c s.heap [] 0 0 (MQ below (vp_Si (fun r => ∃ k v, 1 ≤ v ∧ v ≤ 60 ∧ r = nI v ∧ FRM (lf3 σ) (m_lt σ) (m_ld σ) (m_ln σ) d k (x) v ∧ NOB (lf3 σ) (m_ld σ) (m_ln σ) v d)) ([.ref (a 0), .int (nI x), .long d] : List Value).toArray s 0 0 (fun _ => False)) (F0 m 17 ls []) := by
          intro n17
          induction n17 with
          | zero => intro i y ls _ _ h9; exact absurd h9 (Nat.not_lt_zero _)
          | succ n17 ih17 =>
            intro i y ls hi hy hmu17 hl
            rcases hy with ⟨rfl, hno⟩ | ⟨b, rfl, hbs⟩
            · refine lv_iload hx hb d_M_formOf_17 (lv_at hl 5 rfl) ?_
              refine lv_aload_n hx hb d_M_formOf_19 rfl (lv_at hl 0 rfl) ?_
              refine va_get (D := (dC, dI)) (C := R_M) (T := F_M) (N := 20) hx hb hT i_M hown hK hP 0 rfl rfl 8 (by decide) (hT _ k_M_97) (fun _ h9 => h9) (v := .int (nI (m_ln σ))) rfl d_M_formOf_20 ?_
              refine x_icmp_ge (tgt := 85) hx hb d_M_formOf_23 (by decide) (fun c23 => ?_) (fun c23 => ?_)
              · refine lv_iload hx hb d_M_formOf_85 (lv_at hl 4 rfl) ?_
                refine lv_iconst (v := -1) hx hb d_M_formOf_87 (by decide) ?_
                refine lv_icmp_eq (tgt := 95) hx hb d_M_formOf_88 (by decide) (fun _ => ?_) (fun h9 => absurd rfl h9)
                refine lv_iconst (v := nI 0) hx hb d_M_formOf_95 (by decide) ?_
                refine lv_istore (lv' := [(5, .int (nI 0)), (0, .ref (a 0)), (1, .int (nI x)), (2, .long d), (4, .int (nI v)), (6, .int (-1)), (7, .int (nI i))]) hx hb d_M_formOf_96 hl (by decide) rfl (fun ls hl => ?_)
                refine lv_iload hx hb d_M_formOf_98 (lv_at hl 0 rfl) ?_
                refine x_if_eq (tgt := 113) hx hb d_M_formOf_100 (by decide) (fun _ => ?_) (fun h => absurd h (by decide))
                refine lv_iload hx hb d_M_formOf_113 (lv_at hl 4 rfl) ?_
                refine lv_istore (lv' := [(4, .int (nI v)), (5, .int (nI 0)), (0, .ref (a 0)), (1, .int (nI x)), (2, .long d), (6, .int (-1)), (7, .int (nI i))]) hx hb d_M_formOf_115 hl (by decide) rfl (fun ls hl => ?_)
                refine lv_goto (tgt := 6) hx hb d_M_formOf_117 (by decide) ?_
                exact ih6 0 _ k ls (by omega) hv1 hv hf (fun _ => by rw [show m_ln σ = i by omega]; exact hno) (by omega) (lv_sub hl [2, 3, 4, 0, 1] rfl)
              · refine lv_aload_n hx hb d_M_formOf_26 rfl (lv_at hl 0 rfl) ?_
                refine lv_iload hx hb d_M_formOf_27 (lv_at hl 5 rfl) ?_
                refine lv_iconst (v := nI 3) hx hb d_M_formOf_29 (by decide) ?_
                refine lv_iload hx hb d_M_formOf_30 (lv_at hl 3 rfl) ?_
                refine lv_iconst (v := nI 0) hx hb d_M_formOf_32 (by decide) ?_
                refine x_ci (x_runV ⟨hx, hb, hml, hown, hT⟩ (c_M_is l dC dI a t σ hG2 hL i 3 v 0 (by omega) (by omega) hv (by omega)) f_M_is k_M_100 blR (va_recv hK hP (ci := 7) (q0 := 0) rfl rfl) (x_bR hK hP hN) hl.1 d_M_formOf_33 rfl (lv_room (Nat.le_of_ble_eq_true rfl)) ⟨Nat.le_of_ble_eq_true rfl, Nat.le_of_ble_eq_true rfl⟩ ⟨rfl, rfl⟩ ⟨Nat.le_refl 0, Nat.le_refl 0⟩ rfl) (fun r33 q33 => ?_)
                unfold BR at q33
                rw [isL_3 hv1 hv] at q33
                rcases q33 with ⟨rfl, hqq⟩ | ⟨rfl, hqq⟩
                · refine x_if_eq (tgt := 79) hx hb d_M_formOf_36 (by decide) (fun h => absurd h (by decide)) (fun _ => ?_)
                  refine lv_aload_n hx hb d_M_formOf_39 rfl (lv_at hl 0 rfl) ?_
                  refine va_get (D := (dC, dI)) (C := R_M) (T := F_M) (N := 20) hx hb hT i_M hown hK hP 0 rfl rfl 12 (by decide) (hT _ k_M_36) (fun _ h9 => h9) (v := .ref (a 9)) rfl d_M_formOf_40 ?_
                  refine lv_iload hx hb d_M_formOf_43 (lv_at hl 5 rfl) ?_
                  refine x_lald hx hb hK hP 9 8 (f := (m_ld σ)) rfl rfl d_M_formOf_45 (by omega) ?_
                  refine lv_lload_n hx hb d_M_formOf_46 rfl (lv_at hl 2 rfl) ?_
                  refine x_lif_gt (tgt := 79) hx hb d_M_formOf_47 d_M_formOf_48 (by decide) (fun c47 => ?_) (fun c47 => ?_)
                  · refine x_iinc (lv' := [(7, .int (nI (i + 1))), (0, .ref (a 0)), (1, .int (nI x)), (2, .long d), (4, .int (nI v)), (6, .int (-1))]) hx hb d_M_formOf_79 hl (k := 5) rfl (by decide) rfl (fun ls hl => ?_)
                    refine lv_goto (tgt := 17) hx hb d_M_formOf_82 (by decide) ?_
                    exact ih17 (i + 1) _ ls (by omega) (Or.inl ⟨rfl, NOB_s hno (fun q9 => by first | exact hqq q9.1 | exact absurd q9.2 (Int64.not_le.mpr c47))⟩) (by omega) (lv_sub hl [1, 2, 3, 4, 5, 0] rfl)
                  · refine lv_iload hx hb d_M_formOf_51 (lv_at hl 4 rfl) ?_
                    refine lv_iconst (v := -1) hx hb d_M_formOf_53 (by decide) ?_
                    refine lv_icmp_eq (tgt := 75) hx hb d_M_formOf_54 (by decide) (fun _ => ?_) (fun h9 => absurd rfl h9)
                    refine lv_iload hx hb d_M_formOf_75 (lv_at hl 5 rfl) ?_
                    refine lv_istore (lv' := [(6, .int (nI i)), (0, .ref (a 0)), (1, .int (nI x)), (2, .long d), (4, .int (nI v)), (7, .int (nI i))]) hx hb d_M_formOf_77 hl (by decide) rfl (fun ls hl => ?_)
                    refine x_iinc (lv' := [(7, .int (nI (i + 1))), (6, .int (nI i)), (0, .ref (a 0)), (1, .int (nI x)), (2, .long d), (4, .int (nI v))]) hx hb d_M_formOf_79 hl (k := 5) rfl (by decide) rfl (fun ls hl => ?_)
                    refine lv_goto (tgt := 17) hx hb d_M_formOf_82 (by decide) ?_
                    exact ih17 (i + 1) _ ls (by omega) (Or.inr ⟨i, rfl, by first | exact BST_new hno hqq (Int64.not_lt.mp c47) | exact BST_more hbs hqq (Int64.not_lt.mp c47) (Int64.not_le.mp c71)⟩) (by omega) (lv_sub hl [2, 3, 4, 5, 1, 0] rfl)
                · refine x_if_eq (tgt := 79) hx hb d_M_formOf_36 (by decide) (fun _ => ?_) (fun h => absurd h (by decide))
                  refine x_iinc (lv' := [(7, .int (nI (i + 1))), (0, .ref (a 0)), (1, .int (nI x)), (2, .long d), (4, .int (nI v)), (6, .int (-1))]) hx hb d_M_formOf_79 hl (k := 5) rfl (by decide) rfl (fun ls hl => ?_)
                  refine lv_goto (tgt := 17) hx hb d_M_formOf_82 (by decide) ?_
                  exact ih17 (i + 1) _ ls (by omega) (Or.inl ⟨rfl, NOB_s hno (fun q9 => by first | exact hqq q9.1 | exact absurd q9.2 (Int64.not_le.mpr c47))⟩) (by omega) (lv_sub hl [1, 2, 3, 4, 5, 0] rfl)
            · refine lv_iload hx hb d_M_formOf_17 (lv_at hl 5 rfl) ?_
              refine lv_aload_n hx hb d_M_formOf_19 rfl (lv_at hl 0 rfl) ?_
              refine va_get (D := (dC, dI)) (C := R_M) (T := F_M) (N := 20) hx hb hT i_M hown hK hP 0 rfl rfl 8 (by decide) (hT _ k_M_97) (fun _ h9 => h9) (v := .int (nI (m_ln σ))) rfl d_M_formOf_20 ?_
              refine x_icmp_ge (tgt := 85) hx hb d_M_formOf_23 (by decide) (fun c23 => ?_) (fun c23 => ?_)
              · refine lv_iload hx hb d_M_formOf_85 (lv_at hl 4 rfl) ?_
                refine lv_iconst (v := -1) hx hb d_M_formOf_87 (by decide) ?_
                refine lv_icmp_eq (tgt := 95) hx hb d_M_formOf_88 (by decide) (fun h9 => absurd h9 (nI_m1 (by have := hbs.1; omega))) (fun _ => ?_)
                refine lv_iconst (v := nI 1) hx hb d_M_formOf_91 (by decide) ?_
                refine lv_goto (tgt := 96) hx hb d_M_formOf_92 (by decide) ?_
                refine lv_istore (lv' := [(5, .int (nI 1)), (0, .ref (a 0)), (1, .int (nI x)), (2, .long d), (4, .int (nI v)), (6, .int (nI b)), (7, .int (nI i))]) hx hb d_M_formOf_96 hl (by decide) rfl (fun ls hl => ?_)
                refine lv_iload hx hb d_M_formOf_98 (lv_at hl 0 rfl) ?_
                refine x_if_eq (tgt := 113) hx hb d_M_formOf_100 (by decide) (fun h => absurd h (by decide)) (fun _ => ?_)
                have hbl : BST (lf3 σ) (m_ld σ) (m_ln σ) v d b := by rw [show m_ln σ = i by omega]; exact hbs
                have hr9 : rk (m_lt σ b) < rk v := by have h7 := lf3_3 hv hbl.2.1; have h8 := hrk b hbl.1 h7.1; rw [h7.2] at h8; exact h8
                refine lv_aload_n hx hb d_M_formOf_103 rfl (lv_at hl 1 rfl) ?_
                refine va_get (D := (dC, dI)) (C := R_M) (T := F_M) (N := 20) hx hb hT i_M hown hK hP 0 rfl rfl 11 (by decide) (hT _ k_M_33) (fun _ h9 => h9) (v := .ref (a 8)) rfl d_M_formOf_104 ?_
                refine lv_iload hx hb d_M_formOf_107 (lv_at hl 5 rfl) ?_
                refine x_iald hx hb hK hP 8 7 (f := (m_lt σ)) rfl rfl d_M_formOf_109 (by have := hbs.1; omega) ?_
                refine lv_goto (tgt := 115) hx hb d_M_formOf_110 (by decide) ?_
                refine lv_istore (lv' := [(4, .int (nI ((m_lt σ) b))), (5, .int (nI 1)), (0, .ref (a 0)), (1, .int (nI x)), (2, .long d), (6, .int (nI b)), (7, .int (nI i))]) hx hb d_M_formOf_115 hl (by decide) rfl (fun ls hl => ?_)
                refine lv_goto (tgt := 6) hx hb d_M_formOf_117 (by decide) ?_
                exact ih6 1 _ (k + 1) ls (by omega) (hlt b (by have := hbs.1; omega)) (g_lt b) ⟨v, hf, b, hbl, rfl⟩ (fun h9 => absurd h9 (by decide)) (by omega) (lv_sub hl [2, 3, 4, 0, 1] rfl)
              · refine lv_aload_n hx hb d_M_formOf_26 rfl (lv_at hl 0 rfl) ?_
                refine lv_iload hx hb d_M_formOf_27 (lv_at hl 5 rfl) ?_
                refine lv_iconst (v := nI 3) hx hb d_M_formOf_29 (by decide) ?_
                refine lv_iload hx hb d_M_formOf_30 (lv_at hl 3 rfl) ?_
                refine lv_iconst (v := nI 0) hx hb d_M_formOf_32 (by decide) ?_
                refine x_ci (x_runV ⟨hx, hb, hml, hown, hT⟩ (c_M_is l dC dI a t σ hG2 hL i 3 v 0 (by omega) (by omega) hv (by omega)) f_M_is k_M_100 blR (va_recv hK hP (ci := 7) (q0 := 0) rfl rfl) (x_bR hK hP hN) hl.1 d_M_formOf_33 rfl (lv_room (Nat.le_of_ble_eq_true rfl)) ⟨Nat.le_of_ble_eq_true rfl, Nat.le_of_ble_eq_true rfl⟩ ⟨rfl, rfl⟩ ⟨Nat.le_refl 0, Nat.le_refl 0⟩ rfl) (fun r33 q33 => ?_)
                unfold BR at q33
                rw [isL_3 hv1 hv] at q33
                rcases q33 with ⟨rfl, hqq⟩ | ⟨rfl, hqq⟩
                · refine x_if_eq (tgt := 79) hx hb d_M_formOf_36 (by decide) (fun h => absurd h (by decide)) (fun _ => ?_)
                  refine lv_aload_n hx hb d_M_formOf_39 rfl (lv_at hl 0 rfl) ?_
                  refine va_get (D := (dC, dI)) (C := R_M) (T := F_M) (N := 20) hx hb hT i_M hown hK hP 0 rfl rfl 12 (by decide) (hT _ k_M_36) (fun _ h9 => h9) (v := .ref (a 9)) rfl d_M_formOf_40 ?_
                  refine lv_iload hx hb d_M_formOf_43 (lv_at hl 5 rfl) ?_
                  refine x_lald hx hb hK hP 9 8 (f := (m_ld σ)) rfl rfl d_M_formOf_45 (by omega) ?_
                  refine lv_lload_n hx hb d_M_formOf_46 rfl (lv_at hl 2 rfl) ?_
                  refine x_lif_gt (tgt := 79) hx hb d_M_formOf_47 d_M_formOf_48 (by decide) (fun c47 => ?_) (fun c47 => ?_)
                  · refine x_iinc (lv' := [(7, .int (nI (i + 1))), (0, .ref (a 0)), (1, .int (nI x)), (2, .long d), (4, .int (nI v)), (6, .int (nI b))]) hx hb d_M_formOf_79 hl (k := 5) rfl (by decide) rfl (fun ls hl => ?_)
                    refine lv_goto (tgt := 17) hx hb d_M_formOf_82 (by decide) ?_
                    exact ih17 (i + 1) _ ls (by omega) (Or.inr ⟨b, rfl, BST_same hbs (by first | exact Or.inr (Int64.not_lt.mpr c71) | exact Or.inl (fun q9 => by first | exact hqq q9.1 | exact absurd q9.2 (Int64.not_le.mpr c47)))⟩) (by omega) (lv_sub hl [1, 2, 3, 4, 5, 0] rfl)
                  · refine lv_iload hx hb d_M_formOf_51 (lv_at hl 4 rfl) ?_
                    refine lv_iconst (v := -1) hx hb d_M_formOf_53 (by decide) ?_
                    refine lv_icmp_eq (tgt := 75) hx hb d_M_formOf_54 (by decide) (fun h9 => absurd h9 (nI_m1 (by have := hbs.1; omega))) (fun _ => ?_)
                    refine lv_aload_n hx hb d_M_formOf_57 rfl (lv_at hl 0 rfl) ?_
                    refine va_get (D := (dC, dI)) (C := R_M) (T := F_M) (N := 20) hx hb hT i_M hown hK hP 0 rfl rfl 12 (by decide) (hT _ k_M_36) (fun _ h9 => h9) (v := .ref (a 9)) rfl d_M_formOf_58 ?_
                    refine lv_iload hx hb d_M_formOf_61 (lv_at hl 5 rfl) ?_
                    refine x_lald hx hb hK hP 9 8 (f := (m_ld σ)) rfl rfl d_M_formOf_63 (by omega) ?_
                    refine lv_aload_n hx hb d_M_formOf_64 rfl (lv_at hl 0 rfl) ?_
                    refine va_get (D := (dC, dI)) (C := R_M) (T := F_M) (N := 20) hx hb hT i_M hown hK hP 0 rfl rfl 12 (by decide) (hT _ k_M_36) (fun _ h9 => h9) (v := .ref (a 9)) rfl d_M_formOf_65 ?_
                    refine lv_iload hx hb d_M_formOf_68 (lv_at hl 4 rfl) ?_
                    refine x_lald hx hb hK hP 9 8 (f := (m_ld σ)) rfl rfl d_M_formOf_70 (by have := hbs.1; omega) ?_
                    refine x_lif_le (tgt := 79) hx hb d_M_formOf_71 d_M_formOf_72 (by decide) (fun c71 => ?_) (fun c71 => ?_)
                    · refine x_iinc (lv' := [(7, .int (nI (i + 1))), (0, .ref (a 0)), (1, .int (nI x)), (2, .long d), (4, .int (nI v)), (6, .int (nI b))]) hx hb d_M_formOf_79 hl (k := 5) rfl (by decide) rfl (fun ls hl => ?_)
                      refine lv_goto (tgt := 17) hx hb d_M_formOf_82 (by decide) ?_
                      exact ih17 (i + 1) _ ls (by omega) (Or.inr ⟨b, rfl, BST_same hbs (by first | exact Or.inr (Int64.not_lt.mpr c71) | exact Or.inl (fun q9 => by first | exact hqq q9.1 | exact absurd q9.2 (Int64.not_le.mpr c47)))⟩) (by omega) (lv_sub hl [1, 2, 3, 4, 5, 0] rfl)
                    · refine lv_iload hx hb d_M_formOf_75 (lv_at hl 5 rfl) ?_
                      refine lv_istore (lv' := [(6, .int (nI i)), (0, .ref (a 0)), (1, .int (nI x)), (2, .long d), (4, .int (nI v)), (7, .int (nI i))]) hx hb d_M_formOf_77 hl (by decide) rfl (fun ls hl => ?_)
                      refine x_iinc (lv' := [(7, .int (nI (i + 1))), (6, .int (nI i)), (0, .ref (a 0)), (1, .int (nI x)), (2, .long d), (4, .int (nI v))]) hx hb d_M_formOf_79 hl (k := 5) rfl (by decide) rfl (fun ls hl => ?_)
                      refine lv_goto (tgt := 17) hx hb d_M_formOf_82 (by decide) ?_
                      exact ih17 (i + 1) _ ls (by omega) (Or.inr ⟨i, rfl, by first | exact BST_new hno hqq (Int64.not_lt.mp c47) | exact BST_more hbs hqq (Int64.not_lt.mp c47) (Int64.not_le.mp c71)⟩) (by omega) (lv_sub hl [2, 3, 4, 5, 1, 0] rfl)
                · refine x_if_eq (tgt := 79) hx hb d_M_formOf_36 (by decide) (fun _ => ?_) (fun h => absurd h (by decide))
                  refine x_iinc (lv' := [(7, .int (nI (i + 1))), (0, .ref (a 0)), (1, .int (nI x)), (2, .long d), (4, .int (nI v)), (6, .int (nI b))]) hx hb d_M_formOf_79 hl (k := 5) rfl (by decide) rfl (fun ls hl => ?_)
                  refine lv_goto (tgt := 17) hx hb d_M_formOf_82 (by decide) ?_
                  exact ih17 (i + 1) _ ls (by omega) (Or.inr ⟨b, rfl, BST_same hbs (by first | exact Or.inr (Int64.not_lt.mpr c71) | exact Or.inl (fun q9 => by first | exact hqq q9.1 | exact absurd q9.2 (Int64.not_le.mpr c47)))⟩) (by omega) (lv_sub hl [1, 2, 3, 4, 5, 0] rfl)
        exact hloop17 _ 0 _ ls (by omega) (Or.inl ⟨rfl, fun j hj => absurd hj (Nat.not_lt_zero _)⟩) (Nat.lt_succ_self _) (lv_sub hl [2, 3, 4, 5, 1, 0] rfl)
  exact hloop6 _ 1 x 0 ls (by omega) hx1 hx9 rfl (fun h9 => absurd h9 (by decide)) (Nat.lt_succ_self _) (lv_sub hl [2, 3, 4, 1, 0] rfl)

set_option maxRecDepth 100000 in
set_option maxHeartbeats 4000000 in
theorem c_M_form (l : Launch) (dC : Nat → ClassId) (dI : Nat → Nat → Nat) (a : Nat → Nat) (t : Nat → ClassId) (σ : SM) (sz : Nat) (hG : GM σ) (hL : GL σ) (x : Int32) (d : Int64) (rk : Nat → Nat) (hrk : ∀ i, i < m_ln σ → m_ls σ i = 3 → rk (m_lt σ i) < rk (m_lf σ i)) (hlt : ∀ i, i < m_ln σ → 1 ≤ m_lt σ i) : Met l y_M_form (wS y_M_form b_M_form 4 (some .int)) (rD 2) (va_Pc [.ref (a 0), .int x, .long d] (MB (dC, dI) (yM t) (wM a t σ) sz)) (va_Qi (fun (r : Int32) (u : SM) => u = σ ∧ ((¬ (∃ j, 1 ≤ j ∧ j ≤ m_hn σ ∧ m_lv σ j = 1 ∧ x = nI j) ∧ r = nI 0) ∨ ∃ j, 1 ≤ j ∧ j ≤ m_hn σ ∧ m_lv σ j = 1 ∧ x = nI j ∧ ∃ k v, 1 ≤ v ∧ v ≤ 60 ∧ r = nI v ∧ FRM (lf3 σ) (m_lt σ) (m_ld σ) (m_ln σ) d k (j) v ∧ NOB (lf3 σ) (m_ld σ) (m_ln σ) v d)) (fun u => ME (dC, dI) (yM t) (va_A (wM a t σ) sz) (wM a t u)) (va_A (wM a t σ) sz)) 0 0 (va_A (wM a t σ) sz) := by
  refine x_enter (by decide) (Nat.le_of_ble_eq_true rfl) ?_
  intro p e s m below meth c ls hx hb hr hml hT hown hlk hnm hl hB
  obtain ⟨rfl, hP, hK, hN, hD0⟩ := hB
  have hD := hD0.self (sz := s.heap.size)
  generalize hAe : va_A (wM a t σ) s.heap.size = A at hD ⊢
  have hA : ∀ q : Nat, s.heap.size ≤ q → A q := fun q h => by rw [← hAe]; exact Or.inr h
  have hS : va_S A s.heap s.heap [] := va_S.rf
  have hP : va_P (dC, dI) classes (wM a t σ) s.heap := hP
  have hl : lv_has ls 4 [(0, .ref (a 0)), (1, .int x), (2, .long d)] := hl
  have hown : s.vm.findClass R_M = some m.cls := hown
  have hG2 := hG
  obtain ⟨g_sz, g_sd, g_hn, g_kd, g_lv, g_tx, g_zs, g_ln, g_lf, g_lt, g_rn, g_lk, g_wy, g_wn, g_di, g_co⟩ := hG
  refine lv_aload_n hx hb d_M_form_0 rfl (lv_at hl 0 rfl) ?_
  refine lv_iconst (v := nI 0) hx hb d_M_form_1 (by decide) ?_
  refine va_put (D := (dC, dI)) (v := .int (nI 0)) (ty := .int) (C := R_M) (T := F_M) (N := 20) hx hb hT i_M ft_M ft_M_ok n_M hown hK hP hD hS 0 rfl rfl 0 (by decide) (hT _ k_M_52) (fun _ h9 => h9) rfl (by decide +kernel) rfl rfl (Nat.le_of_ble_eq_true rfl) d_M_form_2 (fun H locs hP hD hS => ?_)
  have hP : va_P (dC, dI) classes (wM a t σ) H := hP
  have hD : va_D A (wM a t σ) := hD
  refine lv_aload_n hx hb d_M_form_5 rfl (lv_at hl 0 rfl) ?_
  refine lv_iload_n hx hb d_M_form_6 rfl (lv_at hl 1 rfl) ?_
  refine x_ci (x_runV ⟨hx, hb, hml, hown, hT⟩ (c_M_isLive l dC dI a t σ hG2 x) f_M_isLive k_M_91 blR (va_recv hK hP (ci := 7) (q0 := 0) rfl rfl) (x_bR hK hP hN) hl.1 d_M_form_7 rfl (lv_room (Nat.le_of_ble_eq_true rfl)) ⟨Nat.le_of_ble_eq_true rfl, Nat.le_of_ble_eq_true rfl⟩ ⟨rfl, rfl⟩ ⟨Nat.le_refl 0, Nat.le_refl 0⟩ rfl) (fun r7 q7 => ?_)
  rcases q7 with ⟨rfl, j, hj1, hj2, hj3, rfl⟩ | ⟨rfl, hnj⟩
  · refine x_if_eq (tgt := 22) hx hb d_M_form_10 (by decide) (fun h => absurd h (by decide)) (fun _ => ?_)
    refine lv_aload_n hx hb d_M_form_13 rfl (lv_at hl 0 rfl) ?_
    refine lv_iload_n hx hb d_M_form_14 rfl (lv_at hl 1 rfl) ?_
    refine lv_lload_n hx hb d_M_form_15 rfl (lv_at hl 2 rfl) ?_
    refine x_ci (x_runV ⟨hx, hb, hml, hown, hT⟩ (c_M_formOf l dC dI a t σ hG2 hL j d hj1 (by omega) rk hrk hlt) f_M_formOf k_M_123 blR (va_recv hK hP (ci := 7) (q0 := 0) rfl rfl) (x_bR hK hP hN) hl.1 d_M_form_16 rfl (lv_room (Nat.le_of_ble_eq_true rfl)) ⟨Nat.le_of_ble_eq_true rfl, Nat.le_of_ble_eq_true rfl⟩ ⟨rfl, rfl⟩ ⟨Nat.le_refl 0, Nat.le_refl 0⟩ rfl) (fun r16 q16 => ?_)
    refine lv_goto (tgt := 23) hx hb d_M_form_19 (by decide) ?_
    exact x_mi (wl := wM a t) σ hx hb hr hlk hK hP hD hS d_M_form_23 ⟨rfl, Or.inr ⟨j, hj1, hj2, hj3, rfl, q16⟩⟩
  · refine x_if_eq (tgt := 22) hx hb d_M_form_10 (by decide) (fun _ => ?_) (fun h => absurd h (by decide))
    refine lv_iconst (v := nI 0) hx hb d_M_form_22 (by decide) ?_
    exact x_mi (wl := wM a t) σ hx hb hr hlk hK hP hD hS d_M_form_23 ⟨rfl, Or.inl ⟨hnj, rfl⟩⟩

set_option maxRecDepth 100000 in
set_option maxHeartbeats 4000000 in
theorem c_M_shown (l : Launch) (dC : Nat → ClassId) (dI : Nat → Nat → Nat) (a : Nat → Nat) (t : Nat → ClassId) (σ : SM) (sz : Nat) (hG : GM σ) (hL : GL σ) (x : Int32) (d : Int64) (rk : Nat → Nat) (hrk : ∀ i, i < m_ln σ → m_ls σ i = 3 → rk (m_lt σ i) < rk (m_lf σ i)) (hlt : ∀ i, i < m_ln σ → 1 ≤ m_lt σ i) : Met l y_M_shown (wS y_M_shown b_M_shown 4 (some .int)) (rD 2) (va_Pc [.ref (a 0), .int x, .long d] (MB (dC, dI) (yM t) (wM a t σ) sz)) (va_Qi (fun (r : Int32) (u : SM) => u = σ ∧ ((¬ (∃ j, 1 ≤ j ∧ j ≤ m_hn σ ∧ m_lv σ j = 1 ∧ x = nI j) ∧ r = nI 0) ∨ ∃ j, 1 ≤ j ∧ j ≤ m_hn σ ∧ m_lv σ j = 1 ∧ x = nI j ∧ ∃ v0, ((∃ i, i < m_ln σ ∧ isL σ i 0 j 0 ∧ (∀ k, k < i → ¬ isL σ k 0 j 0) ∧ v0 = m_lt σ i) ∨ ((∀ i, i < m_ln σ → ¬ isL σ i 0 j 0) ∧ v0 = j)) ∧ ∃ k v, 1 ≤ v ∧ v ≤ 60 ∧ r = nI v ∧ FRM (lf3 σ) (m_lt σ) (m_ld σ) (m_ln σ) d k (v0) v ∧ NOB (lf3 σ) (m_ld σ) (m_ln σ) v d)) (fun u => ME (dC, dI) (yM t) (va_A (wM a t σ) sz) (wM a t u)) (va_A (wM a t σ) sz)) 0 0 (va_A (wM a t σ) sz) := by
  refine x_enter (by decide) (Nat.le_of_ble_eq_true rfl) ?_
  intro p e s m below meth c ls hx hb hr hml hT hown hlk hnm hl hB
  obtain ⟨rfl, hP, hK, hN, hD0⟩ := hB
  have hD := hD0.self (sz := s.heap.size)
  generalize hAe : va_A (wM a t σ) s.heap.size = A at hD ⊢
  have hA : ∀ q : Nat, s.heap.size ≤ q → A q := fun q h => by rw [← hAe]; exact Or.inr h
  have hS : va_S A s.heap s.heap [] := va_S.rf
  have hP : va_P (dC, dI) classes (wM a t σ) s.heap := hP
  have hl : lv_has ls 4 [(0, .ref (a 0)), (1, .int x), (2, .long d)] := hl
  have hown : s.vm.findClass R_M = some m.cls := hown
  have hG2 := hG
  obtain ⟨g_sz, g_sd, g_hn, g_kd, g_lv, g_tx, g_zs, g_ln, g_lf, g_lt, g_rn, g_lk, g_wy, g_wn, g_di, g_co⟩ := hG
  refine lv_aload_n hx hb d_M_shown_0 rfl (lv_at hl 0 rfl) ?_
  refine lv_iconst (v := nI 0) hx hb d_M_shown_1 (by decide) ?_
  refine va_put (D := (dC, dI)) (v := .int (nI 0)) (ty := .int) (C := R_M) (T := F_M) (N := 20) hx hb hT i_M ft_M ft_M_ok n_M hown hK hP hD hS 0 rfl rfl 0 (by decide) (hT _ k_M_52) (fun _ h9 => h9) rfl (by decide +kernel) rfl rfl (Nat.le_of_ble_eq_true rfl) d_M_shown_2 (fun H locs hP hD hS => ?_)
  have hP : va_P (dC, dI) classes (wM a t σ) H := hP
  have hD : va_D A (wM a t σ) := hD
  refine lv_aload_n hx hb d_M_shown_5 rfl (lv_at hl 0 rfl) ?_
  refine lv_iload_n hx hb d_M_shown_6 rfl (lv_at hl 1 rfl) ?_
  refine x_ci (x_runV ⟨hx, hb, hml, hown, hT⟩ (c_M_isLive l dC dI a t σ hG2 x) f_M_isLive k_M_91 blR (va_recv hK hP (ci := 7) (q0 := 0) rfl rfl) (x_bR hK hP hN) hl.1 d_M_shown_7 rfl (lv_room (Nat.le_of_ble_eq_true rfl)) ⟨Nat.le_of_ble_eq_true rfl, Nat.le_of_ble_eq_true rfl⟩ ⟨rfl, rfl⟩ ⟨Nat.le_refl 0, Nat.le_refl 0⟩ rfl) (fun r7 q7 => ?_)
  rcases q7 with ⟨rfl, j, hj1, hj2, hj3, rfl⟩ | ⟨rfl, hnj⟩
  · refine x_if_eq (tgt := 26) hx hb d_M_shown_10 (by decide) (fun h => absurd h (by decide)) (fun _ => ?_)
    refine lv_aload_n hx hb d_M_shown_13 rfl (lv_at hl 0 rfl) ?_
    refine lv_aload_n hx hb d_M_shown_14 rfl (lv_at hl 0 rfl) ?_
    refine lv_iload_n hx hb d_M_shown_15 rfl (lv_at hl 1 rfl) ?_
    refine x_ci (x_runV ⟨hx, hb, hml, hown, hT⟩ (c_M_used l dC dI a t σ hG2 hL j (by omega)) f_M_used k_M_127 blR (va_recv hK hP (ci := 7) (q0 := 0) rfl rfl) (x_bR hK hP hN) hl.1 d_M_shown_16 rfl (lv_room (Nat.le_of_ble_eq_true rfl)) ⟨Nat.le_of_ble_eq_true rfl, Nat.le_of_ble_eq_true rfl⟩ ⟨rfl, rfl⟩ ⟨Nat.le_refl 0, Nat.le_refl 0⟩ rfl) (fun r16 q16 => ?_)
    obtain ⟨v0, rfl, hv1, hv0, hus⟩ : ∃ v0, r16 = nI v0 ∧ 1 ≤ v0 ∧ v0 ≤ 60 ∧ ((∃ i, i < m_ln σ ∧ isL σ i 0 j 0 ∧ (∀ k, k < i → ¬ isL σ k 0 j 0) ∧ v0 = m_lt σ i) ∨ ((∀ i, i < m_ln σ → ¬ isL σ i 0 j 0) ∧ v0 = j)) := by
      rcases q16 with ⟨i, e1, e2, e3, e4⟩ | ⟨e1, e2⟩
      · exact ⟨m_lt σ i, e4, hlt i e1, g_lt i, Or.inl ⟨i, e1, e2, e3, rfl⟩⟩
      · exact ⟨j, e2, hj1, by omega, Or.inr ⟨e1, rfl⟩⟩
    clear q16
    refine lv_lload_n hx hb d_M_shown_19 rfl (lv_at hl 2 rfl) ?_
    refine x_ci (x_runV ⟨hx, hb, hml, hown, hT⟩ (c_M_formOf l dC dI a t σ hG2 hL v0 d hv1 hv0 rk hrk hlt) f_M_formOf k_M_123 blR (va_recv hK hP (ci := 7) (q0 := 0) rfl rfl) (x_bR hK hP hN) hl.1 d_M_shown_20 rfl (lv_room (Nat.le_of_ble_eq_true rfl)) ⟨Nat.le_of_ble_eq_true rfl, Nat.le_of_ble_eq_true rfl⟩ ⟨rfl, rfl⟩ ⟨Nat.le_refl 0, Nat.le_refl 0⟩ rfl) (fun r20 q20 => ?_)
    refine lv_goto (tgt := 27) hx hb d_M_shown_23 (by decide) ?_
    exact x_mi (wl := wM a t) σ hx hb hr hlk hK hP hD hS d_M_shown_27 ⟨rfl, Or.inr ⟨j, hj1, hj2, hj3, rfl, v0, hus, q20⟩⟩
  · refine x_if_eq (tgt := 26) hx hb d_M_shown_10 (by decide) (fun _ => ?_) (fun h => absurd h (by decide))
    refine lv_iconst (v := nI 0) hx hb d_M_shown_26 (by decide) ?_
    exact x_mi (wl := wM a t) σ hx hb hr hlk hK hP hD hS d_M_shown_27 ⟨rfl, Or.inl ⟨hnj, rfl⟩⟩

set_option maxRecDepth 100000 in
set_option maxHeartbeats 4000000 in
theorem c_M_record (l : Launch) (dC : Nat → ClassId) (dI : Nat → Nat → Nat) (a : Nat → Nat) (t : Nat → ClassId) (σ : SM) (sz : Nat) (hG : GM σ) (hL : GL σ) (x : Int32) (d : Int64) (hlt : ∀ i, i < m_ln σ → 1 ≤ m_lt σ i) : Met l y_M_record (wS y_M_record b_M_record 4 (some .int)) (rD 2) (va_Pc [.ref (a 0), .int x, .long d] (MB (dC, dI) (yM t) (wM a t σ) sz)) (va_Qi (fun (r : Int32) (u : SM) => (¬ (∃ j, 1 ≤ j ∧ j ≤ m_hn σ ∧ m_lv σ j = 1 ∧ x = nI j) ∧ r = nI 0 ∧ u = σ) ∨ ∃ j, 1 ≤ j ∧ j ≤ m_hn σ ∧ m_lv σ j = 1 ∧ x = nI j ∧ ((m_rn σ = 60 ∧ r = nI 0 ∧ u = σ) ∨ (m_rn σ < 60 ∧ r = nI (m_rn σ + 1) ∧ ∃ v0, ((∃ i, i < m_ln σ ∧ isL σ i 0 j 0 ∧ (∀ k, k < i → ¬ isL σ k 0 j 0) ∧ v0 = m_lt σ i) ∨ ((∀ i, i < m_ln σ → ¬ isL σ i 0 j 0) ∧ v0 = j)) ∧ v0 ≤ 60 ∧ u = mu_rd (mu_lk (mu_rn σ (m_rn σ + 1)) (updN (m_lk σ) (m_rn σ + 1) v0)) (vp_updL (m_rd σ) (m_rn σ + 1) d)))) (fun u => ME (dC, dI) (yM t) (va_A (wM a t σ) sz) (wM a t u)) (va_A (wM a t σ) sz)) 0 0 (va_A (wM a t σ) sz) := by
  refine x_enter (by decide) (Nat.le_of_ble_eq_true rfl) ?_
  intro p e s m below meth c ls hx hb hr hml hT hown hlk hnm hl hB
  obtain ⟨rfl, hP, hK, hN, hD0⟩ := hB
  have hD := hD0.self (sz := s.heap.size)
  generalize hAe : va_A (wM a t σ) s.heap.size = A at hD ⊢
  have hA : ∀ q : Nat, s.heap.size ≤ q → A q := fun q h => by rw [← hAe]; exact Or.inr h
  have hS : va_S A s.heap s.heap [] := va_S.rf
  have hP : va_P (dC, dI) classes (wM a t σ) s.heap := hP
  have hl : lv_has ls 4 [(0, .ref (a 0)), (1, .int x), (2, .long d)] := hl
  have hown : s.vm.findClass R_M = some m.cls := hown
  have hG2 := hG
  obtain ⟨g_sz, g_sd, g_hn, g_kd, g_lv, g_tx, g_zs, g_ln, g_lf, g_lt, g_rn, g_lk, g_wy, g_wn, g_di, g_co⟩ := hG
  refine lv_aload_n hx hb d_M_record_0 rfl (lv_at hl 0 rfl) ?_
  refine lv_iconst (v := nI 0) hx hb d_M_record_1 (by decide) ?_
  refine va_put (D := (dC, dI)) (v := .int (nI 0)) (ty := .int) (C := R_M) (T := F_M) (N := 20) hx hb hT i_M ft_M ft_M_ok n_M hown hK hP hD hS 0 rfl rfl 0 (by decide) (hT _ k_M_52) (fun _ h9 => h9) rfl (by decide +kernel) rfl rfl (Nat.le_of_ble_eq_true rfl) d_M_record_2 (fun H locs hP hD hS => ?_)
  have hP : va_P (dC, dI) classes (wM a t σ) H := hP
  have hD : va_D A (wM a t σ) := hD
  refine lv_aload_n hx hb d_M_record_5 rfl (lv_at hl 0 rfl) ?_
  refine lv_iload_n hx hb d_M_record_6 rfl (lv_at hl 1 rfl) ?_
  refine x_ci (x_runV ⟨hx, hb, hml, hown, hT⟩ (c_M_isLive l dC dI a t σ hG2 x) f_M_isLive k_M_91 blR (va_recv hK hP (ci := 7) (q0 := 0) rfl rfl) (x_bR hK hP hN) hl.1 d_M_record_7 rfl (lv_room (Nat.le_of_ble_eq_true rfl)) ⟨Nat.le_of_ble_eq_true rfl, Nat.le_of_ble_eq_true rfl⟩ ⟨rfl, rfl⟩ ⟨Nat.le_refl 0, Nat.le_refl 0⟩ rfl) (fun r7 q7 => ?_)
  rcases q7 with ⟨rfl, j, hj1, hj2, hj3, rfl⟩ | ⟨rfl, hnj⟩
  · refine x_if_eq (tgt := 22) hx hb d_M_record_10 (by decide) (fun h => absurd h (by decide)) (fun _ => ?_)
    refine lv_aload_n hx hb d_M_record_13 rfl (lv_at hl 0 rfl) ?_
    refine va_get (D := (dC, dI)) (C := R_M) (T := F_M) (N := 20) hx hb hT i_M hown hK hP 0 rfl rfl 13 (by decide) (hT _ k_M_88) (fun _ h9 => h9) (v := .int (nI (m_rn σ))) rfl d_M_record_14 ?_
    refine lv_bipush (v := nI 60) hx hb d_M_record_17 (by decide) ?_
    refine x_icmp_ne (tgt := 24) hx hb d_M_record_19 (by decide) (fun c19 => ?_) (fun c19 => ?_)
    · refine lv_aload_n hx hb d_M_record_24 rfl (lv_at hl 0 rfl) ?_
      refine lv_dup hx hb d_M_record_25 rfl ?_
      refine va_get (D := (dC, dI)) (C := R_M) (T := F_M) (N := 20) hx hb hT i_M hown hK hP 0 rfl rfl 13 (by decide) (hT _ k_M_88) (fun _ h9 => h9) (v := .int (nI (m_rn σ))) rfl d_M_record_26 ?_
      refine lv_iconst (v := nI 1) hx hb d_M_record_29 (by decide) ?_
      refine x_iadd hx hb d_M_record_30 ?_
      refine va_put (D := (dC, dI)) (v := .int (nI ((m_rn σ) + 1))) (ty := .int) (C := R_M) (T := F_M) (N := 20) hx hb hT i_M ft_M ft_M_ok n_M hown hK hP hD hS 0 rfl rfl 13 (by decide) (hT _ k_M_88) (fun _ h9 => h9) rfl (by decide +kernel) rfl rfl (Nat.le_of_ble_eq_true rfl) d_M_record_31 (fun H locs hP hD hS => ?_)
      have hP : va_P (dC, dI) classes (wM a t (mu_rn σ ((m_rn σ) + 1))) H := hP
      have hD : va_D A (wM a t (mu_rn σ ((m_rn σ) + 1))) := hD
      refine lv_aload_n hx hb d_M_record_34 rfl (lv_at hl 0 rfl) ?_
      refine va_get (D := (dC, dI)) (C := R_M) (T := F_M) (N := 20) hx hb hT i_M hown hK hP 0 rfl rfl 14 (by decide) (hT _ k_M_40) (fun _ h9 => h9) (v := .ref (a 10)) rfl d_M_record_35 ?_
      refine lv_aload_n hx hb d_M_record_38 rfl (lv_at hl 0 rfl) ?_
      refine va_get (D := (dC, dI)) (C := R_M) (T := F_M) (N := 20) hx hb hT i_M hown hK hP 0 rfl rfl 13 (by decide) (hT _ k_M_88) (fun _ h9 => h9) (v := .int (nI ((m_rn σ) + 1))) rfl d_M_record_39 ?_
      refine lv_aload_n hx hb d_M_record_42 rfl (lv_at hl 0 rfl) ?_
      refine lv_iload_n hx hb d_M_record_43 rfl (lv_at hl 1 rfl) ?_
      refine x_ci (x_runV ⟨hx, hb, hml, hown, hT⟩ (c_M_used l dC dI a t (mu_rn σ (m_rn σ + 1)) (GM_rn hG2 (by omega)) hL j (by omega)) f_M_used k_M_127 blR (va_recv hK hP (ci := 7) (q0 := 0) rfl rfl) (x_bR hK hP hN) hl.1 d_M_record_44 rfl (lv_room (Nat.le_of_ble_eq_true rfl)) ⟨Nat.le_of_ble_eq_true rfl, Nat.le_of_ble_eq_true rfl⟩ ⟨rfl, rfl⟩ ⟨Nat.le_refl 0, Nat.le_refl 0⟩ rfl) (fun r44 q44 => ?_)
      obtain ⟨v0, rfl, hv1, hv0, hus⟩ : ∃ v0, r44 = nI v0 ∧ 1 ≤ v0 ∧ v0 ≤ 60 ∧ ((∃ i, i < m_ln σ ∧ isL σ i 0 j 0 ∧ (∀ k, k < i → ¬ isL σ k 0 j 0) ∧ v0 = m_lt σ i) ∨ ((∀ i, i < m_ln σ → ¬ isL σ i 0 j 0) ∧ v0 = j)) := by
        rcases q44 with ⟨i, e1, e2, e3, e4⟩ | ⟨e1, e2⟩
        · exact ⟨m_lt σ i, e4, hlt i e1, g_lt i, Or.inl ⟨i, e1, e2, e3, rfl⟩⟩
        · exact ⟨j, e2, hj1, by omega, Or.inr ⟨e1, rfl⟩⟩
      clear q44
      refine x_iast hx hb hK hP hD hS 10 9 (f := (m_lk σ)) rfl rfl d_M_record_47 (by omega) (fun H locs hP hD hS => ?_)
      have hP : va_P (dC, dI) classes (wM a t (mu_lk (mu_rn σ ((m_rn σ) + 1)) (updN (m_lk σ) ((m_rn σ) + 1) (v0)))) H := hP
      have hD : va_D A (wM a t (mu_lk (mu_rn σ ((m_rn σ) + 1)) (updN (m_lk σ) ((m_rn σ) + 1) (v0)))) := hD
      refine lv_aload_n hx hb d_M_record_48 rfl (lv_at hl 0 rfl) ?_
      refine va_get (D := (dC, dI)) (C := R_M) (T := F_M) (N := 20) hx hb hT i_M hown hK hP 0 rfl rfl 15 (by decide) (hT _ k_M_43) (fun _ h9 => h9) (v := .ref (a 11)) rfl d_M_record_49 ?_
      refine lv_aload_n hx hb d_M_record_52 rfl (lv_at hl 0 rfl) ?_
      refine va_get (D := (dC, dI)) (C := R_M) (T := F_M) (N := 20) hx hb hT i_M hown hK hP 0 rfl rfl 13 (by decide) (hT _ k_M_88) (fun _ h9 => h9) (v := .int (nI ((m_rn σ) + 1))) rfl d_M_record_53 ?_
      refine lv_lload_n hx hb d_M_record_56 rfl (lv_at hl 2 rfl) ?_
      refine x_last hx hb hK hP hD hS 11 10 (f := (m_rd σ)) rfl rfl d_M_record_57 (by omega) (fun H locs hP hD hS => ?_)
      have hP : va_P (dC, dI) classes (wM a t (mu_rd (mu_lk (mu_rn σ ((m_rn σ) + 1)) (updN (m_lk σ) ((m_rn σ) + 1) (v0))) (vp_updL (m_rd σ) ((m_rn σ) + 1) (d)))) H := hP
      have hD : va_D A (wM a t (mu_rd (mu_lk (mu_rn σ ((m_rn σ) + 1)) (updN (m_lk σ) ((m_rn σ) + 1) (v0))) (vp_updL (m_rd σ) ((m_rn σ) + 1) (d)))) := hD
      refine lv_aload_n hx hb d_M_record_58 rfl (lv_at hl 0 rfl) ?_
      refine va_get (D := (dC, dI)) (C := R_M) (T := F_M) (N := 20) hx hb hT i_M hown hK hP 0 rfl rfl 13 (by decide) (hT _ k_M_88) (fun _ h9 => h9) (v := .int (nI ((m_rn σ) + 1))) rfl d_M_record_59 ?_
      exact x_mi (wl := wM a t) (mu_rd (mu_lk (mu_rn σ ((m_rn σ) + 1)) (updN (m_lk σ) ((m_rn σ) + 1) (v0))) (vp_updL (m_rd σ) ((m_rn σ) + 1) (d))) hx hb hr hlk hK hP hD hS d_M_record_62 (Or.inr ⟨j, hj1, hj2, hj3, rfl, Or.inr ⟨by omega, rfl, v0, hus, hv0, rfl⟩⟩)
    · refine lv_iconst (v := nI 0) hx hb d_M_record_22 (by decide) ?_
      exact x_mi (wl := wM a t) σ hx hb hr hlk hK hP hD hS d_M_record_23 (by first | exact Or.inl ⟨hnj, rfl, rfl⟩ | exact Or.inr ⟨j, hj1, hj2, hj3, rfl, Or.inl ⟨by omega, rfl, rfl⟩⟩)
  · refine x_if_eq (tgt := 22) hx hb d_M_record_10 (by decide) (fun _ => ?_) (fun h => absurd h (by decide))
    refine lv_iconst (v := nI 0) hx hb d_M_record_22 (by decide) ?_
    exact x_mi (wl := wM a t) σ hx hb hr hlk hK hP hD hS d_M_record_23 (by first | exact Or.inl ⟨hnj, rfl, rfl⟩ | exact Or.inr ⟨j, hj1, hj2, hj3, rfl, Or.inl ⟨by omega, rfl, rfl⟩⟩)

theorem updN_self (f : Nat → Nat) (k : Nat) : updN f k (f k) = f := by
  funext j
  unfold updN
  by_cases h : j = k
  · rw [if_pos h, h]
  · rw [if_neg h]
def SPM (σ : SM) (x : Int32) (d : Int64) (r : Int32) (u : SM) : Prop := (¬ okT (m_sd σ) (m_sz σ) ∧ r = -99 ∧ u = TKM σ) ∨ (okT (m_sd σ) (m_sz σ) ∧ ((¬ (∃ j, 1 ≤ j ∧ j ≤ m_hn σ ∧ m_lv σ j = 1 ∧ x = nI j) ∧ r = nI 0 ∧ u = TKM σ) ∨ ∃ j, 1 ≤ j ∧ j ≤ m_hn σ ∧ m_lv σ j = 1 ∧ x = nI j ∧ ∃ w, MKH (TKM σ) (m_kd σ j) r w ∧ ((r = nI (m_hn σ + 1) ∧ m_hn σ < 60 ∧ u = mu_lk (ADM w 3 j (m_hn σ + 1) d) (mvR (m_lk σ) (m_rd σ) j (m_hn σ + 1) d (m_rn σ))) ∨ (¬ r = nI (m_hn σ + 1) ∧ u = w))))
set_option maxRecDepth 100000 in
set_option maxHeartbeats 4000000 in
theorem c_M_split (l : Launch) (dC : Nat → ClassId) (dI : Nat → Nat → Nat) (a : Nat → Nat) (t : Nat → ClassId) (σ : SM) (sz : Nat) (hG : GM σ) (x : Int32) (d : Int64) : Met l y_M_split (wS y_M_split b_M_split 6 (some .int)) (rD 4) (va_Pc [.ref (a 0), .int x, .long d] (MB (dC, dI) (yM t) (wM a t σ) sz)) (va_Qi (fun (r : Int32) (u : SM) => SPM σ x d r u) (fun u => ME (dC, dI) (yM t) (va_A (wM a t σ) sz) (wM a t u)) (va_A (wM a t σ) sz)) 0 0 (va_A (wM a t σ) sz) := by
  refine x_enter (by decide) (Nat.le_of_ble_eq_true rfl) ?_
  intro p e s m below meth c ls hx hb hr hml hT hown hlk hnm hl hB
  obtain ⟨rfl, hP, hK, hN, hD0⟩ := hB
  have hD := hD0.self (sz := s.heap.size)
  generalize hAe : va_A (wM a t σ) s.heap.size = A at hD ⊢
  have hA : ∀ q : Nat, s.heap.size ≤ q → A q := fun q h => by rw [← hAe]; exact Or.inr h
  have hS : va_S A s.heap s.heap [] := va_S.rf
  have hP : va_P (dC, dI) classes (wM a t σ) s.heap := hP
  have hl : lv_has ls 6 [(0, .ref (a 0)), (1, .int x), (2, .long d)] := hl
  have hown : s.vm.findClass R_M = some m.cls := hown
  have hG2 := hG
  obtain ⟨g_sz, g_sd, g_hn, g_kd, g_lv, g_tx, g_zs, g_ln, g_lf, g_lt, g_rn, g_lk, g_wy, g_wn, g_di, g_co⟩ := hG
  have hhn : m_hn (TKM σ) ≤ 60 := g_hn
  have hrn : m_rn (TKM σ) = m_rn σ := rfl
  have hln : m_ln (TKM σ) = m_ln σ := rfl
  have hhe : m_hn (TKM σ) = m_hn σ := rfl
  refine lv_aload_n hx hb d_M_split_0 rfl (lv_at hl 0 rfl) ?_
  refine lv_iconst (v := nI 0) hx hb d_M_split_1 (by decide) ?_
  refine va_put (D := (dC, dI)) (v := .int (nI 0)) (ty := .int) (C := R_M) (T := F_M) (N := 20) hx hb hT i_M ft_M ft_M_ok n_M hown hK hP hD hS 0 rfl rfl 0 (by decide) (hT _ k_M_52) (fun _ h9 => h9) rfl (by decide +kernel) rfl rfl (Nat.le_of_ble_eq_true rfl) d_M_split_2 (fun H locs hP hD hS => ?_)
  have hP : va_P (dC, dI) classes (wM a t σ) H := hP
  have hD : va_D A (wM a t σ) := hD
  refine lv_aload_n hx hb d_M_split_5 rfl (lv_at hl 0 rfl) ?_
  refine x_cMi (wl := wM a t) (x_runV ⟨hx, hb, hml, hown, hT⟩ (c_M_takes l dC dI a t σ H.size hG2) f_M_takes k_M_81 blM (va_recv hK hP (ci := 7) (q0 := 0) rfl rfl) (x_bM hK hP hN hD) hl.1 d_M_split_6 rfl (lv_room (Nat.le_of_ble_eq_true rfl)) ⟨Nat.le_of_ble_eq_true rfl, Nat.le_of_ble_eq_true rfl⟩ ⟨rfl, rfl⟩ ⟨Nat.le_refl 0, Nat.le_refl 0⟩ rfl) hD hS hA (fun r6 u6 H locs q6 hP hD hS => ?_)
  obtain ⟨hok, hu9⟩ := q6
  obtain rfl : u6 = TKM σ := hu9
  have hGτ : GM (TKM σ) := TKM_G hG2
  rcases hok with ⟨rfl, hok⟩ | ⟨rfl, hok⟩
  · have hc : m_co (TKM σ) ≤ 20 := hok.2.1
    have hq : ∀ k, k < m_co (TKM σ) → m_sd (TKM σ) k < 128 := ok_q hok
    refine x_if_ne (tgt := 15) hx hb d_M_split_9 (by decide) (fun _ => ?_) (fun h => absurd h (by decide))
    refine lv_aload_n hx hb d_M_split_15 rfl (lv_at hl 0 rfl) ?_
    refine lv_iload_n hx hb d_M_split_16 rfl (lv_at hl 1 rfl) ?_
    refine x_ci (x_runV ⟨hx, hb, hml, hown, hT⟩ (c_M_isLive l dC dI a t ((TKM σ)) hGτ x) f_M_isLive k_M_91 blR (va_recv hK hP (ci := 7) (q0 := 0) rfl rfl) (x_bR hK hP hN) hl.1 d_M_split_17 rfl (lv_room (Nat.le_of_ble_eq_true rfl)) ⟨Nat.le_of_ble_eq_true rfl, Nat.le_of_ble_eq_true rfl⟩ ⟨rfl, rfl⟩ ⟨Nat.le_refl 0, Nat.le_refl 0⟩ rfl) (fun r17 q17 => ?_)
    rcases q17 with ⟨rfl, j, hj1, hj2, hj3, rfl⟩ | ⟨rfl, hnj⟩
    · refine x_if_ne (tgt := 25) hx hb d_M_split_20 (by decide) (fun _ => ?_) (fun h => absurd h (by decide))
      refine lv_aload_n hx hb d_M_split_25 rfl (lv_at hl 0 rfl) ?_
      refine lv_aload_n hx hb d_M_split_26 rfl (lv_at hl 0 rfl) ?_
      refine va_get (D := (dC, dI)) (C := R_M) (T := F_M) (N := 20) hx hb hT i_M hown hK hP 0 rfl rfl 4 (by decide) (hT _ k_M_13) (fun _ h9 => h9) (v := .ref (a 2)) rfl d_M_split_27 ?_
      refine lv_iload_n hx hb d_M_split_30 rfl (lv_at hl 1 rfl) ?_
      refine x_iald hx hb hK hP 2 1 (f := (m_kd (TKM σ))) rfl rfl d_M_split_31 (by omega) ?_
      refine x_cMi (wl := wM a t) (x_runV ⟨hx, hb, hml, hown, hT⟩ (c_M_make l dC dI a t (TKM σ) H.size hGτ (nI (m_kd (TKM σ) j)) hc hq) f_M_make k_M_85 blM (va_recv hK hP (ci := 7) (q0 := 0) rfl rfl) (x_bM hK hP hN hD) hl.1 d_M_split_32 rfl (lv_room (Nat.le_of_ble_eq_true rfl)) ⟨Nat.le_of_ble_eq_true rfl, Nat.le_of_ble_eq_true rfl⟩ ⟨rfl, rfl⟩ ⟨Nat.le_refl 0, Nat.le_refl 0⟩ rfl) hD hS hA (fun r32 u32 H locs q32 hP hD hS => ?_)
      have gk := g_kd j
      obtain hmk : MKH (TKM σ) (m_kd σ j) r32 u32 := by
        rcases q32 with ⟨h9, _⟩ | ⟨kk, h7, h8, h9⟩
        · exact absurd ⟨m_kd σ j, gk, rfl⟩ h9
        · have h6 : m_kd σ j = kk := (nI_eq (by omega) (by omega)).mp h8
          rw [h6]; exact h9
      have hadh := hmk
      rcases hmk with ⟨i, hi1, hi2, rfl, _, hu9⟩ | ⟨_, ⟨h60, rfl, hu9⟩ | ⟨h60, rfl, rfl⟩⟩
      · refine lv_istore (lv' := [(4, .int (-nI i)), (0, .ref (a 0)), (1, .int (nI j)), (2, .long d)]) hx hb d_M_split_35 hl (by decide) rfl (fun ls hl => ?_)
        refine lv_iload hx hb d_M_split_37 (lv_at hl 0 rfl) ?_
        refine lv_iconst (v := nI 1) hx hb d_M_split_39 (by decide) ?_
        refine lv_icmp_ge (tgt := 46) hx hb d_M_split_40 (by decide) (fun h9 => absurd (Int32.le_trans h9 (neg_le hi1 (by omega))) (by decide)) (fun _ => ?_)
        refine lv_iload hx hb d_M_split_43 (lv_at hl 0 rfl) ?_
        exact x_mi (wl := wM a t) u32 hx hb hr hlk hK hP hD hS d_M_split_45 (Or.inr ⟨hok, Or.inr ⟨j, hj1, hj2, hj3, rfl, _, hadh, Or.inr ⟨(neg_ne hi1 (by omega) (by omega)), rfl⟩⟩⟩)
      · refine lv_istore (lv' := [(4, .int (nI 0)), (0, .ref (a 0)), (1, .int (nI j)), (2, .long d)]) hx hb d_M_split_35 hl (by decide) rfl (fun ls hl => ?_)
        refine lv_iload hx hb d_M_split_37 (lv_at hl 0 rfl) ?_
        refine lv_iconst (v := nI 1) hx hb d_M_split_39 (by decide) ?_
        refine x_icmp_ge (tgt := 46) hx hb d_M_split_40 (by decide) (fun h9 => absurd h9 (by decide)) (fun _ => ?_)
        refine lv_iload hx hb d_M_split_43 (lv_at hl 0 rfl) ?_
        exact x_mi (wl := wM a t) u32 hx hb hr hlk hK hP hD hS d_M_split_45 (Or.inr ⟨hok, Or.inr ⟨j, hj1, hj2, hj3, rfl, _, hadh, Or.inr ⟨(fun h9 => by have h8 := (nI_eq (by omega) (by omega)).mp h9; omega), rfl⟩⟩⟩)
      · have h60' : m_hn σ < 60 := h60
        have hP : va_P (dC, dI) classes (wM a t (mu_zs (mu_tx (mu_lv (mu_kd (mu_hn ((TKM σ)) (m_hn σ + 1)) (updN (m_kd σ) (m_hn σ + 1) (m_kd σ j))) (updN (m_lv σ) (m_hn σ + 1) 1)) (cpT (m_tx σ) (20 * (m_hn σ + 1)) (m_sd σ) (m_sz σ))) (updN (m_zs σ) (m_hn σ + 1) (m_sz σ)))) H := hP
        have hD : va_D A (wM a t (mu_zs (mu_tx (mu_lv (mu_kd (mu_hn ((TKM σ)) (m_hn σ + 1)) (updN (m_kd σ) (m_hn σ + 1) (m_kd σ j))) (updN (m_lv σ) (m_hn σ + 1) 1)) (cpT (m_tx σ) (20 * (m_hn σ + 1)) (m_sd σ) (m_sz σ))) (updN (m_zs σ) (m_hn σ + 1) (m_sz σ)))) := hD
        refine lv_istore (lv' := [(4, .int (nI (m_hn σ + 1))), (0, .ref (a 0)), (1, .int (nI j)), (2, .long d)]) hx hb d_M_split_35 hl (by decide) rfl (fun ls hl => ?_)
        refine lv_iload hx hb d_M_split_37 (lv_at hl 0 rfl) ?_
        refine lv_iconst (v := nI 1) hx hb d_M_split_39 (by decide) ?_
        refine x_icmp_ge (tgt := 46) hx hb d_M_split_40 (by decide) (fun _ => ?_) (fun h9 => absurd h9 (by omega))
        refine lv_aload_n hx hb d_M_split_46 rfl (lv_at hl 1 rfl) ?_
        refine lv_iconst (v := nI 3) hx hb d_M_split_47 (by decide) ?_
        refine lv_iload_n hx hb d_M_split_48 rfl (lv_at hl 2 rfl) ?_
        refine lv_iload hx hb d_M_split_49 (lv_at hl 0 rfl) ?_
        refine lv_lload_n hx hb d_M_split_51 rfl (lv_at hl 3 rfl) ?_
        refine x_cMv (wl := wM a t) (x_runV ⟨hx, hb, hml, hown, hT⟩ (c_M_add l dC dI a t (mu_zs (mu_tx (mu_lv (mu_kd (mu_hn ((TKM σ)) (m_hn σ + 1)) (updN (m_kd σ) (m_hn σ + 1) (m_kd σ j))) (updN (m_lv σ) (m_hn σ + 1) 1)) (cpT (m_tx σ) (20 * (m_hn σ + 1)) (m_sd σ) (m_sz σ))) (updN (m_zs σ) (m_hn σ + 1) (m_sz σ))) H.size (GM_zs (GM_tx (GM_lv (GM_kd (GM_hn hGτ (by omega)) (updN_lt g_kd gk)) (updN_lt g_lv (by decide))) (cpT_lt2 g_tx hq)) (updN_le g_zs hc)) 3 j (m_hn σ + 1) d) f_M_add k_M_119 blM (va_recv hK hP (ci := 7) (q0 := 0) rfl rfl) (x_bM hK hP hN hD) hl.1 d_M_split_52 rfl (lv_room (Nat.le_of_ble_eq_true rfl)) ⟨Nat.le_of_ble_eq_true rfl, Nat.le_of_ble_eq_true rfl⟩ ⟨rfl, rfl⟩ ⟨Nat.le_refl 0, Nat.le_refl 0⟩ rfl) hD hS hA (fun u52 H locs q52 hP hD hS => ?_)
        subst q52
        have hP : va_P (dC, dI) classes (wM a t (mu_ld (mu_lt (mu_lf (mu_ls (mu_ln (mu_zs (mu_tx (mu_lv (mu_kd (mu_hn ((TKM σ)) (m_hn σ + 1)) (updN (m_kd σ) (m_hn σ + 1) (m_kd σ j))) (updN (m_lv σ) (m_hn σ + 1) 1)) (cpT (m_tx σ) (20 * (m_hn σ + 1)) (m_sd σ) (m_sz σ))) (updN (m_zs σ) (m_hn σ + 1) (m_sz σ))) (m_ln σ + 1)) (updN (m_ls σ) (m_ln σ) 3)) (updN (m_lf σ) (m_ln σ) j)) (updN (m_lt σ) (m_ln σ) (m_hn σ + 1))) (vp_updL (m_ld σ) (m_ln σ) d))) H := hP
        have hD : va_D A (wM a t (mu_ld (mu_lt (mu_lf (mu_ls (mu_ln (mu_zs (mu_tx (mu_lv (mu_kd (mu_hn ((TKM σ)) (m_hn σ + 1)) (updN (m_kd σ) (m_hn σ + 1) (m_kd σ j))) (updN (m_lv σ) (m_hn σ + 1) 1)) (cpT (m_tx σ) (20 * (m_hn σ + 1)) (m_sd σ) (m_sz σ))) (updN (m_zs σ) (m_hn σ + 1) (m_sz σ))) (m_ln σ + 1)) (updN (m_ls σ) (m_ln σ) 3)) (updN (m_lf σ) (m_ln σ) j)) (updN (m_lt σ) (m_ln σ) (m_hn σ + 1))) (vp_updL (m_ld σ) (m_ln σ) d))) := hD
        have e0 : wM a t (mu_ld (mu_lt (mu_lf (mu_ls (mu_ln (mu_zs (mu_tx (mu_lv (mu_kd (mu_hn ((TKM σ)) (m_hn σ + 1)) (updN (m_kd σ) (m_hn σ + 1) (m_kd σ j))) (updN (m_lv σ) (m_hn σ + 1) 1)) (cpT (m_tx σ) (20 * (m_hn σ + 1)) (m_sd σ) (m_sz σ))) (updN (m_zs σ) (m_hn σ + 1) (m_sz σ))) (m_ln σ + 1)) (updN (m_ls σ) (m_ln σ) 3)) (updN (m_lf σ) (m_ln σ) j)) (updN (m_lt σ) (m_ln σ) (m_hn σ + 1))) (vp_updL (m_ld σ) (m_ln σ) d)) = wM a t (mu_lk (mu_ld (mu_lt (mu_lf (mu_ls (mu_ln (mu_zs (mu_tx (mu_lv (mu_kd (mu_hn ((TKM σ)) (m_hn σ + 1)) (updN (m_kd σ) (m_hn σ + 1) (m_kd σ j))) (updN (m_lv σ) (m_hn σ + 1) 1)) (cpT (m_tx σ) (20 * (m_hn σ + 1)) (m_sd σ) (m_sz σ))) (updN (m_zs σ) (m_hn σ + 1) (m_sz σ))) (m_ln σ + 1)) (updN (m_ls σ) (m_ln σ) 3)) (updN (m_lf σ) (m_ln σ) j)) (updN (m_lt σ) (m_ln σ) (m_hn σ + 1))) (vp_updL (m_ld σ) (m_ln σ) d)) (mvR (m_lk σ) (m_rd σ) j (m_hn σ + 1) d 0)) := by rw [mvR_0]; rfl
        rw [e0] at hP hD
        refine lv_iconst (v := nI 1) hx hb d_M_split_55 (by decide) ?_
        refine lv_istore (lv' := [(5, .int (nI 1)), (4, .int (nI (m_hn σ + 1))), (0, .ref (a 0)), (1, .int (nI j)), (2, .long d)]) hx hb d_M_split_56 hl (by decide) rfl (fun ls hl => ?_)
        have hloop58 : ∀ (n58 : Nat) (i : Nat) (H : Heap) (locs : List Loc) (ls : Array Slot), i ≤ m_rn σ → m_rn σ + 1 - i < n58 → va_P (dC, dI) classes (wM a t (mu_lk (mu_ld (mu_lt (mu_lf (mu_ls (mu_ln (mu_zs (mu_tx (mu_lv (mu_kd (mu_hn ((TKM σ)) (m_hn σ + 1)) (updN (m_kd σ) (m_hn σ + 1) (m_kd σ j))) (updN (m_lv σ) (m_hn σ + 1) 1)) (cpT (m_tx σ) (20 * (m_hn σ + 1)) (m_sd σ) (m_sz σ))) (updN (m_zs σ) (m_hn σ + 1) (m_sz σ))) (m_ln σ + 1)) (updN (m_ls σ) (m_ln σ) 3)) (updN (m_lf σ) (m_ln σ) j)) (updN (m_lt σ) (m_ln σ) (m_hn σ + 1))) (vp_updL (m_ld σ) (m_ln σ) d)) (mvR (m_lk σ) (m_rd σ) j (m_hn σ + 1) d i))) H → va_D A (wM a t (mu_lk (mu_ld (mu_lt (mu_lf (mu_ls (mu_ln (mu_zs (mu_tx (mu_lv (mu_kd (mu_hn ((TKM σ)) (m_hn σ + 1)) (updN (m_kd σ) (m_hn σ + 1) (m_kd σ j))) (updN (m_lv σ) (m_hn σ + 1) 1)) (cpT (m_tx σ) (20 * (m_hn σ + 1)) (m_sd σ) (m_sz σ))) (updN (m_zs σ) (m_hn σ + 1) (m_sz σ))) (m_ln σ + 1)) (updN (m_ls σ) (m_ln σ) 3)) (updN (m_lf σ) (m_ln σ) j)) (updN (m_lt σ) (m_ln σ) (m_hn σ + 1))) (vp_updL (m_ld σ) (m_ln σ) d)) (mvR (m_lk σ) (m_rd σ) j (m_hn σ + 1) d i))) → va_S A s.heap H locs → lv_has ls 6 [(0, .ref (a 0)), (1, .int (nI j)), (2, .long d), (4, .int (nI (m_hn σ + 1))), (5, .int (nI (i + 1)))] → W p l e (rD 4) s m ([.ref (a 0), .int (nI j), .long d] : List Value).toArray below meth c H locs 0 0 (MQ below (va_Qi (fun (r : Int32) (u : SM) => SPM σ (nI j) d r u) (fun u => ME (dC, dI) (yM t) A (wM a t u)) A) ([.ref (a 0), .int (nI j), .long d] : List Value).toArray s 0 0 A) (F0 m 58 ls []) := by
          intro n58
          induction n58 with
          | zero => intro i H locs ls _ h9; exact absurd h9 (Nat.not_lt_zero _)
          | succ n58 ih58 =>
            intro i H locs ls hi hmu58 hP hD hS hl
            refine lv_iload hx hb d_M_split_58 (lv_at hl 4 rfl) ?_
            refine lv_aload_n hx hb d_M_split_60 rfl (lv_at hl 0 rfl) ?_
            refine va_get (D := (dC, dI)) (C := R_M) (T := F_M) (N := 20) hx hb hT i_M hown hK hP 0 rfl rfl 13 (by decide) (hT _ k_M_88) (fun _ h9 => h9) (v := .int (nI (m_rn (TKM σ)))) rfl d_M_split_61 ?_
            refine x_icmp_gt (tgt := 115) hx hb d_M_split_64 (by decide) (fun c64 => ?_) (fun c64 => ?_)
            · refine lv_iload hx hb d_M_split_115 (lv_at hl 3 rfl) ?_
              exact x_mi (wl := wM a t) (mu_lk (mu_ld (mu_lt (mu_lf (mu_ls (mu_ln (mu_zs (mu_tx (mu_lv (mu_kd (mu_hn ((TKM σ)) (m_hn σ + 1)) (updN (m_kd σ) (m_hn σ + 1) (m_kd σ j))) (updN (m_lv σ) (m_hn σ + 1) 1)) (cpT (m_tx σ) (20 * (m_hn σ + 1)) (m_sd σ) (m_sz σ))) (updN (m_zs σ) (m_hn σ + 1) (m_sz σ))) (m_ln σ + 1)) (updN (m_ls σ) (m_ln σ) 3)) (updN (m_lf σ) (m_ln σ) j)) (updN (m_lt σ) (m_ln σ) (m_hn σ + 1))) (vp_updL (m_ld σ) (m_ln σ) d)) (mvR (m_lk σ) (m_rd σ) j (m_hn σ + 1) d i)) hx hb hr hlk hK hP hD hS d_M_split_117 (Or.inr ⟨hok, Or.inr ⟨j, hj1, hj2, hj3, rfl, _, hadh, Or.inl ⟨rfl, h60, by rw [show i = m_rn σ by omega]; rfl⟩⟩⟩)
            · refine lv_aload_n hx hb d_M_split_67 rfl (lv_at hl 0 rfl) ?_
              refine va_get (D := (dC, dI)) (C := R_M) (T := F_M) (N := 20) hx hb hT i_M hown hK hP 0 rfl rfl 14 (by decide) (hT _ k_M_40) (fun _ h9 => h9) (v := .ref (a 10)) rfl d_M_split_68 ?_
              refine lv_iload hx hb d_M_split_71 (lv_at hl 4 rfl) ?_
              refine lv_aload_n hx hb d_M_split_73 rfl (lv_at hl 0 rfl) ?_
              refine va_get (D := (dC, dI)) (C := R_M) (T := F_M) (N := 20) hx hb hT i_M hown hK hP 0 rfl rfl 14 (by decide) (hT _ k_M_40) (fun _ h9 => h9) (v := .ref (a 10)) rfl d_M_split_74 ?_
              refine lv_iload hx hb d_M_split_77 (lv_at hl 4 rfl) ?_
              refine x_iald hx hb hK hP 10 9 (f := (mvR (m_lk σ) (m_rd σ) j (m_hn σ + 1) d i)) rfl rfl d_M_split_79 (by omega) ?_
              rw [mvR_at]
              have g9 := g_lk (i + 1)
              refine lv_iload_n hx hb d_M_split_80 rfl (lv_at hl 1 rfl) ?_
              refine x_icmp_ne (tgt := 101) hx hb d_M_split_81 (by decide) (fun c81 => ?_) (fun c81 => ?_)
              · refine lv_aload_n hx hb d_M_split_101 rfl (lv_at hl 0 rfl) ?_
                refine va_get (D := (dC, dI)) (C := R_M) (T := F_M) (N := 20) hx hb hT i_M hown hK hP 0 rfl rfl 14 (by decide) (hT _ k_M_40) (fun _ h9 => h9) (v := .ref (a 10)) rfl d_M_split_102 ?_
                refine lv_iload hx hb d_M_split_105 (lv_at hl 4 rfl) ?_
                refine x_iald hx hb hK hP 10 9 (f := (mvR (m_lk σ) (m_rd σ) j (m_hn σ + 1) d i)) rfl rfl d_M_split_107 (by omega) ?_
                refine x_iast hx hb hK hP hD hS 10 9 (f := (mvR (m_lk σ) (m_rd σ) j (m_hn σ + 1) d i)) rfl rfl d_M_split_108 (by omega) (fun H locs hP hD hS => ?_)
                have hP : va_P (dC, dI) classes (wM a t (mu_lk (mu_ld (mu_lt (mu_lf (mu_ls (mu_ln (mu_zs (mu_tx (mu_lv (mu_kd (mu_hn ((TKM σ)) (m_hn σ + 1)) (updN (m_kd σ) (m_hn σ + 1) (m_kd σ j))) (updN (m_lv σ) (m_hn σ + 1) 1)) (cpT (m_tx σ) (20 * (m_hn σ + 1)) (m_sd σ) (m_sz σ))) (updN (m_zs σ) (m_hn σ + 1) (m_sz σ))) (m_ln σ + 1)) (updN (m_ls σ) (m_ln σ) 3)) (updN (m_lf σ) (m_ln σ) j)) (updN (m_lt σ) (m_ln σ) (m_hn σ + 1))) (vp_updL (m_ld σ) (m_ln σ) d)) (updN (mvR (m_lk σ) (m_rd σ) j (m_hn σ + 1) d i) (i + 1) ((mvR (m_lk σ) (m_rd σ) j (m_hn σ + 1) d i) (i + 1))))) H := hP
                have hD : va_D A (wM a t (mu_lk (mu_ld (mu_lt (mu_lf (mu_ls (mu_ln (mu_zs (mu_tx (mu_lv (mu_kd (mu_hn ((TKM σ)) (m_hn σ + 1)) (updN (m_kd σ) (m_hn σ + 1) (m_kd σ j))) (updN (m_lv σ) (m_hn σ + 1) 1)) (cpT (m_tx σ) (20 * (m_hn σ + 1)) (m_sd σ) (m_sz σ))) (updN (m_zs σ) (m_hn σ + 1) (m_sz σ))) (m_ln σ + 1)) (updN (m_ls σ) (m_ln σ) 3)) (updN (m_lf σ) (m_ln σ) j)) (updN (m_lt σ) (m_ln σ) (m_hn σ + 1))) (vp_updL (m_ld σ) (m_ln σ) d)) (updN (mvR (m_lk σ) (m_rd σ) j (m_hn σ + 1) d i) (i + 1) ((mvR (m_lk σ) (m_rd σ) j (m_hn σ + 1) d i) (i + 1))))) := hD
                rw [updN_self, ← mvR_same (g := m_hn σ + 1) (show ¬ (m_lk σ (i + 1) = j ∧ d ≤ m_rd σ (i + 1)) from fun q9 => by first | exact c81 q9.1 | exact absurd q9.2 (Int64.not_le.mpr c92))] at hP hD
                refine x_iinc (lv' := [(5, .int (nI ((i + 1) + 1))), (0, .ref (a 0)), (1, .int (nI j)), (2, .long d), (4, .int (nI (m_hn σ + 1)))]) hx hb d_M_split_109 hl (k := 4) rfl (by decide) rfl (fun ls hl => ?_)
                refine lv_goto (tgt := 58) hx hb d_M_split_112 (by decide) ?_
                exact ih58 (i + 1) H locs ls (by omega) (by omega) hP hD hS (lv_sub hl [1, 2, 3, 4, 0] rfl)
              · refine lv_aload_n hx hb d_M_split_84 rfl (lv_at hl 0 rfl) ?_
                refine va_get (D := (dC, dI)) (C := R_M) (T := F_M) (N := 20) hx hb hT i_M hown hK hP 0 rfl rfl 15 (by decide) (hT _ k_M_43) (fun _ h9 => h9) (v := .ref (a 11)) rfl d_M_split_85 ?_
                refine lv_iload hx hb d_M_split_88 (lv_at hl 4 rfl) ?_
                refine x_lald hx hb hK hP 11 10 (f := (m_rd (TKM σ))) rfl rfl d_M_split_90 (by omega) ?_
                refine lv_lload_n hx hb d_M_split_91 rfl (lv_at hl 2 rfl) ?_
                refine x_lif_lt (tgt := 101) hx hb d_M_split_92 d_M_split_93 (by decide) (fun c92 => ?_) (fun c92 => ?_)
                · refine lv_aload_n hx hb d_M_split_101 rfl (lv_at hl 0 rfl) ?_
                  refine va_get (D := (dC, dI)) (C := R_M) (T := F_M) (N := 20) hx hb hT i_M hown hK hP 0 rfl rfl 14 (by decide) (hT _ k_M_40) (fun _ h9 => h9) (v := .ref (a 10)) rfl d_M_split_102 ?_
                  refine lv_iload hx hb d_M_split_105 (lv_at hl 4 rfl) ?_
                  refine x_iald hx hb hK hP 10 9 (f := (mvR (m_lk σ) (m_rd σ) j (m_hn σ + 1) d i)) rfl rfl d_M_split_107 (by omega) ?_
                  refine x_iast hx hb hK hP hD hS 10 9 (f := (mvR (m_lk σ) (m_rd σ) j (m_hn σ + 1) d i)) rfl rfl d_M_split_108 (by omega) (fun H locs hP hD hS => ?_)
                  have hP : va_P (dC, dI) classes (wM a t (mu_lk (mu_ld (mu_lt (mu_lf (mu_ls (mu_ln (mu_zs (mu_tx (mu_lv (mu_kd (mu_hn ((TKM σ)) (m_hn σ + 1)) (updN (m_kd σ) (m_hn σ + 1) (m_kd σ j))) (updN (m_lv σ) (m_hn σ + 1) 1)) (cpT (m_tx σ) (20 * (m_hn σ + 1)) (m_sd σ) (m_sz σ))) (updN (m_zs σ) (m_hn σ + 1) (m_sz σ))) (m_ln σ + 1)) (updN (m_ls σ) (m_ln σ) 3)) (updN (m_lf σ) (m_ln σ) j)) (updN (m_lt σ) (m_ln σ) (m_hn σ + 1))) (vp_updL (m_ld σ) (m_ln σ) d)) (updN (mvR (m_lk σ) (m_rd σ) j (m_hn σ + 1) d i) (i + 1) ((mvR (m_lk σ) (m_rd σ) j (m_hn σ + 1) d i) (i + 1))))) H := hP
                  have hD : va_D A (wM a t (mu_lk (mu_ld (mu_lt (mu_lf (mu_ls (mu_ln (mu_zs (mu_tx (mu_lv (mu_kd (mu_hn ((TKM σ)) (m_hn σ + 1)) (updN (m_kd σ) (m_hn σ + 1) (m_kd σ j))) (updN (m_lv σ) (m_hn σ + 1) 1)) (cpT (m_tx σ) (20 * (m_hn σ + 1)) (m_sd σ) (m_sz σ))) (updN (m_zs σ) (m_hn σ + 1) (m_sz σ))) (m_ln σ + 1)) (updN (m_ls σ) (m_ln σ) 3)) (updN (m_lf σ) (m_ln σ) j)) (updN (m_lt σ) (m_ln σ) (m_hn σ + 1))) (vp_updL (m_ld σ) (m_ln σ) d)) (updN (mvR (m_lk σ) (m_rd σ) j (m_hn σ + 1) d i) (i + 1) ((mvR (m_lk σ) (m_rd σ) j (m_hn σ + 1) d i) (i + 1))))) := hD
                  rw [updN_self, ← mvR_same (g := m_hn σ + 1) (show ¬ (m_lk σ (i + 1) = j ∧ d ≤ m_rd σ (i + 1)) from fun q9 => by first | exact c81 q9.1 | exact absurd q9.2 (Int64.not_le.mpr c92))] at hP hD
                  refine x_iinc (lv' := [(5, .int (nI ((i + 1) + 1))), (0, .ref (a 0)), (1, .int (nI j)), (2, .long d), (4, .int (nI (m_hn σ + 1)))]) hx hb d_M_split_109 hl (k := 4) rfl (by decide) rfl (fun ls hl => ?_)
                  refine lv_goto (tgt := 58) hx hb d_M_split_112 (by decide) ?_
                  exact ih58 (i + 1) H locs ls (by omega) (by omega) hP hD hS (lv_sub hl [1, 2, 3, 4, 0] rfl)
                · refine lv_iload hx hb d_M_split_96 (lv_at hl 3 rfl) ?_
                  refine lv_goto (tgt := 108) hx hb d_M_split_98 (by decide) ?_
                  refine x_iast hx hb hK hP hD hS 10 9 (f := (mvR (m_lk σ) (m_rd σ) j (m_hn σ + 1) d i)) rfl rfl d_M_split_108 (by omega) (fun H locs hP hD hS => ?_)
                  have hP : va_P (dC, dI) classes (wM a t (mu_lk (mu_ld (mu_lt (mu_lf (mu_ls (mu_ln (mu_zs (mu_tx (mu_lv (mu_kd (mu_hn ((TKM σ)) (m_hn σ + 1)) (updN (m_kd σ) (m_hn σ + 1) (m_kd σ j))) (updN (m_lv σ) (m_hn σ + 1) 1)) (cpT (m_tx σ) (20 * (m_hn σ + 1)) (m_sd σ) (m_sz σ))) (updN (m_zs σ) (m_hn σ + 1) (m_sz σ))) (m_ln σ + 1)) (updN (m_ls σ) (m_ln σ) 3)) (updN (m_lf σ) (m_ln σ) j)) (updN (m_lt σ) (m_ln σ) (m_hn σ + 1))) (vp_updL (m_ld σ) (m_ln σ) d)) (updN (mvR (m_lk σ) (m_rd σ) j (m_hn σ + 1) d i) (i + 1) (m_hn σ + 1)))) H := hP
                  have hD : va_D A (wM a t (mu_lk (mu_ld (mu_lt (mu_lf (mu_ls (mu_ln (mu_zs (mu_tx (mu_lv (mu_kd (mu_hn ((TKM σ)) (m_hn σ + 1)) (updN (m_kd σ) (m_hn σ + 1) (m_kd σ j))) (updN (m_lv σ) (m_hn σ + 1) 1)) (cpT (m_tx σ) (20 * (m_hn σ + 1)) (m_sd σ) (m_sz σ))) (updN (m_zs σ) (m_hn σ + 1) (m_sz σ))) (m_ln σ + 1)) (updN (m_ls σ) (m_ln σ) 3)) (updN (m_lf σ) (m_ln σ) j)) (updN (m_lt σ) (m_ln σ) (m_hn σ + 1))) (vp_updL (m_ld σ) (m_ln σ) d)) (updN (mvR (m_lk σ) (m_rd σ) j (m_hn σ + 1) d i) (i + 1) (m_hn σ + 1)))) := hD
                  rw [mvR_put (f := m_lk σ) (d := m_rd σ) (h := j) (g := m_hn σ + 1) (day := d) (n := i) (by omega) (Int64.not_lt.mp c92)] at hP hD
                  refine x_iinc (lv' := [(5, .int (nI ((i + 1) + 1))), (0, .ref (a 0)), (1, .int (nI j)), (2, .long d), (4, .int (nI (m_hn σ + 1)))]) hx hb d_M_split_109 hl (k := 4) rfl (by decide) rfl (fun ls hl => ?_)
                  refine lv_goto (tgt := 58) hx hb d_M_split_112 (by decide) ?_
                  exact ih58 (i + 1) H locs ls (by omega) (by omega) hP hD hS (lv_sub hl [1, 2, 3, 4, 0] rfl)
        exact hloop58 _ 0 _ _ ls (by omega) (Nat.lt_succ_self _) hP hD hS (lv_sub hl [2, 3, 4, 1, 0] rfl)
    · refine x_if_ne (tgt := 25) hx hb d_M_split_20 (by decide) (fun h => absurd h (by decide)) (fun _ => ?_)
      refine lv_iconst (v := nI 0) hx hb d_M_split_23 (by decide) ?_
      exact x_mi (wl := wM a t) ((TKM σ)) hx hb hr hlk hK hP hD hS d_M_split_24 (Or.inr ⟨hok, Or.inl ⟨hnj, rfl, rfl⟩⟩)
  · refine x_if_ne (tgt := 15) hx hb d_M_split_9 (by decide) (fun h => absurd h (by decide)) (fun _ => ?_)
    refine lv_bipush (v := -99) hx hb d_M_split_12 (by decide) ?_
    exact x_mi (wl := wM a t) ((TKM σ)) hx hb hr hlk hK hP hD hS d_M_split_14 (Or.inl ⟨hok, rfl, rfl⟩)

