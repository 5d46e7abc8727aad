/-- b is the place of the latest link of h that counts on a day: the latest day, of the same day the first -/
def BST (f : Nat → Nat) (d : Nat → Int64) (n h : Nat) (day : Int64) (b : Nat) : Prop := b < n ∧ f b = h ∧ d b ≤ day ∧ (∀ j, j < n → f j = h → d j ≤ day → d j ≤ d b) ∧ ∀ j, j < b → f j = h → d j ≤ day → d j < d b
def NOB (f : Nat → Nat) (d : Nat → Int64) (n h : Nat) (day : Int64) : Prop := ∀ j, j < n → ¬ (f j = h ∧ d j ≤ day)
theorem NOB_s {f : Nat → Nat} {d : Nat → Int64} {n h : Nat} {day : Int64} (q : NOB f d n h day) (e : ¬ (f n = h ∧ d n ≤ day)) : NOB f d (n + 1) h day := fun j hj => by
  rcases Nat.lt_succ_iff_lt_or_eq.mp hj with h3 | h3
  · exact q j h3
  · rw [h3]; exact e
theorem BST_new {f : Nat → Nat} {d : Nat → Int64} {n h : Nat} {day : Int64} (q : NOB f d n h day) (h1 : f n = h) (h2 : d n ≤ day) : BST f d (n + 1) h day n :=
  ⟨Nat.lt_succ_self n, h1, h2, fun j hj e1 e2 => by
    rcases Nat.lt_succ_iff_lt_or_eq.mp hj with h3 | h3
    · exact absurd ⟨e1, e2⟩ (q j h3)
    · rw [h3]; exact Int64.le_refl _, fun j hj e1 e2 => absurd ⟨e1, e2⟩ (q j hj)⟩
theorem BST_more {f : Nat → Nat} {d : Nat → Int64} {n h b : Nat} {day : Int64} (q : BST f d n h day b) (h1 : f n = h) (h2 : d n ≤ day) (h3 : d b < d n) : BST f d (n + 1) h day n :=
  ⟨Nat.lt_succ_self n, h1, h2, fun j hj e1 e2 => by
    rcases Nat.lt_succ_iff_lt_or_eq.mp hj with h4 | h4
    · exact Int64.le_trans (q.2.2.2.1 j h4 e1 e2) (Int64.le_of_lt h3)
    · rw [h4]; exact Int64.le_refl _, fun j hj e1 e2 => Int64.lt_of_le_of_lt (q.2.2.2.1 j hj e1 e2) h3⟩
theorem BST_same {f : Nat → Nat} {d : Nat → Int64} {n h b : Nat} {day : Int64} (q : BST f d n h day b) (e : ¬ (f n = h ∧ d n ≤ day) ∨ ¬ d b < d n) : BST f d (n + 1) h day b :=
  ⟨Nat.lt_succ_of_lt q.1, q.2.1, q.2.2.1, fun j hj e1 e2 => by
    rcases Nat.lt_succ_iff_lt_or_eq.mp hj with h4 | h4
    · exact q.2.2.2.1 j h4 e1 e2
    · rw [h4] at e1 e2 ⊢
      rcases e with e | e
      · exact absurd ⟨e1, e2⟩ e
      · exact Int64.not_lt.mp e, q.2.2.2.2⟩
theorem nI_m1 {b : Nat} (h : b < 2 ^ 31) : ¬ nI b = -1 := fun e => by
  have h1 := nI_pos h
  rw [e] at h1
  exact h1 (by decide)
set_option maxRecDepth 100000 in
set_option maxHeartbeats 4000000 in
theorem c_K_latestOn (l : Launch) (dC : Nat → ClassId) (dI : Nat → Nat → Nat) (a : Nat → Nat) (t : Nat → ClassId) (σ : SA) (hG : GA σ) (h : Nat) (d : Int64) (hh : h ≤ 60) : Met l y_K_latestOn (wS y_K_latestOn b_K_latestOn 7 (some .int)) (rD 0) (va_Pc [.ref (a 10), .int (nI h), .long d] (RB (dC, dI) (yA t) (wA a t σ))) (vp_Si (fun r => (∃ b, BST (a_lf σ) (a_ld σ) (a_lc σ) h d b ∧ r = nI (a_lt σ b)) ∨ (NOB (a_lf σ) (a_ld σ) (a_lc σ) h d ∧ r = nI 0))) 0 0 (fun _ => False) := by
  refine x_enter (by decide) (Nat.le_of_ble_eq_true rfl) ?_
  intro p e s m below meth c ls hx hb hr hml hT hown hlk hnm hl hB
  obtain ⟨hP, hK, hN⟩ := hB
  have hl : lv_has ls 7 [(0, .ref (a 10)), (1, .int (nI h)), (2, .long d)] := hl
  have hown : s.vm.findClass R_K = some m.cls := hown
  have hG2 := hG
  obtain ⟨g_sn, g_sg, g_tn, g_tx, g_kd, g_lv, g_le, g_ln, g_hn, g_lf, g_lt, g_lc, g_rh, g_rn, g_ws, g_wn⟩ := hG
  refine lv_iconst (v := -1) hx hb d_K_latestOn_0 (by decide) ?_
  refine lv_istore (lv' := [(4, .int (-1)), (0, .ref (a 10)), (1, .int (nI h)), (2, .long d)]) hx hb d_K_latestOn_1 hl (by decide) rfl (fun ls hl => ?_)
  refine lv_iconst (v := nI 0) hx hb d_K_latestOn_3 (by decide) ?_
  refine lv_istore (lv' := [(5, .int (nI 0)), (4, .int (-1)), (0, .ref (a 10)), (1, .int (nI h)), (2, .long d)]) hx hb d_K_latestOn_4 hl (by decide) rfl (fun ls hl => ?_)
  have hloop6 : ∀ (n6 : Nat) (i : Nat) (x : Int32) (ls : Array Slot), i ≤ a_lc σ → ((x = -1 ∧ NOB (a_lf σ) (a_ld σ) i h d) ∨ ∃ b, x = nI b ∧ BST (a_lf σ) (a_ld σ) i h d b) → a_lc σ + 1 - i < n6 → lv_has ls 7 [(0, .ref (a 10)), (1, .int (nI h)), (2, .long d), (4, .int x), (5, .int (nI i))] → W p l e (rD 0) s m ([.ref (a 10), .int (nI h), .long d] : List Value).toArray below meth c s.heap [] 0 0 (MQ below (vp_Si (fun r => (∃ b, BST (a_lf σ) (a_ld σ) (a_lc σ) h d b ∧ r = nI (a_lt σ b)) ∨ (NOB (a_lf σ) (a_ld σ) (a_lc σ) h d ∧ r = nI 0))) ([.ref (a 10), .int (nI h), .long d] : List Value).toArray s 0 0 (fun _ => False)) (F0 m 6 ls []) := by
    intro n6
    induction n6 with
    | zero => intro i x ls _ _ h9; exact absurd h9 (Nat.not_lt_zero _)
    | succ n6 ih6 =>
      intro i x ls hi hx9 hmu6 hl
      rcases hx9 with ⟨rfl, hno⟩ | ⟨b, rfl, hbs⟩
      · refine lv_iload hx hb d_K_latestOn_6 (lv_at hl 4 rfl) ?_
        refine lv_aload_n hx hb d_K_latestOn_8 rfl (lv_at hl 0 rfl) ?_
        refine va_get (D := (dC, dI)) (C := R_K) (T := F_K) (N := 5) hx hb hT i_K hown hK hP 10 rfl rfl 4 (by decide) (hT _ k_K_25) (fun _ h9 => h9) (v := .int (nI (a_lc σ))) rfl d_K_latestOn_9 ?_
        refine x_icmp_ge (tgt := 84) hx hb d_K_latestOn_12 (by decide) (fun c12 => ?_) (fun c12 => ?_)
        · refine lv_iload hx hb d_K_latestOn_84 (lv_at hl 3 rfl) ?_
          refine lv_iconst (v := -1) hx hb d_K_latestOn_86 (by decide) ?_
          refine lv_icmp_ne (tgt := 94) hx hb d_K_latestOn_87 (by decide) (fun h9 => absurd rfl h9) (fun _ => ?_)
          refine lv_iconst (v := nI 0) hx hb d_K_latestOn_90 (by decide) ?_
          refine lv_goto (tgt := 101) hx hb d_K_latestOn_91 (by decide) ?_
          exact x_ri hx hb hr hlk d_K_latestOn_101 (Or.inr ⟨by rw [show a_lc σ = i by omega]; exact hno, rfl⟩)
        · refine lv_aload_n hx hb d_K_latestOn_15 rfl (lv_at hl 0 rfl) ?_
          refine va_get (D := (dC, dI)) (C := R_K) (T := F_K) (N := 5) hx hb hT i_K hown hK hP 10 rfl rfl 1 (by decide) (hT _ k_K_15) (fun _ h9 => h9) (v := .ref (a 12)) rfl d_K_latestOn_16 ?_
          refine lv_iload hx hb d_K_latestOn_19 (lv_at hl 4 rfl) ?_
          refine x_iald hx hb hK hP 12 7 (f := (a_lf σ)) rfl rfl d_K_latestOn_21 (by omega) ?_
          refine lv_iload_n hx hb d_K_latestOn_22 rfl (lv_at hl 1 rfl) ?_
          have g9 := g_lf i
          refine x_icmp_ne (tgt := 42) hx hb d_K_latestOn_23 (by decide) (fun c23 => ?_) (fun c23 => ?_)
          · refine lv_iconst (v := nI 0) hx hb d_K_latestOn_42 (by decide) ?_
            refine lv_istore (lv' := [(6, .int (nI 0)), (0, .ref (a 10)), (1, .int (nI h)), (2, .long d), (4, .int (-1)), (5, .int (nI i))]) hx hb d_K_latestOn_43 hl (by decide) rfl (fun ls hl => ?_)
            refine lv_iload hx hb d_K_latestOn_45 (lv_at hl 0 rfl) ?_
            refine x_if_eq (tgt := 78) hx hb d_K_latestOn_47 (by decide) (fun _ => ?_) (fun h => absurd h (by decide))
            refine x_iinc (lv' := [(5, .int (nI (i + 1))), (6, .int (nI 0)), (0, .ref (a 10)), (1, .int (nI h)), (2, .long d), (4, .int (-1))]) hx hb d_K_latestOn_78 hl (k := 5) rfl (by decide) rfl (fun ls hl => ?_)
            refine lv_goto (tgt := 6) hx hb d_K_latestOn_81 (by decide) ?_
            exact ih6 (i + 1) _ ls (by omega) (Or.inl ⟨rfl, NOB_s hno (fun q9 => by first | exact c23 q9.1 | exact absurd q9.2 (Int64.not_le.mpr c34))⟩) (by omega) (lv_sub hl [2, 3, 4, 5, 0] rfl)
          · refine lv_aload_n hx hb d_K_latestOn_26 rfl (lv_at hl 0 rfl) ?_
            refine va_get (D := (dC, dI)) (C := R_K) (T := F_K) (N := 5) hx hb hT i_K hown hK hP 10 rfl rfl 3 (by decide) (hT _ k_K_22) (fun _ h9 => h9) (v := .ref (a 14)) rfl d_K_latestOn_27 ?_
            refine lv_iload hx hb d_K_latestOn_30 (lv_at hl 4 rfl) ?_
            refine x_lald hx hb hK hP 14 9 (f := (a_ld σ)) rfl rfl d_K_latestOn_32 (by omega) ?_
            refine lv_lload_n hx hb d_K_latestOn_33 rfl (lv_at hl 2 rfl) ?_
            refine x_lif_gt (tgt := 42) hx hb d_K_latestOn_34 d_K_latestOn_35 (by decide) (fun c34 => ?_) (fun c34 => ?_)
            · refine lv_iconst (v := nI 0) hx hb d_K_latestOn_42 (by decide) ?_
              refine lv_istore (lv' := [(6, .int (nI 0)), (0, .ref (a 10)), (1, .int (nI h)), (2, .long d), (4, .int (-1)), (5, .int (nI i))]) hx hb d_K_latestOn_43 hl (by decide) rfl (fun ls hl => ?_)
              refine lv_iload hx hb d_K_latestOn_45 (lv_at hl 0 rfl) ?_
              refine x_if_eq (tgt := 78) hx hb d_K_latestOn_47 (by decide) (fun _ => ?_) (fun h => absurd h (by decide))
              refine x_iinc (lv' := [(5, .int (nI (i + 1))), (6, .int (nI 0)), (0, .ref (a 10)), (1, .int (nI h)), (2, .long d), (4, .int (-1))]) hx hb d_K_latestOn_78 hl (k := 5) rfl (by decide) rfl (fun ls hl => ?_)
              refine lv_goto (tgt := 6) hx hb d_K_latestOn_81 (by decide) ?_
              exact ih6 (i + 1) _ ls (by omega) (Or.inl ⟨rfl, NOB_s hno (fun q9 => by first | exact c23 q9.1 | exact absurd q9.2 (Int64.not_le.mpr c34))⟩) (by omega) (lv_sub hl [2, 3, 4, 5, 0] rfl)
            · refine lv_iconst (v := nI 1) hx hb d_K_latestOn_38 (by decide) ?_
              refine lv_goto (tgt := 43) hx hb d_K_latestOn_39 (by decide) ?_
              refine lv_istore (lv' := [(6, .int (nI 1)), (0, .ref (a 10)), (1, .int (nI h)), (2, .long d), (4, .int (-1)), (5, .int (nI i))]) hx hb d_K_latestOn_43 hl (by decide) rfl (fun ls hl => ?_)
              refine lv_iload hx hb d_K_latestOn_45 (lv_at hl 0 rfl) ?_
              refine x_if_eq (tgt := 78) hx hb d_K_latestOn_47 (by decide) (fun h => absurd h (by decide)) (fun _ => ?_)
              refine lv_iload hx hb d_K_latestOn_50 (lv_at hl 4 rfl) ?_
              refine lv_iconst (v := -1) hx hb d_K_latestOn_52 (by decide) ?_
              refine lv_icmp_eq (tgt := 74) hx hb d_K_latestOn_53 (by decide) (fun _ => ?_) (fun h9 => absurd rfl h9)
              refine lv_iload hx hb d_K_latestOn_74 (lv_at hl 5 rfl) ?_
              refine lv_istore (lv' := [(4, .int (nI i)), (6, .int (nI 1)), (0, .ref (a 10)), (1, .int (nI h)), (2, .long d), (5, .int (nI i))]) hx hb d_K_latestOn_76 hl (by decide) rfl (fun ls hl => ?_)
              refine x_iinc (lv' := [(5, .int (nI (i + 1))), (4, .int (nI i)), (6, .int (nI 1)), (0, .ref (a 10)), (1, .int (nI h)), (2, .long d)]) hx hb d_K_latestOn_78 hl (k := 5) rfl (by decide) rfl (fun ls hl => ?_)
              refine lv_goto (tgt := 6) hx hb d_K_latestOn_81 (by decide) ?_
              exact ih6 (i + 1) _ ls (by omega) (Or.inr ⟨i, rfl, by first | exact BST_new hno (by assumption) (Int64.not_lt.mp c34) | exact BST_more hbs (by assumption) (Int64.not_lt.mp c34) (Int64.not_le.mp c70)⟩) (by omega) (lv_sub hl [3, 4, 5, 1, 0] rfl)
      · refine lv_iload hx hb d_K_latestOn_6 (lv_at hl 4 rfl) ?_
        refine lv_aload_n hx hb d_K_latestOn_8 rfl (lv_at hl 0 rfl) ?_
        refine va_get (D := (dC, dI)) (C := R_K) (T := F_K) (N := 5) hx hb hT i_K hown hK hP 10 rfl rfl 4 (by decide) (hT _ k_K_25) (fun _ h9 => h9) (v := .int (nI (a_lc σ))) rfl d_K_latestOn_9 ?_
        refine x_icmp_ge (tgt := 84) hx hb d_K_latestOn_12 (by decide) (fun c12 => ?_) (fun c12 => ?_)
        · refine lv_iload hx hb d_K_latestOn_84 (lv_at hl 3 rfl) ?_
          refine lv_iconst (v := -1) hx hb d_K_latestOn_86 (by decide) ?_
          refine lv_icmp_ne (tgt := 94) hx hb d_K_latestOn_87 (by decide) (fun _ => ?_) (fun h9 => absurd h9 (nI_m1 (by have := hbs.1; omega)))
          refine lv_aload_n hx hb d_K_latestOn_94 rfl (lv_at hl 0 rfl) ?_
          refine va_get (D := (dC, dI)) (C := R_K) (T := F_K) (N := 5) hx hb hT i_K hown hK hP 10 rfl rfl 2 (by decide) (hT _ k_K_19) (fun _ h9 => h9) (v := .ref (a 13)) rfl d_K_latestOn_95 ?_
          refine lv_iload hx hb d_K_latestOn_98 (lv_at hl 3 rfl) ?_
          refine x_iald hx hb hK hP 13 8 (f := (a_lt σ)) rfl rfl d_K_latestOn_100 (by have := hbs.1; omega) ?_
          exact x_ri hx hb hr hlk d_K_latestOn_101 (Or.inl ⟨b, by rw [show a_lc σ = i by omega]; exact hbs, rfl⟩)
        · refine lv_aload_n hx hb d_K_latestOn_15 rfl (lv_at hl 0 rfl) ?_
          refine va_get (D := (dC, dI)) (C := R_K) (T := F_K) (N := 5) hx hb hT i_K hown hK hP 10 rfl rfl 1 (by decide) (hT _ k_K_15) (fun _ h9 => h9) (v := .ref (a 12)) rfl d_K_latestOn_16 ?_
          refine lv_iload hx hb d_K_latestOn_19 (lv_at hl 4 rfl) ?_
          refine x_iald hx hb hK hP 12 7 (f := (a_lf σ)) rfl rfl d_K_latestOn_21 (by omega) ?_
          refine lv_iload_n hx hb d_K_latestOn_22 rfl (lv_at hl 1 rfl) ?_
          have g9 := g_lf i
          refine x_icmp_ne (tgt := 42) hx hb d_K_latestOn_23 (by decide) (fun c23 => ?_) (fun c23 => ?_)
          · refine lv_iconst (v := nI 0) hx hb d_K_latestOn_42 (by decide) ?_
            refine lv_istore (lv' := [(6, .int (nI 0)), (0, .ref (a 10)), (1, .int (nI h)), (2, .long d), (4, .int (nI b)), (5, .int (nI i))]) hx hb d_K_latestOn_43 hl (by decide) rfl (fun ls hl => ?_)
            refine lv_iload hx hb d_K_latestOn_45 (lv_at hl 0 rfl) ?_
            refine x_if_eq (tgt := 78) hx hb d_K_latestOn_47 (by decide) (fun _ => ?_) (fun h => absurd h (by decide))
            refine x_iinc (lv' := [(5, .int (nI (i + 1))), (6, .int (nI 0)), (0, .ref (a 10)), (1, .int (nI h)), (2, .long d), (4, .int (nI b))]) hx hb d_K_latestOn_78 hl (k := 5) rfl (by decide) rfl (fun ls hl => ?_)
            refine lv_goto (tgt := 6) hx hb d_K_latestOn_81 (by decide) ?_
            exact ih6 (i + 1) _ ls (by omega) (Or.inr ⟨b, rfl, BST_same hbs (by first | exact Or.inr (Int64.not_lt.mpr c70) | exact Or.inl (fun q9 => by first | exact c23 q9.1 | exact absurd q9.2 (Int64.not_le.mpr c34)))⟩) (by omega) (lv_sub hl [2, 3, 4, 5, 0] rfl)
          · refine lv_aload_n hx hb d_K_latestOn_26 rfl (lv_at hl 0 rfl) ?_
            refine va_get (D := (dC, dI)) (C := R_K) (T := F_K) (N := 5) hx hb hT i_K hown hK hP 10 rfl rfl 3 (by decide) (hT _ k_K_22) (fun _ h9 => h9) (v := .ref (a 14)) rfl d_K_latestOn_27 ?_
            refine lv_iload hx hb d_K_latestOn_30 (lv_at hl 4 rfl) ?_
            refine x_lald hx hb hK hP 14 9 (f := (a_ld σ)) rfl rfl d_K_latestOn_32 (by omega) ?_
            refine lv_lload_n hx hb d_K_latestOn_33 rfl (lv_at hl 2 rfl) ?_
            refine x_lif_gt (tgt := 42) hx hb d_K_latestOn_34 d_K_latestOn_35 (by decide) (fun c34 => ?_) (fun c34 => ?_)
            · refine lv_iconst (v := nI 0) hx hb d_K_latestOn_42 (by decide) ?_
              refine lv_istore (lv' := [(6, .int (nI 0)), (0, .ref (a 10)), (1, .int (nI h)), (2, .long d), (4, .int (nI b)), (5, .int (nI i))]) hx hb d_K_latestOn_43 hl (by decide) rfl (fun ls hl => ?_)
              refine lv_iload hx hb d_K_latestOn_45 (lv_at hl 0 rfl) ?_
              refine x_if_eq (tgt := 78) hx hb d_K_latestOn_47 (by decide) (fun _ => ?_) (fun h => absurd h (by decide))
              refine x_iinc (lv' := [(5, .int (nI (i + 1))), (6, .int (nI 0)), (0, .ref (a 10)), (1, .int (nI h)), (2, .long d), (4, .int (nI b))]) hx hb d_K_latestOn_78 hl (k := 5) rfl (by decide) rfl (fun ls hl => ?_)
              refine lv_goto (tgt := 6) hx hb d_K_latestOn_81 (by decide) ?_
              exact ih6 (i + 1) _ ls (by omega) (Or.inr ⟨b, rfl, BST_same hbs (by first | exact Or.inr (Int64.not_lt.mpr c70) | exact Or.inl (fun q9 => by first | exact c23 q9.1 | exact absurd q9.2 (Int64.not_le.mpr c34)))⟩) (by omega) (lv_sub hl [2, 3, 4, 5, 0] rfl)
            · refine lv_iconst (v := nI 1) hx hb d_K_latestOn_38 (by decide) ?_
              refine lv_goto (tgt := 43) hx hb d_K_latestOn_39 (by decide) ?_
              refine lv_istore (lv' := [(6, .int (nI 1)), (0, .ref (a 10)), (1, .int (nI h)), (2, .long d), (4, .int (nI b)), (5, .int (nI i))]) hx hb d_K_latestOn_43 hl (by decide) rfl (fun ls hl => ?_)
              refine lv_iload hx hb d_K_latestOn_45 (lv_at hl 0 rfl) ?_
              refine x_if_eq (tgt := 78) hx hb d_K_latestOn_47 (by decide) (fun h => absurd h (by decide)) (fun _ => ?_)
              refine lv_iload hx hb d_K_latestOn_50 (lv_at hl 4 rfl) ?_
              refine lv_iconst (v := -1) hx hb d_K_latestOn_52 (by decide) ?_
              refine lv_icmp_eq (tgt := 74) hx hb d_K_latestOn_53 (by decide) (fun h9 => absurd h9 (nI_m1 (by have := hbs.1; omega))) (fun _ => ?_)
              refine lv_aload_n hx hb d_K_latestOn_56 rfl (lv_at hl 1 rfl) ?_
              refine va_get (D := (dC, dI)) (C := R_K) (T := F_K) (N := 5) hx hb hT i_K hown hK hP 10 rfl rfl 3 (by decide) (hT _ k_K_22) (fun _ h9 => h9) (v := .ref (a 14)) rfl d_K_latestOn_57 ?_
              refine lv_iload hx hb d_K_latestOn_60 (lv_at hl 5 rfl) ?_
              refine x_lald hx hb hK hP 14 9 (f := (a_ld σ)) rfl rfl d_K_latestOn_62 (by omega) ?_
              refine lv_aload_n hx hb d_K_latestOn_63 rfl (lv_at hl 1 rfl) ?_
              refine va_get (D := (dC, dI)) (C := R_K) (T := F_K) (N := 5) hx hb hT i_K hown hK hP 10 rfl rfl 3 (by decide) (hT _ k_K_22) (fun _ h9 => h9) (v := .ref (a 14)) rfl d_K_latestOn_64 ?_
              refine lv_iload hx hb d_K_latestOn_67 (lv_at hl 4 rfl) ?_
              refine x_lald hx hb hK hP 14 9 (f := (a_ld σ)) rfl rfl d_K_latestOn_69 (by have := hbs.1; omega) ?_
              refine x_lif_le (tgt := 78) hx hb d_K_latestOn_70 d_K_latestOn_71 (by decide) (fun c70 => ?_) (fun c70 => ?_)
              · refine x_iinc (lv' := [(5, .int (nI (i + 1))), (6, .int (nI 1)), (0, .ref (a 10)), (1, .int (nI h)), (2, .long d), (4, .int (nI b))]) hx hb d_K_latestOn_78 hl (k := 5) rfl (by decide) rfl (fun ls hl => ?_)
                refine lv_goto (tgt := 6) hx hb d_K_latestOn_81 (by decide) ?_
                exact ih6 (i + 1) _ ls (by omega) (Or.inr ⟨b, rfl, BST_same hbs (by first | exact Or.inr (Int64.not_lt.mpr c70) | exact Or.inl (fun q9 => by first | exact c23 q9.1 | exact absurd q9.2 (Int64.not_le.mpr c34)))⟩) (by omega) (lv_sub hl [2, 3, 4, 5, 0] rfl)
              · refine lv_iload hx hb d_K_latestOn_74 (lv_at hl 5 rfl) ?_
                refine lv_istore (lv' := [(4, .int (nI i)), (6, .int (nI 1)), (0, .ref (a 10)), (1, .int (nI h)), (2, .long d), (5, .int (nI i))]) hx hb d_K_latestOn_76 hl (by decide) rfl (fun ls hl => ?_)
                refine x_iinc (lv' := [(5, .int (nI (i + 1))), (4, .int (nI i)), (6, .int (nI 1)), (0, .ref (a 10)), (1, .int (nI h)), (2, .long d)]) hx hb d_K_latestOn_78 hl (k := 5) rfl (by decide) rfl (fun ls hl => ?_)
                refine lv_goto (tgt := 6) hx hb d_K_latestOn_81 (by decide) ?_
                exact ih6 (i + 1) _ ls (by omega) (Or.inr ⟨i, rfl, by first | exact BST_new hno (by assumption) (Int64.not_lt.mp c34) | exact BST_more hbs (by assumption) (Int64.not_lt.mp c34) (Int64.not_le.mp c70)⟩) (by omega) (lv_sub hl [3, 4, 5, 1, 0] rfl)
  exact hloop6 _ 0 _ ls (by omega) (Or.inl ⟨rfl, fun j hj => absurd hj (Nat.not_lt_zero _)⟩) (Nat.lt_succ_self _) (lv_sub hl [2, 3, 4, 1, 0] rfl)

set_option maxRecDepth 100000 in
set_option maxHeartbeats 4000000 in
theorem c_K_putLater (l : Launch) (dC : Nat → ClassId) (dI : Nat → Nat → Nat) (a : Nat → Nat) (t : Nat → ClassId) (σ : SA) (sz : Nat) (k f h : Nat) (d : Int64) (hk : k < 512) : Met l y_K_putLater (wS y_K_putLater b_K_putLater 6 none) (rD 0) (va_Pc [.ref (a 10), .int (nI k), .int (nI f), .int (nI h), .long d] (MB (dC, dI) (yA t) (wA a t σ) sz)) (va_Qv (fun u : SA => u = au_ld (au_lt (au_lf σ (updN (a_lf σ) k f)) (updN (a_lt σ) k h)) (vp_updL (a_ld σ) k d)) (fun u => ME (dC, dI) (yA t) (va_A (wA a t σ) sz) (wA a t u)) (va_A (wA a t σ) sz)) 0 0 (va_A (wA a t σ) sz) := by
  refine x_enter (by decide) (Nat.le_of_ble_eq_true rfl) ?_
  intro p e s m below meth c ls hx hb hr hml hT hown hlk hnm hl hB
  obtain ⟨rfl, hP, hK, hN, hD0⟩ := hB
  have hD := hD0.self (sz := s.heap.size)
  generalize hAe : va_A (wA a t σ) s.heap.size = A at hD ⊢
  have hA : ∀ q : Nat, s.heap.size ≤ q → A q := fun q h => by rw [← hAe]; exact Or.inr h
  have hS : va_S A s.heap s.heap [] := va_S.rf
  have hP : va_P (dC, dI) classes (wA a t σ) s.heap := hP
  have hl : lv_has ls 6 [(0, .ref (a 10)), (1, .int (nI k)), (2, .int (nI f)), (3, .int (nI h)), (4, .long d)] := hl
  have hown : s.vm.findClass R_K = some m.cls := hown
  refine lv_aload_n hx hb d_K_putLater_0 rfl (lv_at hl 0 rfl) ?_
  refine va_get (D := (dC, dI)) (C := R_K) (T := F_K) (N := 5) hx hb hT i_K hown hK hP 10 rfl rfl 1 (by decide) (hT _ k_K_15) (fun _ h9 => h9) (v := .ref (a 12)) rfl d_K_putLater_1 ?_
  refine lv_iload_n hx hb d_K_putLater_4 rfl (lv_at hl 1 rfl) ?_
  refine lv_iload_n hx hb d_K_putLater_5 rfl (lv_at hl 2 rfl) ?_
  refine x_iast hx hb hK hP hD hS 12 7 (f := (a_lf σ)) rfl rfl d_K_putLater_6 (by omega) (fun H locs hP hD hS => ?_)
  have hP : va_P (dC, dI) classes (wA a t (au_lf σ (updN (a_lf σ) (k) (f)))) H := hP
  have hD : va_D A (wA a t (au_lf σ (updN (a_lf σ) (k) (f)))) := hD
  refine lv_aload_n hx hb d_K_putLater_7 rfl (lv_at hl 0 rfl) ?_
  refine va_get (D := (dC, dI)) (C := R_K) (T := F_K) (N := 5) hx hb hT i_K hown hK hP 10 rfl rfl 2 (by decide) (hT _ k_K_19) (fun _ h9 => h9) (v := .ref (a 13)) rfl d_K_putLater_8 ?_
  refine lv_iload_n hx hb d_K_putLater_11 rfl (lv_at hl 1 rfl) ?_
  refine lv_iload_n hx hb d_K_putLater_12 rfl (lv_at hl 3 rfl) ?_
  refine x_iast hx hb hK hP hD hS 13 8 (f := (a_lt σ)) rfl rfl d_K_putLater_13 (by omega) (fun H locs hP hD hS => ?_)
  have hP : va_P (dC, dI) classes (wA a t (au_lt (au_lf σ (updN (a_lf σ) (k) (f))) (updN (a_lt σ) (k) (h)))) H := hP
  have hD : va_D A (wA a t (au_lt (au_lf σ (updN (a_lf σ) (k) (f))) (updN (a_lt σ) (k) (h)))) := hD
  refine lv_aload_n hx hb d_K_putLater_14 rfl (lv_at hl 0 rfl) ?_
  refine va_get (D := (dC, dI)) (C := R_K) (T := F_K) (N := 5) hx hb hT i_K hown hK hP 10 rfl rfl 3 (by decide) (hT _ k_K_22) (fun _ h9 => h9) (v := .ref (a 14)) rfl d_K_putLater_15 ?_
  refine lv_iload_n hx hb d_K_putLater_18 rfl (lv_at hl 1 rfl) ?_
  refine lv_lload hx hb d_K_putLater_19 (lv_at hl 4 rfl) ?_
  refine x_last hx hb hK hP hD hS 14 9 (f := (a_ld σ)) rfl rfl d_K_putLater_21 (by omega) (fun H locs hP hD hS => ?_)
  have hP : va_P (dC, dI) classes (wA a t (au_ld (au_lt (au_lf σ (updN (a_lf σ) (k) (f))) (updN (a_lt σ) (k) (h))) (vp_updL (a_ld σ) (k) (d)))) H := hP
  have hD : va_D A (wA a t (au_ld (au_lt (au_lf σ (updN (a_lf σ) (k) (f))) (updN (a_lt σ) (k) (h))) (vp_updL (a_ld σ) (k) (d)))) := hD
  exact x_mv (wl := wA a t) (au_ld (au_lt (au_lf σ (updN (a_lf σ) (k) (f))) (updN (a_lt σ) (k) (h))) (vp_updL (a_ld σ) (k) (d))) hx hb hr hlk hK hP hD hS d_K_putLater_22 rfl

set_option maxRecDepth 100000 in
set_option maxHeartbeats 4000000 in
theorem c_K_add (l : Launch) (dC : Nat → ClassId) (dI : Nat → Nat → Nat) (a : Nat → Nat) (t : Nat → ClassId) (σ : SA) (sz : Nat) (hG : GA σ) (q f h : Nat) (d : Int64) (hq : q < 4) (hf : f ≤ 60) (hh : h ≤ 60) (hn : a_lc σ < 512) (hf1 : 1 ≤ f) (hh1 : 1 ≤ h) : Met l y_K_add (wS y_K_add b_K_add 6 none) (rD 1) (va_Pc [.ref (a 10), .int (nI q), .int (nI f), .int (nI h), .long d] (MB (dC, dI) (yA t) (wA a t σ) sz)) (va_Qv (fun u : SA => u = if q = 3 then au_lc (au_ld (au_lt (au_lf (au_tg σ (vp_updL (a_tg σ) (q * 61 + f) (a_tg σ (q * 61 + f) ||| sg h))) (updN (a_lf σ) (a_lc σ) f)) (updN (a_lt σ) (a_lc σ) h)) (vp_updL (a_ld σ) (a_lc σ) d)) (a_lc σ + 1) else au_tg σ (vp_updL (a_tg σ) (q * 61 + f) (a_tg σ (q * 61 + f) ||| sg h))) (fun u => ME (dC, dI) (yA t) (va_A (wA a t σ) sz) (wA a t u)) (va_A (wA a t σ) sz)) 0 0 (va_A (wA a t σ) sz) := by
  refine x_enter (by decide) (Nat.le_of_ble_eq_true rfl) ?_
  intro p e s m below meth c ls hx hb hr hml hT hown hlk hnm hl hB
  obtain ⟨rfl, hP, hK, hN, hD0⟩ := hB
  have hD := hD0.self (sz := s.heap.size)
  generalize hAe : va_A (wA a t σ) s.heap.size = A at hD ⊢
  have hA : ∀ q : Nat, s.heap.size ≤ q → A q := fun q h => by rw [← hAe]; exact Or.inr h
  have hS : va_S A s.heap s.heap [] := va_S.rf
  have hP : va_P (dC, dI) classes (wA a t σ) s.heap := hP
  have hl : lv_has ls 6 [(0, .ref (a 10)), (1, .int (nI q)), (2, .int (nI f)), (3, .int (nI h)), (4, .long d)] := hl
  have hown : s.vm.findClass R_K = some m.cls := hown
  have hG2 := hG
  obtain ⟨g_sn, g_sg, g_tn, g_tx, g_kd, g_lv, g_le, g_ln, g_hn, g_lf, g_lt, g_lc, g_rh, g_rn, g_ws, g_wn⟩ := hG
  refine lv_aload_n hx hb d_K_add_0 rfl (lv_at hl 0 rfl) ?_
  refine x_ci (x_runV ⟨hx, hb, hml, hown, hT⟩ (c_K_isFull l dC dI a t σ hG2) f_K_isFull k_K_45 blR (va_recv hK hP (ci := 3) (q0 := 10) rfl rfl) (x_bR hK hP hN) hl.1 d_K_add_1 rfl (lv_room (Nat.le_of_ble_eq_true rfl)) ⟨Nat.le_of_ble_eq_true rfl, Nat.le_of_ble_eq_true rfl⟩ ⟨rfl, rfl⟩ ⟨Nat.le_refl 0, Nat.le_refl 0⟩ rfl) (fun r1 q1 => ?_)
  rcases q1 with ⟨_, h9⟩ | ⟨rfl, _⟩
  · exact absurd h9 (by omega)
  refine x_if_ne (tgt := 23) hx hb d_K_add_4 (by decide) (fun h => absurd h (by decide)) (fun _ => ?_)
  refine lv_iload_n hx hb d_K_add_7 rfl (lv_at hl 1 rfl) ?_
  refine lv_iload_n hx hb d_K_add_8 rfl (lv_at hl 2 rfl) ?_
  refine x_ci (x_runS ⟨hx, hb, hml, hown, hT⟩ (c_K_isPlace l q f (by omega) (by omega)) f_K_isPlace k_K_37 blT (x_bT hN) hl.1 d_K_add_9 rfl (lv_room (Nat.le_of_ble_eq_true rfl)) ⟨Nat.le_of_ble_eq_true rfl, Nat.le_of_ble_eq_true rfl⟩ ⟨rfl, rfl⟩ ⟨Nat.le_refl 0, Nat.le_refl 0⟩ rfl) (fun r9 q9 => ?_)
  obtain rfl : r9 = nI 1 := by rcases q9 with ⟨h9, _⟩ | ⟨_, h9⟩; exact h9; exact absurd (show 1 ≤ f by omega) h9
  refine x_if_eq (tgt := 23) hx hb d_K_add_12 (by decide) (fun h => absurd h (by decide)) (fun _ => ?_)
  refine lv_iload_n hx hb d_K_add_15 rfl (lv_at hl 1 rfl) ?_
  refine lv_iload_n hx hb d_K_add_16 rfl (lv_at hl 3 rfl) ?_
  refine x_ci (x_runS ⟨hx, hb, hml, hown, hT⟩ (c_K_isPlace l q h (by omega) (by omega)) f_K_isPlace k_K_37 blT (x_bT hN) hl.1 d_K_add_17 rfl (lv_room (Nat.le_of_ble_eq_true rfl)) ⟨Nat.le_of_ble_eq_true rfl, Nat.le_of_ble_eq_true rfl⟩ ⟨rfl, rfl⟩ ⟨Nat.le_refl 0, Nat.le_refl 0⟩ rfl) (fun r17 q17 => ?_)
  obtain rfl : r17 = nI 1 := by rcases q17 with ⟨h9, _⟩ | ⟨_, h9⟩; exact h9; exact absurd (show 1 ≤ h by omega) h9
  refine x_if_ne (tgt := 24) hx hb d_K_add_20 (by decide) (fun _ => ?_) (fun h => absurd h (by decide))
  refine lv_aload_n hx hb d_K_add_24 rfl (lv_at hl 0 rfl) ?_
  refine va_get (D := (dC, dI)) (C := R_K) (T := F_K) (N := 5) hx hb hT i_K hown hK hP 10 rfl rfl 0 (by decide) (hT _ k_K_9) (fun _ h9 => h9) (v := .ref (a 11)) rfl d_K_add_25 ?_
  refine lv_iload_n hx hb d_K_add_28 rfl (lv_at hl 1 rfl) ?_
  refine lv_bipush (v := nI 61) hx hb d_K_add_29 (by decide) ?_
  refine x_imul hx hb d_K_add_31 ?_
  refine lv_iload_n hx hb d_K_add_32 rfl (lv_at hl 2 rfl) ?_
  refine x_iadd hx hb d_K_add_33 ?_
  refine lv_dup2_11 hx hb d_K_add_34 rfl rfl ?_
  refine x_lald hx hb hK hP 11 6 (f := (a_tg σ)) rfl rfl d_K_add_35 (by omega) ?_
  refine lv_iload_n hx hb d_K_add_36 rfl (lv_at hl 3 rfl) ?_
  refine x_cl (x_runSN ⟨hx, hb, hml, hown, hT⟩ hN (c_A_setOf l h (by omega)) f_A_setOf k_K_41 blT (x_bT hN) hl.1 d_K_add_37 rfl (lv_room (Nat.le_of_ble_eq_true rfl)) ⟨Nat.le_of_ble_eq_true rfl, Nat.le_of_ble_eq_true rfl⟩ ⟨rfl, rfl⟩ ⟨Nat.le_refl 0, Nat.le_refl 0⟩ rfl) (fun r37 q37 => ?_)
  subst q37
  refine lv_lor hx hb d_K_add_40 ?_
  refine x_last hx hb hK hP hD hS 11 6 (f := (a_tg σ)) rfl rfl d_K_add_41 (by omega) (fun H locs hP hD hS => ?_)
  have hP : va_P (dC, dI) classes (wA a t (au_tg σ (vp_updL (a_tg σ) ((q * 61) + f) (((a_tg σ) ((q * 61) + f)) ||| (sg h))))) H := hP
  have hD : va_D A (wA a t (au_tg σ (vp_updL (a_tg σ) ((q * 61) + f) (((a_tg σ) ((q * 61) + f)) ||| (sg h))))) := hD
  refine lv_iload_n hx hb d_K_add_42 rfl (lv_at hl 1 rfl) ?_
  refine lv_iconst (v := nI 3) hx hb d_K_add_43 (by decide) ?_
  refine x_icmp_ne (tgt := 69) hx hb d_K_add_44 (by decide) (fun c44 => ?_) (fun c44 => ?_)
  · exact x_mv (wl := wA a t) (au_tg σ (vp_updL (a_tg σ) ((q * 61) + f) (((a_tg σ) ((q * 61) + f)) ||| (sg h)))) hx hb hr hlk hK hP hD hS d_K_add_69 (by rw [if_neg (by omega)])
  · refine lv_aload_n hx hb d_K_add_47 rfl (lv_at hl 0 rfl) ?_
    refine lv_aload_n hx hb d_K_add_48 rfl (lv_at hl 0 rfl) ?_
    refine va_get (D := (dC, dI)) (C := R_K) (T := F_K) (N := 5) hx hb hT i_K hown hK hP 10 rfl rfl 4 (by decide) (hT _ k_K_25) (fun _ h9 => h9) (v := .int (nI (a_lc σ))) rfl d_K_add_49 ?_
    refine lv_iload_n hx hb d_K_add_52 rfl (lv_at hl 2 rfl) ?_
    refine lv_iload_n hx hb d_K_add_53 rfl (lv_at hl 3 rfl) ?_
    refine lv_lload hx hb d_K_add_54 (lv_at hl 4 rfl) ?_
    refine x_cMv (wl := wA a t) (x_runV ⟨hx, hb, hml, hown, hT⟩ (c_K_putLater l dC dI a t (au_tg σ (vp_updL (a_tg σ) ((q * 61) + f) (((a_tg σ) ((q * 61) + f)) ||| (sg h)))) H.size (a_lc σ) f h d (by omega)) f_K_putLater k_K_49 blM (va_recv hK hP (ci := 3) (q0 := 10) rfl rfl) (x_bM hK hP hN hD) hl.1 d_K_add_56 rfl (lv_room (Nat.le_of_ble_eq_true rfl)) ⟨Nat.le_of_ble_eq_true rfl, Nat.le_of_ble_eq_true rfl⟩ ⟨rfl, rfl⟩ ⟨Nat.le_refl 0, Nat.le_refl 0⟩ rfl) hD hS hA (fun u56 H locs q56 hP hD hS => ?_)
    subst q56
    have hP : va_P (dC, dI) classes (wA a t (au_ld (au_lt (au_lf (au_tg σ (vp_updL (a_tg σ) (q * 61 + f) (a_tg σ (q * 61 + f) ||| sg h))) (updN (a_lf σ) (a_lc σ) f)) (updN (a_lt σ) (a_lc σ) h)) (vp_updL (a_ld σ) (a_lc σ) d))) H := hP
    have hD : va_D A (wA a t (au_ld (au_lt (au_lf (au_tg σ (vp_updL (a_tg σ) (q * 61 + f) (a_tg σ (q * 61 + f) ||| sg h))) (updN (a_lf σ) (a_lc σ) f)) (updN (a_lt σ) (a_lc σ) h)) (vp_updL (a_ld σ) (a_lc σ) d))) := hD
    refine lv_aload_n hx hb d_K_add_59 rfl (lv_at hl 0 rfl) ?_
    refine lv_dup hx hb d_K_add_60 rfl ?_
    refine va_get (D := (dC, dI)) (C := R_K) (T := F_K) (N := 5) hx hb hT i_K hown hK hP 10 rfl rfl 4 (by decide) (hT _ k_K_25) (fun _ h9 => h9) (v := .int (nI (a_lc σ))) rfl d_K_add_61 ?_
    refine lv_iconst (v := nI 1) hx hb d_K_add_64 (by decide) ?_
    refine x_iadd hx hb d_K_add_65 ?_
    refine va_put (D := (dC, dI)) (v := .int (nI ((a_lc σ) + 1))) (ty := .int) (C := R_K) (T := F_K) (N := 5) hx hb hT i_K ft_K ft_K_ok n_K hown hK hP hD hS 10 rfl rfl 4 (by decide) (hT _ k_K_25) (fun _ h9 => h9) rfl (by decide +kernel) rfl rfl (Nat.le_of_ble_eq_true rfl) d_K_add_66 (fun H locs hP hD hS => ?_)
    have hP : va_P (dC, dI) classes (wA a t (au_lc (au_ld (au_lt (au_lf (au_tg σ (vp_updL (a_tg σ) (q * 61 + f) (a_tg σ (q * 61 + f) ||| sg h))) (updN (a_lf σ) (a_lc σ) f)) (updN (a_lt σ) (a_lc σ) h)) (vp_updL (a_ld σ) (a_lc σ) d)) ((a_lc σ) + 1))) H := hP
    have hD : va_D A (wA a t (au_lc (au_ld (au_lt (au_lf (au_tg σ (vp_updL (a_tg σ) (q * 61 + f) (a_tg σ (q * 61 + f) ||| sg h))) (updN (a_lf σ) (a_lc σ) f)) (updN (a_lt σ) (a_lc σ) h)) (vp_updL (a_ld σ) (a_lc σ) d)) ((a_lc σ) + 1))) := hD
    exact x_mv (wl := wA a t) (au_lc (au_ld (au_lt (au_lf (au_tg σ (vp_updL (a_tg σ) (q * 61 + f) (a_tg σ (q * 61 + f) ||| sg h))) (updN (a_lf σ) (a_lc σ) f)) (updN (a_lt σ) (a_lc σ) h)) (vp_updL (a_ld σ) (a_lc σ) d)) ((a_lc σ) + 1)) hx hb hr hlk hK hP hD hS d_K_add_69 (by rw [if_pos (by omega)])

/-- the LATER links as a list -/
def lst (f g : Nat → Nat) (d : Nat → Int64) : Nat → List (Nat × Nat × Int64)
  | 0 => []
  | n + 1 => lst f g d n ++ [(f n, g n, d n)]
theorem lst_len (f g : Nat → Nat) (d : Nat → Int64) : ∀ n, (lst f g d n).length = n := by
  intro n
  induction n with
  | zero => rfl
  | succ n ih => simp [lst, ih]
theorem lst_congr {f g f' g' : Nat → Nat} {d d' : Nat → Int64} : ∀ {n : Nat}, (∀ j, j < n → f j = f' j ∧ g j = g' j ∧ d j = d' j) → lst f g d n = lst f' g' d' n := by
  intro n
  induction n with
  | zero => intro _; rfl
  | succ n ih =>
    intro h
    obtain ⟨h1, h2, h3⟩ := h n (Nat.lt_succ_self n)
    simp only [lst]
    rw [ih (fun j hj => h j (Nat.lt_succ_of_lt hj)), h1, h2, h3]
def keepL (h : Nat) (q : Nat × Nat × Int64) : Bool := decide (q.1 ≠ h) && decide (q.2.1 ≠ h)
theorem lst_keep {f g F G : Nat → Nat} {d E : Nat → Int64} {h i k : Nat} (hl : lst F G E k = (lst f g d i).filter (keepL h)) (hk : k ≤ i) (hr : F i = f i ∧ G i = g i ∧ E i = d i) (h1 : ¬ F i = h) (h2 : ¬ G i = h) : lst (updN F k (F i)) (updN G k (G i)) (vp_updL E k (E i)) (k + 1) = (lst f g d (i + 1)).filter (keepL h) := by
  simp only [lst, List.filter_append]
  rw [← hl, updN_s, updN_s, updL_s, hr.1, hr.2.1, hr.2.2]
  rw [hr.1] at h1
  rw [hr.2.1] at h2
  have e : lst (updN F k (f i)) (updN G k (g i)) (vp_updL E k (d i)) k = lst F G E k := lst_congr (fun j hj => ⟨updN_n (by omega), updN_n (by omega), updL_n (by omega)⟩)
  rw [e]
  simp [keepL, h1, h2]
theorem lst_drop {f g F G : Nat → Nat} {d E : Nat → Int64} {h i k : Nat} (hl : lst F G E k = (lst f g d i).filter (keepL h)) (hr : F i = f i ∧ G i = g i ∧ E i = d i) (h1 : F i = h ∨ G i = h) : lst F G E k = (lst f g d (i + 1)).filter (keepL h) := by
  simp only [lst, List.filter_append]
  rw [← hl]
  rw [hr.1, hr.2.1] at h1
  rcases h1 with h1 | h1 <;> simp [keepL, h1]
set_option maxRecDepth 100000 in
set_option maxHeartbeats 4000000 in
theorem c_K_removeLaterOf (l : Launch) (dC : Nat → ClassId) (dI : Nat → Nat → Nat) (a : Nat → Nat) (t : Nat → ClassId) (σ : SA) (sz : Nat) (hG : GA σ) (h : Nat) (hh : h ≤ 60) : Met l y_K_removeLaterOf (wS y_K_removeLaterOf b_K_removeLaterOf 4 none) (rD 1) (va_Pc [.ref (a 10), .int (nI h)] (MB (dC, dI) (yA t) (wA a t σ) sz)) (va_Qv (fun u : SA => ∃ (F G : Nat → Nat) (E : Nat → Int64) (k : Nat), u = au_lc (au_ld (au_lt (au_lf σ F) G) E) k ∧ k ≤ a_lc σ ∧ (∀ j, F j ≤ 60) ∧ (∀ j, G j ≤ 60) ∧ lst F G E k = (lst (a_lf σ) (a_lt σ) (a_ld σ) (a_lc σ)).filter (keepL h)) (fun u => ME (dC, dI) (yA t) (va_A (wA a t σ) sz) (wA a t u)) (va_A (wA a t σ) sz)) 0 0 (va_A (wA a t σ) sz) := by
  refine x_enter (by decide) (Nat.le_of_ble_eq_true rfl) ?_
  intro p e s m below meth c ls hx hb hr hml hT hown hlk hnm hl hB
  obtain ⟨rfl, hP, hK, hN, hD0⟩ := hB
  have hD := hD0.self (sz := s.heap.size)
  generalize hAe : va_A (wA a t σ) s.heap.size = A at hD ⊢
  have hA : ∀ q : Nat, s.heap.size ≤ q → A q := fun q h => by rw [← hAe]; exact Or.inr h
  have hS : va_S A s.heap s.heap [] := va_S.rf
  have hP : va_P (dC, dI) classes (wA a t σ) s.heap := hP
  have hl : lv_has ls 4 [(0, .ref (a 10)), (1, .int (nI h))] := hl
  have hown : s.vm.findClass R_K = some m.cls := hown
  have hG2 := hG
  obtain ⟨g_sn, g_sg, g_tn, g_tx, g_kd, g_lv, g_le, g_ln, g_hn, g_lf, g_lt, g_lc, g_rh, g_rn, g_ws, g_wn⟩ := hG
  refine lv_iconst (v := nI 0) hx hb d_K_removeLaterOf_0 (by decide) ?_
  refine lv_istore_n (lv' := [(2, .int (nI 0)), (0, .ref (a 10)), (1, .int (nI h))]) hx hb d_K_removeLaterOf_1 rfl hl (by decide) rfl (fun ls hl => ?_)
  refine lv_iconst (v := nI 0) hx hb d_K_removeLaterOf_2 (by decide) ?_
  refine lv_istore_n (lv' := [(3, .int (nI 0)), (2, .int (nI 0)), (0, .ref (a 10)), (1, .int (nI h))]) hx hb d_K_removeLaterOf_3 rfl hl (by decide) rfl (fun ls hl => ?_)
  have hloop4 : ∀ (n4 : Nat) (i : Nat) (k : Nat) (F : Nat → Nat) (G : Nat → Nat) (E : Nat → Int64) (H : Heap) (locs : List Loc) (ls : Array Slot), i ≤ a_lc σ → k ≤ i → (∀ j, F j ≤ 60) → (∀ j, G j ≤ 60) → (∀ j, i ≤ j → F j = a_lf σ j ∧ G j = a_lt σ j ∧ E j = a_ld σ j) → lst F G E k = (lst (a_lf σ) (a_lt σ) (a_ld σ) i).filter (keepL h) → a_lc σ + 1 - i < n4 → va_P (dC, dI) classes (wA a t (au_ld (au_lt (au_lf σ (F)) (G)) (E))) H → va_D A (wA a t (au_ld (au_lt (au_lf σ (F)) (G)) (E))) → va_S A s.heap H locs → lv_has ls 4 [(0, .ref (a 10)), (1, .int (nI h)), (2, .int (nI k)), (3, .int (nI i))] → W p l e (rD 1) s m ([.ref (a 10), .int (nI h)] : List Value).toArray below meth c H locs 0 0 (MQ below (va_Qv (fun u : SA => ∃ (F G : Nat → Nat) (E : Nat → Int64) (k : Nat), u = au_lc (au_ld (au_lt (au_lf σ F) G) E) k ∧ k ≤ a_lc σ ∧ (∀ j, F j ≤ 60) ∧ (∀ j, G j ≤ 60) ∧ lst F G E k = (lst (a_lf σ) (a_lt σ) (a_ld σ) (a_lc σ)).filter (keepL h)) (fun u => ME (dC, dI) (yA t) A (wA a t u)) A) ([.ref (a 10), .int (nI h)] : List Value).toArray s 0 0 A) (F0 m 4 ls []) := by
    intro n4
    induction n4 with
    | zero => intro i k F G E H locs ls _ _ _ _ _ _ h9; exact absurd h9 (Nat.not_lt_zero _)
    | succ n4 ih4 =>
      intro i k F G E H locs ls hi hk hF hG9 hrest hlst hmu4 hP hD hS hl
      refine lv_iload_n hx hb d_K_removeLaterOf_4 rfl (lv_at hl 3 rfl) ?_
      refine lv_aload_n hx hb d_K_removeLaterOf_5 rfl (lv_at hl 0 rfl) ?_
      refine va_get (D := (dC, dI)) (C := R_K) (T := F_K) (N := 5) hx hb hT i_K hown hK hP 10 rfl rfl 4 (by decide) (hT _ k_K_25) (fun _ h9 => h9) (v := .int (nI (a_lc σ))) rfl d_K_removeLaterOf_6 ?_
      refine x_icmp_ge (tgt := 64) hx hb d_K_removeLaterOf_9 (by decide) (fun c9 => ?_) (fun c9 => ?_)
      · refine lv_aload_n hx hb d_K_removeLaterOf_64 rfl (lv_at hl 0 rfl) ?_
        refine lv_iload_n hx hb d_K_removeLaterOf_65 rfl (lv_at hl 2 rfl) ?_
        refine va_put (D := (dC, dI)) (v := .int (nI k)) (ty := .int) (C := R_K) (T := F_K) (N := 5) hx hb hT i_K ft_K ft_K_ok n_K hown hK hP hD hS 10 rfl rfl 4 (by decide) (hT _ k_K_25) (fun _ h9 => h9) rfl (by decide +kernel) rfl rfl (Nat.le_of_ble_eq_true rfl) d_K_removeLaterOf_66 (fun H locs hP hD hS => ?_)
        have hP : va_P (dC, dI) classes (wA a t (au_lc (au_ld (au_lt (au_lf σ (F)) (G)) (E)) (k))) H := hP
        have hD : va_D A (wA a t (au_lc (au_ld (au_lt (au_lf σ (F)) (G)) (E)) (k))) := hD
        exact x_mv (wl := wA a t) (au_lc (au_ld (au_lt (au_lf σ (F)) (G)) (E)) (k)) hx hb hr hlk hK hP hD hS d_K_removeLaterOf_69 ⟨F, G, E, k, rfl, by omega, hF, hG9, by rw [show a_lc σ = i by omega]; exact hlst⟩
      · refine lv_aload_n hx hb d_K_removeLaterOf_12 rfl (lv_at hl 0 rfl) ?_
        refine va_get (D := (dC, dI)) (C := R_K) (T := F_K) (N := 5) hx hb hT i_K hown hK hP 10 rfl rfl 1 (by decide) (hT _ k_K_15) (fun _ h9 => h9) (v := .ref (a 12)) rfl d_K_removeLaterOf_13 ?_
        refine lv_iload_n hx hb d_K_removeLaterOf_16 rfl (lv_at hl 3 rfl) ?_
        refine x_iald hx hb hK hP 12 7 (f := F) rfl rfl d_K_removeLaterOf_17 (by omega) ?_
        refine lv_iload_n hx hb d_K_removeLaterOf_18 rfl (lv_at hl 1 rfl) ?_
        have g9 := hF i
        refine x_icmp_eq (tgt := 58) hx hb d_K_removeLaterOf_19 (by decide) (fun c19 => ?_) (fun c19 => ?_)
        · refine x_iinc (lv' := [(3, .int (nI (i + 1))), (0, .ref (a 10)), (1, .int (nI h)), (2, .int (nI k))]) hx hb d_K_removeLaterOf_58 hl (k := 3) rfl (by decide) rfl (fun ls hl => ?_)
          refine lv_goto (tgt := 4) hx hb d_K_removeLaterOf_61 (by decide) ?_
          exact ih4 (i + 1) k F G E H locs ls (by omega) (by omega) hF hG9 (fun j hj => hrest j (by omega)) (lst_drop hlst (hrest i (Nat.le_refl i)) (by first | exact Or.inl (by assumption) | exact Or.inr (by assumption))) (by omega) hP hD hS (lv_sub hl [1, 2, 3, 0] rfl)
        · refine lv_aload_n hx hb d_K_removeLaterOf_22 rfl (lv_at hl 0 rfl) ?_
          refine va_get (D := (dC, dI)) (C := R_K) (T := F_K) (N := 5) hx hb hT i_K hown hK hP 10 rfl rfl 2 (by decide) (hT _ k_K_19) (fun _ h9 => h9) (v := .ref (a 13)) rfl d_K_removeLaterOf_23 ?_
          refine lv_iload_n hx hb d_K_removeLaterOf_26 rfl (lv_at hl 3 rfl) ?_
          refine x_iald hx hb hK hP 13 8 (f := G) rfl rfl d_K_removeLaterOf_27 (by omega) ?_
          refine lv_iload_n hx hb d_K_removeLaterOf_28 rfl (lv_at hl 1 rfl) ?_
          have g8 := hG9 i
          refine x_icmp_eq (tgt := 58) hx hb d_K_removeLaterOf_29 (by decide) (fun c29 => ?_) (fun c29 => ?_)
          · refine x_iinc (lv' := [(3, .int (nI (i + 1))), (0, .ref (a 10)), (1, .int (nI h)), (2, .int (nI k))]) hx hb d_K_removeLaterOf_58 hl (k := 3) rfl (by decide) rfl (fun ls hl => ?_)
            refine lv_goto (tgt := 4) hx hb d_K_removeLaterOf_61 (by decide) ?_
            exact ih4 (i + 1) k F G E H locs ls (by omega) (by omega) hF hG9 (fun j hj => hrest j (by omega)) (lst_drop hlst (hrest i (Nat.le_refl i)) (by first | exact Or.inl (by assumption) | exact Or.inr (by assumption))) (by omega) hP hD hS (lv_sub hl [1, 2, 3, 0] rfl)
          · refine lv_aload_n hx hb d_K_removeLaterOf_32 rfl (lv_at hl 0 rfl) ?_
            refine lv_iload_n hx hb d_K_removeLaterOf_33 rfl (lv_at hl 2 rfl) ?_
            refine lv_aload_n hx hb d_K_removeLaterOf_34 rfl (lv_at hl 0 rfl) ?_
            refine va_get (D := (dC, dI)) (C := R_K) (T := F_K) (N := 5) hx hb hT i_K hown hK hP 10 rfl rfl 1 (by decide) (hT _ k_K_15) (fun _ h9 => h9) (v := .ref (a 12)) rfl d_K_removeLaterOf_35 ?_
            refine lv_iload_n hx hb d_K_removeLaterOf_38 rfl (lv_at hl 3 rfl) ?_
            refine x_iald hx hb hK hP 12 7 (f := F) rfl rfl d_K_removeLaterOf_39 (by omega) ?_
            refine lv_aload_n hx hb d_K_removeLaterOf_40 rfl (lv_at hl 0 rfl) ?_
            refine va_get (D := (dC, dI)) (C := R_K) (T := F_K) (N := 5) hx hb hT i_K hown hK hP 10 rfl rfl 2 (by decide) (hT _ k_K_19) (fun _ h9 => h9) (v := .ref (a 13)) rfl d_K_removeLaterOf_41 ?_
            refine lv_iload_n hx hb d_K_removeLaterOf_44 rfl (lv_at hl 3 rfl) ?_
            refine x_iald hx hb hK hP 13 8 (f := G) rfl rfl d_K_removeLaterOf_45 (by omega) ?_
            refine lv_aload_n hx hb d_K_removeLaterOf_46 rfl (lv_at hl 0 rfl) ?_
            refine va_get (D := (dC, dI)) (C := R_K) (T := F_K) (N := 5) hx hb hT i_K hown hK hP 10 rfl rfl 3 (by decide) (hT _ k_K_22) (fun _ h9 => h9) (v := .ref (a 14)) rfl d_K_removeLaterOf_47 ?_
            refine lv_iload_n hx hb d_K_removeLaterOf_50 rfl (lv_at hl 3 rfl) ?_
            refine x_lald hx hb hK hP 14 9 (f := E) rfl rfl d_K_removeLaterOf_51 (by omega) ?_
            refine x_cMv (wl := wA a t) (x_runV ⟨hx, hb, hml, hown, hT⟩ (c_K_putLater l dC dI a t (au_ld (au_lt (au_lf σ (F)) (G)) (E)) H.size k (F i) (G i) (E i) (by omega)) f_K_putLater k_K_49 blM (va_recv hK hP (ci := 3) (q0 := 10) rfl rfl) (x_bM hK hP hN hD) hl.1 d_K_removeLaterOf_52 rfl (lv_room (Nat.le_of_ble_eq_true rfl)) ⟨Nat.le_of_ble_eq_true rfl, Nat.le_of_ble_eq_true rfl⟩ ⟨rfl, rfl⟩ ⟨Nat.le_refl 0, Nat.le_refl 0⟩ rfl) hD hS hA (fun u52 H locs q52 hP hD hS => ?_)
            subst q52
            have hP : va_P (dC, dI) classes (wA a t (au_ld (au_lt (au_lf σ (updN F k (F i))) (updN G k (G i))) (vp_updL E k (E i)))) H := hP
            have hD : va_D A (wA a t (au_ld (au_lt (au_lf σ (updN F k (F i))) (updN G k (G i))) (vp_updL E k (E i)))) := hD
            refine x_iinc (lv' := [(2, .int (nI (k + 1))), (0, .ref (a 10)), (1, .int (nI h)), (3, .int (nI i))]) hx hb d_K_removeLaterOf_55 hl (k := 2) rfl (by decide) rfl (fun ls hl => ?_)
            refine x_iinc (lv' := [(3, .int (nI (i + 1))), (2, .int (nI (k + 1))), (0, .ref (a 10)), (1, .int (nI h))]) hx hb d_K_removeLaterOf_58 hl (k := 3) rfl (by decide) rfl (fun ls hl => ?_)
            refine lv_goto (tgt := 4) hx hb d_K_removeLaterOf_61 (by decide) ?_
            exact ih4 (i + 1) (k + 1) _ _ _ H locs ls (by omega) (by omega) (updN_le hF (hF i)) (updN_le hG9 (hG9 i)) (fun j hj => by rw [updN_n (by omega), updN_n (by omega), updL_n (by omega)]; exact hrest j (by omega)) (lst_keep hlst hk (hrest i (Nat.le_refl i)) c19 c29) (by omega) hP hD hS (lv_sub hl [2, 3, 1, 0] rfl)
  exact hloop4 _ 0 0 (a_lf σ) (a_lt σ) (a_ld σ) _ _ ls (by omega) (by omega) g_lf g_lt (fun j _ => ⟨rfl, rfl, rfl⟩) rfl (Nat.lt_succ_self _) hP hD hS (lv_sub hl [2, 3, 1, 0] rfl)

