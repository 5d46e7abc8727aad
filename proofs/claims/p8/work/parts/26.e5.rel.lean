/-! delete, see, record -/
theorem del_mem {q f g S F G : Nat → Nat} {d E : Nat → Int64} {n k h : Nat} (hl : lst4 S F G E k = (lst4 q f g d n).filter (keep4 h)) : (∀ i, i < k → ∃ j, j < n ∧ S i = q j ∧ F i = f j ∧ G i = g j ∧ f j ≠ h ∧ g j ≠ h) ∧ ∀ j, j < n → f j ≠ h → g j ≠ h → ∃ i, i < k ∧ S i = q j ∧ F i = f j ∧ G i = g j := by
  constructor
  · intro i hi
    have h1 : (S i, F i, G i, E i) ∈ (lst4 q f g d n).filter (keep4 h) := by rw [← hl]; exact lst4_mem.mpr ⟨i, hi, rfl⟩
    rw [List.mem_filter, lst4_mem] at h1
    obtain ⟨⟨j, h2, h3⟩, h4⟩ := h1
    have e1 : S i = q j := congrArg (fun e => e.1) h3
    have e2 : F i = f j := congrArg (fun e => e.2.1) h3
    have e3 : G i = g j := congrArg (fun e => e.2.2.1) h3
    rw [h3] at h4
    simp only [keep4, Bool.and_eq_true, decide_eq_true_eq] at h4
    exact ⟨j, h2, e1, e2, e3, h4.1, h4.2⟩
  · intro j hj h1 h2
    have h3 : (q j, f j, g j, d j) ∈ lst4 S F G E k := by
      rw [hl, List.mem_filter, lst4_mem]
      exact ⟨⟨j, hj, rfl⟩, by simp [keep4, h1, h2]⟩
    obtain ⟨i, hi, e⟩ := lst4_mem.mp h3
    exact ⟨i, hi, (congrArg (fun e => e.1) e).symm, (congrArg (fun e => e.2.1) e).symm, (congrArg (fun e => e.2.2.1) e).symm⟩
theorem clr_bit {tg : Nat → Int64} {h q f g : Nat} (hg : g < 64) (hh : h < 64) : bt6 (clrT tg h q f) g = true ↔ (f ≠ h ∧ g ≠ h ∧ bt6 (tg (q * 61 + f)) g = true) := by
  unfold clrT
  by_cases e : f = h
  · rw [if_pos e, b6_0]
    constructor
    · intro z; cases z
    · intro z; exact absurd e z.1
  · rw [if_neg e, b6_and, b6_not hg, b6_sg hh, Bool.and_eq_true]
    constructor
    · rintro ⟨z1, z2⟩
      refine ⟨e, fun z => ?_, z1⟩
      rw [decide_eq_true z] at z2
      cases z2
    · rintro ⟨_, z1, z2⟩
      exact ⟨z2, by rw [decide_eq_false z1]; rfl⟩
theorem tie_delete0 {cl : Nat} {σ σ2 : SA} {μ μ2 : SM} {x rA rM : Int32} (hI : INV cl σ μ) (qA : pA_delete σ x rA σ2) (qM : pM_delete μ x rM μ2) : INV (cl + 1) σ2 μ2 ∧ rA = rM := by
  have hI0 := hI
  obtain ⟨h1, h2, hGA, hGM, hGL, hVE, hVS, hAC, hT, hH, hR, hW, hK⟩ := hI
  obtain ⟨e1, e2, e3, e4, e5⟩ := id hH
  have hhn : a_hn σ ≤ 60 := hGA.2.2.2.2.2.2.2.2.1
  rcases qA with ⟨a1, rfl, rfl⟩ | ⟨j, j1, j2, j3, rfl, qA⟩
  · rcases qM with ⟨_, rfl, rfl⟩ | ⟨i, i1, i2, i3, i4, _⟩
    · exact ⟨inv_skip hI0, rfl⟩
    · exact absurd ⟨i, i1, by omega, by rw [e3]; exact i3, i4⟩ a1
  · rcases qM with ⟨b1, _⟩ | ⟨i, i1, i2, i3, i4, qM⟩
    · exact absurd ⟨j, j1, by omega, by rw [← e3]; exact j3, rfl⟩ b1
    · have h9 := nIu i4 (by omega) (by omega)
      subst h9
      have ec : cntN (a_rh σ) j (a_rn σ) = cntN (m_lk μ) j (m_rn μ) := by rw [hR.1, hR.2.1]
      rw [ec] at qA
      rcases qA with ⟨c1, rfl, rfl⟩ | ⟨c1, rfl, T, F, G, E, k, rfl, k1, k2, k3, k4, k5⟩
      · rcases qM with ⟨_, rfl, rfl⟩ | ⟨d1, _⟩
        · exact ⟨inv_skip hI0, rfl⟩
        · omega
      · rcases qM with ⟨d1, _⟩ | ⟨_, rfl, S', F', G', E', k', rfl, m1, m2, m3, m4⟩
        · omega
        · refine ⟨?_, rfl⟩
          obtain ⟨dm1, dm2⟩ := del_mem m4
          have hwk : ∀ n x h, WLK (mu_ld (mu_lt (mu_lf (mu_ls (mu_ln (mu_lv μ (updN (m_lv μ) j 0)) k') S') F') G') E') 3 0 x n h → WLK μ 3 0 x n h := by
            intro n
            induction n with
            | zero => intro x h w; exact w
            | succ n ih =>
              intro x h w
              obtain ⟨i, a1, a2, a3, a4⟩ := w
              obtain ⟨i', b1, b2, b3, b4, _⟩ := dm1 i a1
              have a2 : S' i = 3 := a2
              have a3 : G' i = h := a3
              have a4 : WLK μ 3 0 x n (F' i) := ih _ _ a4
              rw [b3] at a4
              exact ⟨i', b1, by rw [← b2]; exact a2, by show m_lt μ i' = h; rw [← b4]; exact a3, a4⟩
          refine ⟨Nat.le_succ_of_le (Nat.le_trans k1 h1), Nat.le_succ_of_le (Nat.le_trans m1 h2), GA_lc (GA_ld (GA_lt (GA_lf (GA_tg (GA_lv hGA (updN_lt hGA.2.2.2.2.2.1 (by decide)))) k2) k3)) (Nat.le_trans k1 hGA.2.2.2.2.2.2.2.2.2.2.2.1), GM_ld (GM_lt (GM_lf (GM_ls (GM_ln (GM_lv hGM (updN_lt hGM.2.2.2.2.1 (by decide))) (Nat.le_trans m1 hGM.2.2.2.2.2.2.2.1))) m2) m3), ?_, ?_, ?_, fun n h w => hAC n h (hwk _ _ _ w), hT, ⟨e1, e2, ?_, e4, e5⟩, hR, hW, ?_, ?_⟩
          · intro i hi
            obtain ⟨i', b1, b2, _⟩ := dm1 i hi
            show S' i < 4
            rw [b2]; exact hGL i' b1
          · intro i hi
            obtain ⟨i', b1, b2, b3, b4, b5, b6⟩ := dm1 i hi
            obtain ⟨⟨c1, c2, c3⟩, d1, d2, d3⟩ := hVE i' b1
            show (1 ≤ F' i ∧ F' i ≤ m_hn μ ∧ updN (m_lv μ) j 0 (F' i) = 1) ∧ (1 ≤ G' i ∧ G' i ≤ m_hn μ ∧ updN (m_lv μ) j 0 (G' i) = 1)
            rw [b3, b4, updN_n b5, updN_n b6]
            exact ⟨⟨c1, c2, c3⟩, d1, d2, d3⟩
          · intro i i2 hi hi2 f1 f2 f3
            obtain ⟨i', b1, b2, b3, b4, _⟩ := dm1 i hi
            obtain ⟨i2', c1, c2, c3, c4, _⟩ := dm1 i2 hi2
            have f1 : S' i = 0 := f1
            have f2 : S' i2 = 0 := f2
            have f3 : F' i = F' i2 := f3
            show G' i = G' i2
            rw [b4, c4]
            exact hVS i' i2' b1 c1 (by rw [← b2]; exact f1) (by rw [← c2]; exact f2) (by rw [← b3, ← c3]; exact f3)
          · show updN (a_lv σ) j 0 = updN (m_lv μ) j 0
            rw [e3]
          · intro q f g a1 a2 a3 a4
            show bt6 (T (q * 61 + f)) g = true ↔ _
            rw [k5 q f a1 a2 a3, clr_bit a4 (by omega), hK.1 q f g a1 a2 a3 a4]
            constructor
            · rintro ⟨z1, z2, i', b1, b2, b3, b4⟩
              obtain ⟨i, c1, c2, c3, c4⟩ := dm2 i' b1 (by rw [b3]; exact z1) (by rw [b4]; exact z2)
              exact ⟨i, c1, by show S' i = q; rw [c2, b2], by show F' i = f; rw [c3, b3], by show G' i = g; rw [c4, b4]⟩
            · rintro ⟨i, b1, b2, b3, b4⟩
              have b2 : S' i = q := b2
              have b3 : F' i = f := b3
              have b4 : G' i = g := b4
              obtain ⟨i', c1, c2, c3, c4, c5, c6⟩ := dm1 i b1
              exact ⟨by rw [← b3, c3]; exact c5, by rw [← b4, c4]; exact c6, i', c1, by rw [← c2, b2], by rw [← c3, b3], by rw [← c4, b4]⟩
          · show lst F G E k = ((lst4 S' F' G' E' k').filter is3).map (fun q => q.2)
            rw [k4, hK.2, m4]
            unfold l3
            rw [List.filter_map, List.filter_filter, List.filter_filter]
            congr 1
            apply List.filter_congr
            intro e _
            simp only [Function.comp, keepL, keep4]
            exact Bool.and_comm _ _
theorem cntP_congr {P P' : Nat → Bool} : ∀ {n : Nat}, (∀ g, 1 ≤ g → g ≤ n → P g = P' g) → cntP P n = cntP P' n := by
  intro n
  induction n with
  | zero => intro _; rfl
  | succ n ih =>
    intro h
    simp only [cntP]
    rw [ih (fun g h1 h2 => h g h1 (by omega)), h (n + 1) (by omega) (by omega)]
theorem cntP_stop {P : Nat → Bool} {n : Nat} : ∀ {m : Nat}, n ≤ m → (∀ g, n < g → g ≤ m → ¬ P g = true) → cntP P m = cntP P n := by
  intro m hm
  induction hm with
  | refl => intro _; rfl
  | step hm ih =>
    intro h
    rename_i m
    rw [cntP_s0 (h (m + 1) (by have : n ≤ m := hm; omega) (Nat.le_refl _)), ih (fun g h1 h2 => h g h1 (by omega))]
theorem cntP_up {P : Nat → Bool} : ∀ {n m : Nat}, n ≤ m → cntP P n ≤ cntP P m := by
  intro n m h
  induction h with
  | refl => exact Nat.le_refl _
  | step _ ih => simp only [cntP]; split <;> omega
theorem NTH_u0 {P : Nat → Bool} {n i : Nat} {r r' : Int32} (h : NTH P n i r) (h' : NTH P n i r') : r = r' := by
  rcases h with ⟨a, a1, a2, a3, rfl⟩ | ⟨a1, rfl⟩
  · rcases h' with ⟨b, b1, b2, b3, rfl⟩ | ⟨b1, rfl⟩
    · rcases Nat.lt_trichotomy a b with h | h | h
      · have h2 : cntP P (a + 1) ≤ cntP P b := cntP_up h
        rw [cntP_s1 a2] at h2
        omega
      · rw [h]
      · have h2 : cntP P (b + 1) ≤ cntP P a := cntP_up h
        rw [cntP_s1 b2] at h2
        omega
    · have h2 : cntP P (a + 1) ≤ cntP P n := cntP_up a1
      rw [cntP_s1 a2] at h2
      omega
  · rcases h' with ⟨b, b1, b2, b3, rfl⟩ | ⟨b1, rfl⟩
    · have h2 : cntP P (b + 1) ≤ cntP P n := cntP_up b1
      rw [cntP_s1 b2] at h2
      omega
    · rfl
theorem NTH_cut {P P' : Nat → Bool} {n i : Nat} {r : Int32} (h : NTH P 60 i r) (hn : n ≤ 60) (e : ∀ g, 1 ≤ g → g ≤ n → P g = P' g) (e2 : ∀ g, n < g → g ≤ 60 → ¬ P g = true) : NTH P' n i r := by
  rcases h with ⟨a, a1, a2, a3, rfl⟩ | ⟨a1, rfl⟩
  · have ha : a < n := by
      rcases Nat.lt_or_ge a n with h | h
      · exact h
      · exact absurd a2 (e2 (a + 1) (by omega) (by omega))
    refine Or.inl ⟨a, ha, by rw [← e (a + 1) (by omega) (by omega)]; exact a2, ?_, rfl⟩
    rw [← a3]
    exact (cntP_congr (fun g h1 h2 => e g h1 (by omega))).symm
  · refine Or.inr ⟨?_, rfl⟩
    rw [cntP_stop hn e2] at a1
    rw [← cntP_congr e]
    exact a1
theorem hasm_edg {μ : SM} {q f g : Nat} (hf : 1 ≤ f) (hg : 1 ≤ g) : HASM μ q f g ↔ EDG μ q f g := by
  constructor
  · rintro ⟨i, h1, h2, h3, h4⟩
    exact ⟨i, h1, h2, by omega, by omega⟩
  · rintro ⟨i, h1, h2, h3, h4⟩
    exact ⟨i, h1, h2, Or.inr h3, Or.inr h4⟩
theorem tie_see0 {cl : Nat} {σ : SA} {μ μ2 : SM} {x y rA rM : Int32} (hI : INV cl σ μ) (qA : pA_see σ x y rA) (qM : pM_see μ x y rM μ2) : INV (cl + 1) σ μ2 ∧ rA = rM := by
  obtain ⟨rfl, qM⟩ := qM
  refine ⟨inv_skip hI, ?_⟩
  obtain ⟨h1, h2, hGA, hGM, hGL, hVE, hVS, hAC, hT, hH, hR, hW, hK⟩ := hI
  obtain ⟨e1, e2, e3, e4, e5⟩ := hH
  have hhn : a_hn σ ≤ 60 := hGA.2.2.2.2.2.2.2.2.1
  rcases qA with ⟨a1, rfl⟩ | ⟨j, i, j1, j2, j3, rfl, i1, rfl, sv, s1, s2⟩
  · rcases qM with ⟨_, rfl⟩ | ⟨j, i, j1, j2, j3, j4, i1, i2, _⟩
    · rfl
    · exact absurd ⟨j, i, j1, by omega, by rw [e3]; exact j3, j4, i1, i2⟩ a1
  · rcases qM with ⟨b1, _⟩ | ⟨j', i', b1, b2, b3, b4, c1, c2, b5⟩
    · exact absurd ⟨j, i, j1, by omega, by rw [← e3]; exact j3, rfl, i1, rfl⟩ b1
    · have f1 := nIu b4 (by omega) (by omega)
      have f2 := nIu c2 i1 c1
      subst f1
      subst f2
      have key : ∀ g, 1 ≤ g → g ≤ 60 → (bt6 sv g = true ↔ EDG μ2 0 g j) := fun g g1 g2 => by
        rw [s1 g, ← hK.1 0 g j (by decide) g1 g2 (by omega)]
        constructor
        · rintro ⟨h, q1, rfl, q3⟩
          rw [b6_hold (by omega)] at q3
          cases hz : bt6 (a_tg σ (0 * 61 + (h + 1))) j
          · exact absurd hz q3
          · rfl
        · intro q1
          exact ⟨g - 1, by omega, by omega, by rw [show g - 1 + 1 = g by omega, b6_hold (by omega), q1]; decide⟩
      refine NTH_u0 (NTH_cut s2 (n := m_hn μ2) (by omega) (fun g g1 g2 => ?_) (fun g g1 g2 q1 => ?_)) b5
      · have q1 := key g g1 (by omega)
        rw [← hasm_edg g1 j1] at q1
        show bt6 sv g = hasB μ2 0 g j
        cases hz : hasB μ2 0 g j
        · cases hy : bt6 sv g
          · rfl
          · rw [hasB_t (q1.mp hy)] at hz; cases hz
        · cases hy : bt6 sv g
          · exact absurd hz (hasB_f (fun z => by rw [q1.mpr z] at hy; cases hy))
          · rfl
      · obtain ⟨k, k1, k2, k3, k4⟩ := (key g (by omega) g2).mp q1
        have := (hVE k k1).1.2.1
        omega
