/-! a link more -/
theorem WLK_cat {μ : SM} {q ag x y : Nat} {n : Nat} (w1 : WLK μ q ag x n y) : ∀ {m z : Nat}, WLK μ q ag y m z → WLK μ q ag x (n + m) z := by
  intro m
  induction m with
  | zero => intro z w; rw [show z = y from w]; exact w1
  | succ m ih =>
    intro z w
    obtain ⟨i, h1, h2, h3, h4⟩ := w
    exact ⟨i, h1, h2, h3, ih h4⟩
theorem adm_old {μ : SM} {q i j k : Nat} {d : Int64} (hk : k < m_ln μ) : m_ls (ADM μ q i j d) k = m_ls μ k ∧ m_lf (ADM μ q i j d) k = m_lf μ k ∧ m_lt (ADM μ q i j d) k = m_lt μ k ∧ m_ld (ADM μ q i j d) k = m_ld μ k :=
  ⟨updN_n (by omega), updN_n (by omega), updN_n (by omega), updL_n (by omega)⟩
theorem adm_new {μ : SM} {q i j : Nat} {d : Int64} : m_ls (ADM μ q i j d) (m_ln μ) = q ∧ m_lf (ADM μ q i j d) (m_ln μ) = i ∧ m_lt (ADM μ q i j d) (m_ln μ) = j ∧ m_ld (ADM μ q i j d) (m_ln μ) = d :=
  ⟨updN_s, updN_s, updN_s, updL_s⟩
theorem adm_n {μ : SM} {q i j : Nat} {d : Int64} : m_ln (ADM μ q i j d) = m_ln μ + 1 := rfl
theorem adm_ways {μ : SM} {q i j x : Nat} {d : Int64} : ∀ {n h : Nat}, WLK (ADM μ q i j d) 3 0 x n h → WLK μ 3 0 x n h ∨ (q = 3 ∧ (∃ n, WLK μ 3 0 x n i) ∧ ∃ n, WLK μ 3 0 j n h) := by
  intro n
  induction n with
  | zero => intro h w; exact Or.inl w
  | succ n ih =>
    intro h w
    obtain ⟨k, a1, a2, a3, a4⟩ := w
    rcases Nat.lt_succ_iff_lt_or_eq.mp (show k < m_ln μ + 1 from a1) with hk | hk
    · obtain ⟨o1, o2, o3, _⟩ := adm_old (q := q) (i := i) (j := j) (d := d) hk
      have a3 : m_lt (ADM μ q i j d) k = h := a3
      have a4 : WLK (ADM μ q i j d) 3 0 x n (m_lf (ADM μ q i j d) k) := a4
      rw [o1] at a2
      rw [o3] at a3
      rw [o2] at a4
      rcases ih a4 with b | ⟨b1, b2, m, b3⟩
      · exact Or.inl ⟨k, hk, a2, a3, b⟩
      · exact Or.inr ⟨b1, b2, m + 1, k, hk, a2, a3, b3⟩
    · subst hk
      obtain ⟨o1, o2, o3, _⟩ := adm_new (μ := μ) (q := q) (i := i) (j := j) (d := d)
      have a3 : m_lt (ADM μ q i j d) (m_ln μ) = h := a3
      have a4 : WLK (ADM μ q i j d) 3 0 x n (m_lf (ADM μ q i j d) (m_ln μ)) := a4
      rw [o1] at a2
      rw [o3] at a3
      rw [o2] at a4
      refine Or.inr ⟨a2, ?_, 0, a3.symm⟩
      rcases ih a4 with b | ⟨_, b2, _⟩
      · exact ⟨n, b⟩
      · exact b2
theorem adm_acy {μ : SM} {q i j : Nat} {d : Int64} (hA : ACY μ) (h3 : q = 3 → ∀ n, ¬ WLK μ 3 0 j n i) : ACY (ADM μ q i j d) := fun n h w => by
  rcases adm_ways w with b | ⟨b1, ⟨n1, b2⟩, n2, b3⟩
  · exact hA n h b
  · exact h3 b1 _ (WLK_cat b3 b2)
theorem adm_edg {μ : SM} {q i j q' f' g' : Nat} {d : Int64} : EDG (ADM μ q i j d) q' f' g' ↔ (EDG μ q' f' g' ∨ (q' = q ∧ f' = i ∧ g' = j)) := by
  constructor
  · rintro ⟨k, a1, a2, a3, a4⟩
    rcases Nat.lt_succ_iff_lt_or_eq.mp (show k < m_ln μ + 1 from a1) with hk | hk
    · obtain ⟨o1, o2, o3, _⟩ := adm_old (q := q) (i := i) (j := j) (d := d) hk
      exact Or.inl ⟨k, hk, by rw [← o1]; exact a2, by rw [← o2]; exact a3, by rw [← o3]; exact a4⟩
    · subst hk
      obtain ⟨o1, o2, o3, _⟩ := adm_new (μ := μ) (q := q) (i := i) (j := j) (d := d)
      exact Or.inr ⟨by rw [← a2, o1], by rw [← a3, o2], by rw [← a4, o3]⟩
  · rintro (⟨k, a1, a2, a3, a4⟩ | ⟨rfl, rfl, rfl⟩)
    · obtain ⟨o1, o2, o3, _⟩ := adm_old (q := q) (i := i) (j := j) (d := d) a1
      exact ⟨k, Nat.lt_succ_of_lt a1, by rw [o1]; exact a2, by rw [o2]; exact a3, by rw [o3]; exact a4⟩
    · exact ⟨m_ln μ, Nat.lt_succ_self _, adm_new.1, adm_new.2.1, adm_new.2.2.1⟩
theorem adm_l3 {μ : SM} {q i j : Nat} {d : Int64} : l3 (ADM μ q i j d) = if q = 3 then l3 μ ++ [(i, j, d)] else l3 μ := by
  have e : lst4 (m_ls (ADM μ q i j d)) (m_lf (ADM μ q i j d)) (m_lt (ADM μ q i j d)) (m_ld (ADM μ q i j d)) (m_ln μ + 1) = lst4 (m_ls μ) (m_lf μ) (m_lt μ) (m_ld μ) (m_ln μ) ++ [(q, i, j, d)] := by
    simp only [lst4]
    rw [adm_new.1, adm_new.2.1, adm_new.2.2.1, adm_new.2.2.2]
    congr 1
    exact lst4_congr (fun k hk => adm_old hk)
  unfold l3
  rw [adm_n, e]
  by_cases h : q = 3
  · rw [if_pos h]; simp [is3, h]
  · rw [if_neg h]; simp [is3, h]
theorem adk_tg {σ : SA} {q f h : Nat} {d : Int64} : a_tg (ADK σ q f h d) = vp_updL (a_tg σ) (q * 61 + f) (a_tg σ (q * 61 + f) ||| sg h) := by
  unfold ADK
  split <;> rfl
theorem inv_add {cl : Nat} {σ : SA} {μ : SM} {q i j : Nat} {d : Int64} (hI : INV cl σ μ) (hc : cl < 512) (hq : q < 4) (hi : 1 ≤ i ∧ i ≤ m_hn μ ∧ m_lv μ i = 1) (hj : 1 ≤ j ∧ j ≤ m_hn μ ∧ m_lv μ j = 1) (h0 : q = 0 → ∀ k, k < m_ln μ → m_ls μ k = 0 → m_lf μ k ≠ i) (h3 : q = 3 → ∀ n, ¬ WLK μ 3 0 j n i) : INV (cl + 1) (ADK σ q i j d) (ADM μ q i j d) := by
  obtain ⟨h1, h2, hGA, hGM, hGL, hVE, hVS, hAC, hT, hH, hR, hW, hK⟩ := hI
  have hhn : m_hn μ ≤ 60 := hGM.2.2.1
  have hlf := hGA.2.2.2.2.2.2.2.2.2.1
  have hlt := hGA.2.2.2.2.2.2.2.2.2.2.1
  have mlf := hGM.2.2.2.2.2.2.2.2.1
  have mlt := hGM.2.2.2.2.2.2.2.2.2.1
  refine ⟨?_, Nat.succ_le_succ h2, ?_, ?_, ?_, ?_, ?_, adm_acy hAC h3, ?_, ?_, ?_, ?_, ?_, ?_⟩
  · unfold ADK; split
    · exact Nat.succ_le_succ h1
    · exact Nat.le_succ_of_le h1
  · unfold ADK; split
    · exact GA_lc (GA_ld (GA_lt (GA_lf (GA_tg hGA) (updN_le hlf (by omega))) (updN_le hlt (by omega)))) (by omega)
    · exact GA_tg hGA
  · exact GM_ld (GM_lt (GM_lf (GM_ls (GM_ln hGM (by omega))) (updN_le mlf (by omega))) (updN_le mlt (by omega)))
  · intro k hk
    rcases Nat.lt_succ_iff_lt_or_eq.mp (show k < m_ln μ + 1 from hk) with hk | hk
    · rw [(adm_old hk).1]; exact hGL k hk
    · rw [hk, adm_new.1]; exact hq
  · intro k hk
    rcases Nat.lt_succ_iff_lt_or_eq.mp (show k < m_ln μ + 1 from hk) with hk | hk
    · rw [(adm_old hk).2.1, (adm_old hk).2.2.1]; exact hVE k hk
    · rw [hk, adm_new.2.1, adm_new.2.2.1]; exact ⟨hi, hj⟩
  · intro k k' hk hk' e1 e2 e3
    rcases Nat.lt_succ_iff_lt_or_eq.mp (show k < m_ln μ + 1 from hk) with hk | hk
    · rcases Nat.lt_succ_iff_lt_or_eq.mp (show k' < m_ln μ + 1 from hk') with hk' | hk'
      · rw [(adm_old hk).2.2.1, (adm_old hk').2.2.1]
        rw [(adm_old hk).1] at e1
        rw [(adm_old hk').1] at e2
        rw [(adm_old hk).2.1, (adm_old hk').2.1] at e3
        exact hVS k k' hk hk' e1 e2 e3
      · rw [(adm_old hk).1] at e1
        rw [hk', adm_new.1] at e2
        rw [hk', (adm_old hk).2.1, adm_new.2.1] at e3
        exact absurd e3 (h0 e2 k hk e1)
    · rcases Nat.lt_succ_iff_lt_or_eq.mp (show k' < m_ln μ + 1 from hk') with hk' | hk'
      · rw [(adm_old hk').1] at e2
        rw [hk, adm_new.1] at e1
        rw [hk, (adm_old hk').2.1, adm_new.2.1] at e3
        exact absurd e3.symm (h0 e1 k' hk' e2)
      · rw [hk, hk']
  · unfold ADK; split <;> exact hT
  · unfold ADK; split <;> exact hH
  · unfold ADK; split <;> exact hR
  · unfold ADK; split <;> exact hW
  · intro q' f' g' a1 a2 a3 a4
    rw [adk_tg, adm_edg]
    by_cases e : q' = q ∧ f' = i
    · obtain ⟨rfl, rfl⟩ := e
      rw [updL_s, b6_or, b6_sg (by omega), Bool.or_eq_true, decide_eq_true_eq, hK.1 q' f' g' a1 a2 a3 a4]
      constructor
      · rintro (b | b)
        · exact Or.inl b
        · exact Or.inr ⟨rfl, rfl, b⟩
      · rintro (b | b)
        · exact Or.inl b
        · exact Or.inr b.2.2
    · rw [updL_n (by omega), hK.1 q' f' g' a1 a2 a3 a4]
      constructor
      · exact Or.inl
      · rintro (b | b)
        · exact b
        · exact absurd ⟨b.1, b.2.1⟩ e
  · rw [adm_l3]
    unfold ADK
    by_cases e : q = 3
    · rw [if_pos e, if_pos e]
      show lst (updN (a_lf σ) (a_lc σ) i) (updN (a_lt σ) (a_lc σ) j) (vp_updL (a_ld σ) (a_lc σ) d) (a_lc σ + 1) = _
      simp only [lst]
      rw [updN_s, updN_s, updL_s, ← hK.2]
      congr 1
      exact lst_congr (fun k hk => ⟨updN_n (by omega), updN_n (by omega), updL_n (by omega)⟩)
    · rw [if_neg e, if_neg e]
      exact hK.2
