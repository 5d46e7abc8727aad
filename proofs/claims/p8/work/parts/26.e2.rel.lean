theorem tkm_w {μ : SM} {q ag x n h : Nat} : WLK (TKM μ) q ag x n h ↔ WLK μ q ag x n h := ⟨wlk_eq (μ := TKM μ) (ν := μ) rfl rfl rfl rfl, wlk_eq (μ := μ) (ν := TKM μ) rfl rfl rfl rfl⟩
/-! calls that want a text -/
theorem ok_iff {σ : SA} {μ : SM} (h : RT σ μ) : okT (a_sg σ) (a_sn σ) ↔ okT (m_sd μ) (m_sz μ) := by rw [h.1, h.2]
theorem inv_tk {cl : Nat} {σ τ : SA} {μ : SM} (hI : INV cl σ μ) (hT : TKN σ τ) : INV (cl + 1) τ (TKM μ) := by
  obtain ⟨h1, h2, hGA, hGM, hGL, hVE, hVS, hAC, hT0, hH, hR, hW, hK⟩ := hI
  obtain ⟨f, n, rfl, hG, _⟩ := hT
  exact ⟨Nat.le_succ_of_le h1, Nat.le_succ_of_le h2, hG, TKM_G hGM, hGL, hVE, hVS, acy_eq (μ := μ) rfl rfl rfl rfl hAC, ⟨rfl, hT0.2⟩, hH, hR, hW, hK⟩
theorem same_iff {cl : Nat} {σ τ : SA} {μ : SM} (hI : INV cl σ μ) (hT : TKN σ τ) (hok : okT (a_sg σ) (a_sn σ)) (h : Nat) : a_same τ h ↔ m_same (TKM μ) h := by
  obtain ⟨h1, h2, hGA, hGM, hGL, hVE, hVS, hAC, hT0, hH, hR, hW, hK⟩ := hI
  obtain ⟨f, n, rfl, hG, hf⟩ := hT
  obtain ⟨e1, e2, e3, e4, e5⟩ := hH
  obtain ⟨rfl, hf⟩ := hf hok
  show (a_ln σ h = a_sn σ ∧ ∀ i, i < a_sn σ → smN (a_le σ (h * 20 + i)) = smN (f i)) ↔ (m_zs μ h = m_sz μ ∧ ∀ i, i < m_sz μ → smN (m_tx μ (20 * h + i)) = smN (m_sd μ i))
  rw [e5, e4, ← hT0.1, ← hT0.2, Nat.mul_comm h 20]
  constructor
  · rintro ⟨a1, a2⟩
    exact ⟨a1, fun i hi => by rw [a2 i hi, hf i hi]⟩
  · rintro ⟨a1, a2⟩
    exact ⟨a1, fun i hi => by rw [a2 i hi, hf i hi]⟩
theorem cpT_congr {f g g' : Nat → Nat} {b n : Nat} (h : ∀ k, k < n → g k = g' k) : cpT f b g n = cpT f b g' n := by
  funext j
  unfold cpT
  by_cases e : b ≤ j ∧ j < b + n
  · rw [if_pos e, if_pos e]; exact h _ (by omega)
  · rw [if_neg e, if_neg e]
theorem tie_find0 {cl : Nat} {σ σ2 : SA} {μ μ2 : SM} {rA rM : Int32} (hI : INV cl σ μ) (qA : pA_find σ rA σ2) (qM : pM_find μ rM μ2) : INV (cl + 1) σ2 μ2 ∧ rA = rM := by
  obtain ⟨hT, qA⟩ := qA
  obtain ⟨rfl, qM⟩ := qM
  have hI2 := inv_tk hI hT
  refine ⟨hI2, ?_⟩
  have hRT := hI.2.2.2.2.2.2.2.2.1
  rcases qA with ⟨a1, rfl⟩ | ⟨a1, a2⟩
  · rcases qM with ⟨b1, rfl⟩ | ⟨b1, b2⟩
    · rfl
    · exact absurd ((ok_iff hRT).mpr b1) a1
  · rcases qM with ⟨b1, rfl⟩ | ⟨b1, b2⟩
    · exact absurd ((ok_iff hRT).mp a1) b1
    · have hH := hI2.2.2.2.2.2.2.2.2.2.1
      rw [hH.1] at a2
      refine FST_u a2 b2 (fun i h1 _ => ?_)
      rw [same_iff hI hT a1 i, hH.2.2.1]
      constructor
      · rintro ⟨c1, c2⟩; exact ⟨by omega, c1, c2⟩
      · rintro ⟨_, c1, c2⟩; exact ⟨c1, c2⟩
/-- a heading's text is another -/
theorem inv_text {cl : Nat} {σ τ : SA} {μ : SM} (hI : INV cl σ μ) (hT : TKN σ τ) (hok : okT (a_sg σ) (a_sn σ)) (j : Nat) : INV (cl + 1) (au_ln (au_le τ (cpT (a_le τ) (j * 20) (a_tx τ) (a_tn τ))) (updN (a_ln τ) j (a_tn τ))) (mu_zs (mu_tx (TKM μ) (cpT (m_tx μ) (20 * j) (m_sd μ) (m_sz μ))) (updN (m_zs μ) j (m_sz μ))) := by
  have hI2 := inv_tk hI hT
  have hRT := hI.2.2.2.2.2.2.2.2.1
  obtain ⟨h1, h2, hGA, hGM, hGL, hVE, hVS, hAC, hT0, hH, hR, hW, hK⟩ := hI2
  obtain ⟨f, n, rfl, hG, hf⟩ := hT
  obtain ⟨rfl, hf⟩ := hf hok
  obtain ⟨e1, e2, e3, e4, e5⟩ := hH
  have hokM := (ok_iff hRT).mp hok
  refine ⟨h1, h2, GA_ln (GA_le hGA (cpT_lt hGA.2.2.2.2.2.2.1 hGA.2.2.2.1)) (updN_le hGA.2.2.2.2.2.2.2.1 hGA.2.2.1), GM_zs (GM_tx hGM (cpT_lt2 hGM.2.2.2.2.2.1 (ok_q hokM))) (updN_le hGM.2.2.2.2.2.2.1 hokM.2.1), hGL, hVE, hVS, acy_eq (μ := TKM μ) rfl rfl rfl rfl hAC, hT0, ⟨e1, e2, e3, ?_, ?_⟩, hR, hW, hK⟩
  · show cpT (a_le σ) (j * 20) f (a_sn σ) = cpT (m_tx μ) (20 * j) (m_sd μ) (m_sz μ)
    rw [show a_le σ = m_tx μ from e4, Nat.mul_comm j 20, hRT.1]
    exact cpT_congr (fun k hk => by rw [hf k (by rw [hRT.1]; exact hk), hRT.2])
  · show updN (a_ln σ) j (a_sn σ) = updN (m_zs μ) j (m_sz μ)
    rw [show a_ln σ = m_zs μ from e5, hRT.1]
theorem tie_rename0 {cl : Nat} {σ σ2 : SA} {μ μ2 : SM} {x rA rM : Int32} (hI : INV cl σ μ) (qA : pA_rename σ x rA σ2) (qM : pM_rename μ x rM μ2) : INV (cl + 1) σ2 μ2 ∧ rA = rM := by
  obtain ⟨τ, hT, qA⟩ := qA
  have hI2 := inv_tk hI hT
  have hRT := hI.2.2.2.2.2.2.2.2.1
  have hH := hI2.2.2.2.2.2.2.2.2.2.1
  have hR := hI2.2.2.2.2.2.2.2.2.2.2.1
  have hhn : a_hn τ ≤ 60 := hI2.2.2.1.2.2.2.2.2.2.2.2.1
  obtain ⟨e1, e2, e3, e4, e5⟩ := hH
  rcases qA with ⟨a1, rfl, rfl⟩ | ⟨a1, qA⟩
  · rcases qM with ⟨b1, rfl, rfl⟩ | ⟨b1, _⟩
    · exact ⟨hI2, rfl⟩
    · exact absurd ((ok_iff hRT).mpr b1) a1
  · rcases qM with ⟨b1, _⟩ | ⟨b1, qM⟩
    · exact absurd ((ok_iff hRT).mp a1) b1
    · rcases qA with ⟨c1, rfl, rfl⟩ | ⟨j, j1, j2, j3, rfl, qA⟩
      · rcases qM with ⟨d1, rfl, rfl⟩ | ⟨i, i1, i2, i3, rfl, _⟩
        · exact ⟨hI2, rfl⟩
        · exact absurd ⟨i, i1, by omega, by rw [e3]; exact i3, rfl⟩ c1
      · rcases qM with ⟨d1, _⟩ | ⟨i, i1, i2, i3, hij, qM⟩
        · exact absurd ⟨j, j1, by omega, by rw [← e3]; exact j3, rfl⟩ d1
        · have hij := nIu hij (by omega) (by omega)
          subst hij
          have key : ∀ i, 1 ≤ i → i ≤ m_hn (TKM μ) → ((i ≠ j ∧ a_lv τ i = 1 ∧ a_kd τ i = a_kd τ j ∧ a_same τ i) ↔ (i ≠ j ∧ m_lv (TKM μ) i = 1 ∧ m_kd (TKM μ) i = m_kd (TKM μ) j ∧ m_same (TKM μ) i)) := fun i _ _ => by rw [same_iff hI hT a1 i, e3, e2]
          rw [e1] at qA
          rcases qA with ⟨k, k1, k2, rfl, k4, rfl⟩ | ⟨k1, rfl, rfl⟩
          · rcases qM with ⟨k', m1, m2, rfl, m4, rfl⟩ | ⟨m1, rfl, rfl⟩
            · exact ⟨hI2, by rw [FST_u k4 m4 key]⟩
            · exact absurd (nIu (FST_u k4 m1 key) (by omega) (by omega)) (by omega)
          · rcases qM with ⟨k', m1, m2, rfl, m4, rfl⟩ | ⟨m1, rfl, rfl⟩
            · exact absurd (nIu (FST_u k1 m4 key) (by omega) (by omega)) (by omega)
            · refine ⟨inv_text hI hT a1 j, ?_⟩
              rw [show a_rh τ = m_lk μ from hR.2.1, show a_rn τ = m_rn μ from hR.1]
