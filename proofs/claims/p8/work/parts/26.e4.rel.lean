/-! heading, split -/
theorem inv_tk0 {cl : Nat} {σ τ : SA} {μ : SM} (hI : INV cl σ μ) (hT : TKN σ τ) : INV cl τ (TKM μ) := by
  obtain ⟨h1, h2, hGA, hGM, hGL, hVE, hVS, hAC, hT0, hH, hR, hW, hK⟩ := hI
  obtain ⟨f, n, rfl, hG, _⟩ := hT
  exact ⟨h1, h2, hG, TKM_G hGM, hGL, hVE, hVS, acy_eq (μ := μ) rfl rfl rfl rfl hAC, ⟨rfl, hT0.2⟩, hH, hR, hW, hK⟩
def AHh (τ : SA) (kk : Nat) : SA := au_hn (au_ln (au_le (au_lv (au_kd τ (updN (a_kd τ) (a_hn τ + 1) kk)) (updN (a_lv τ) (a_hn τ + 1) 1)) (cpT (a_le τ) ((a_hn τ + 1) * 20) (a_tx τ) (a_tn τ))) (updN (a_ln τ) (a_hn τ + 1) (a_tn τ))) (a_hn τ + 1)
def MKk (ν : SM) (kk : Nat) : SM := mu_zs (mu_tx (mu_lv (mu_kd (mu_hn ν (m_hn ν + 1)) (updN (m_kd ν) (m_hn ν + 1) kk)) (updN (m_lv ν) (m_hn ν + 1) 1)) (cpT (m_tx ν) (20 * (m_hn ν + 1)) (m_sd ν) (m_co ν))) (updN (m_zs ν) (m_hn ν + 1) (m_co ν))
theorem inv_newh {cl : Nat} {σ τ : SA} {μ : SM} {kk : Nat} (hI : INV cl σ μ) (hT : TKN σ τ) (hok : okT (a_sg σ) (a_sn σ)) (hkk : kk < 4) (h60 : a_hn τ < 60) : INV cl (AHh τ kk) (MKk (TKM μ) kk) := by
  have hI2 := inv_tk0 hI hT
  have hRT := hI.2.2.2.2.2.2.2.2.1
  obtain ⟨h1, h2, hGA, hGM, hGL, hVE, hVS, hAC, hT0, hH, hR, hW, hK⟩ := hI2
  obtain ⟨f, n, rfl, hG, hf⟩ := hT
  obtain ⟨rfl, hf⟩ := hf hok
  obtain ⟨e1, e2, e3, e4, e5⟩ := hH
  have hokM := (ok_iff hRT).mp hok
  have e1 : a_hn σ = m_hn μ := e1
  have e2 : a_kd σ = m_kd μ := e2
  have e3 : a_lv σ = m_lv μ := e3
  have e4 : a_le σ = m_tx μ := e4
  have e5 : a_ln σ = m_zs μ := e5
  have h60 : a_hn σ < 60 := h60
  refine ⟨h1, h2, GA_hn (GA_ln (GA_le (GA_lv (GA_kd hGA (updN_lt hGA.2.2.2.2.1 hkk)) (updN_lt hGA.2.2.2.2.2.1 (by decide))) (cpT_lt hGA.2.2.2.2.2.2.1 hGA.2.2.2.1)) (updN_le hGA.2.2.2.2.2.2.2.1 hGA.2.2.1)) (by show a_hn σ + 1 ≤ 60; omega), GM_zs (GM_tx (GM_lv (GM_kd (GM_hn hGM (by show m_hn μ + 1 ≤ 60; omega)) (updN_lt hGM.2.2.2.1 hkk)) (updN_lt hGM.2.2.2.2.1 (by decide))) (cpT_lt2 hGM.2.2.2.2.2.1 (ok_q hokM))) (updN_le hGM.2.2.2.2.2.2.1 hokM.2.1), hGL, ?_, hVS, acy_eq (μ := TKM μ) rfl rfl rfl rfl hAC, hT0, ⟨?_, ?_, ?_, ?_, ?_⟩, hR, hW, hK⟩
  · intro i hi
    obtain ⟨⟨a1, a2, a3⟩, b1, b2, b3⟩ := hVE i hi
    have a2 : m_lf μ i ≤ m_hn μ := a2
    have b2 : m_lt μ i ≤ m_hn μ := b2
    refine ⟨⟨a1, by show m_lf μ i ≤ m_hn μ + 1; omega, ?_⟩, b1, by show m_lt μ i ≤ m_hn μ + 1; omega, ?_⟩
    · show updN (m_lv μ) (m_hn μ + 1) 1 (m_lf μ i) = 1
      rw [updN_n (by omega)]; exact a3
    · show updN (m_lv μ) (m_hn μ + 1) 1 (m_lt μ i) = 1
      rw [updN_n (by omega)]; exact b3
  · show a_hn σ + 1 = m_hn μ + 1
    rw [e1]
  · show updN (a_kd σ) (a_hn σ + 1) kk = updN (m_kd μ) (m_hn μ + 1) kk
    rw [e1, e2]
  · show updN (a_lv σ) (a_hn σ + 1) 1 = updN (m_lv μ) (m_hn μ + 1) 1
    rw [e1, e3]
  · show cpT (a_le σ) ((a_hn σ + 1) * 20) f (a_sn σ) = cpT (m_tx μ) (20 * (m_hn μ + 1)) (m_sd μ) (m_sz μ)
    rw [e4, e1, Nat.mul_comm (m_hn μ + 1) 20, hRT.1]
    exact cpT_congr (fun k hk => by rw [hf k (by rw [hRT.1]; exact hk), hRT.2])
  · show updN (a_ln σ) (a_hn σ + 1) (a_sn σ) = updN (m_zs μ) (m_hn μ + 1) (m_sz μ)
    rw [e5, e1, hRT.1]
/-- what the two say of a text that is to be a heading: alike, but where there are 60 -/
theorem adh_rel {cl : Nat} {σ τ u : SA} {μ u' : SM} {kk : Nat} {r r' : Int32} (hI : INV cl σ μ) (hT : TKN σ τ) (hok : okT (a_sg σ) (a_sn σ)) (hkk : kk < 4) (qA : ADH τ kk r u) (qM : MKH (TKM μ) kk r' u') : (a_hn τ = 60 ∧ r = nI 0 ∧ u = τ ∧ u' = TKM μ ∧ (r' = nI 0 ∨ ∃ j, 1 ≤ j ∧ j ≤ 60 ∧ r' = -nI j)) ∨ (a_hn τ < 60 ∧ r = r' ∧ u = τ ∧ u' = TKM μ ∧ ∃ j, 1 ≤ j ∧ j ≤ 60 ∧ r' = -nI j) ∨ (a_hn τ < 60 ∧ r = nI (a_hn τ + 1) ∧ r' = nI (a_hn τ + 1) ∧ u = AHh τ kk ∧ u' = MKk (TKM μ) kk) := by
  have hI2 := inv_tk0 hI hT
  have hH := hI2.2.2.2.2.2.2.2.2.2.1
  have hhn : a_hn τ ≤ 60 := hI2.2.2.1.2.2.2.2.2.2.2.2.1
  obtain ⟨e1, e2, e3, e4, e5⟩ := hH
  have key : ∀ i, 1 ≤ i → i ≤ m_hn (TKM μ) → ((i ≠ 0 ∧ a_lv τ i = 1 ∧ a_kd τ i = kk ∧ a_same τ i) ↔ (i ≠ 0 ∧ m_lv (TKM μ) i = 1 ∧ m_kd (TKM μ) i = kk ∧ m_same (TKM μ) i)) := fun i _ _ => by rw [same_iff hI hT hok i, e3, e2]
  rcases qA with ⟨a1, rfl, rfl⟩ | ⟨a1, qA⟩
  · refine Or.inl ⟨a1, rfl, rfl, ?_⟩
    rcases qM with ⟨j, b1, b2, rfl, _, rfl⟩ | ⟨_, ⟨_, rfl, rfl⟩ | ⟨b1, _⟩⟩
    · exact ⟨rfl, Or.inr ⟨j, b1, by omega, rfl⟩⟩
    · exact ⟨rfl, Or.inl rfl⟩
    · omega
  · rcases qA with ⟨k, k1, k2, rfl, k4, rfl⟩ | ⟨k1, rfl, rfl⟩
    · rw [e1] at k4
      rcases qM with ⟨j, b1, b2, rfl, b4, rfl⟩ | ⟨b1, _⟩
      · exact Or.inr (Or.inl ⟨a1, by rw [FST_u k4 b4 key], rfl, rfl, j, b1, by omega, rfl⟩)
      · exact absurd (nIu (FST_u k4 b1 key) (by omega) (by omega)) (by omega)
    · rw [e1] at k1
      rcases qM with ⟨j, b1, b2, rfl, b4, rfl⟩ | ⟨_, ⟨b1, _⟩ | ⟨_, rfl, rfl⟩⟩
      · exact absurd (nIu (FST_u k1 b4 key) (by omega) (by omega)) (by omega)
      · omega
      · exact Or.inr (Or.inr ⟨a1, rfl, by rw [e1], rfl, rfl⟩)
theorem tie_heading0 {cl : Nat} {σ σ2 : SA} {μ μ2 : SM} {x rA rM : Int32} (hI : INV cl σ μ) (qA : pA_heading σ x rA σ2) (qM : pM_heading μ x rM μ2) : INV (cl + 1) σ2 μ2 ∧ (rA = rM ∨ a_hn σ = 60) := by
  obtain ⟨τ, hT, qA⟩ := qA
  have hI2 := inv_tk0 hI hT
  have hRT := hI.2.2.2.2.2.2.2.2.1
  rcases qA with ⟨a1, rfl, rfl⟩ | ⟨a1, qA⟩
  · rcases qM with ⟨b1, rfl, rfl⟩ | ⟨b1, _⟩
    · exact ⟨inv_skip hI2, Or.inl rfl⟩
    · exact absurd ((ok_iff hRT).mpr b1) a1
  · rcases qM with ⟨b1, _⟩ | ⟨b1, qM⟩
    · exact absurd ((ok_iff hRT).mp a1) b1
    · rcases qA with ⟨c1, rfl, rfl⟩ | ⟨kk, k1, rfl, qA⟩
      · rcases qM with ⟨_, rfl, rfl⟩ | ⟨kk, k1, k2, _⟩
        · exact ⟨inv_skip hI2, Or.inl rfl⟩
        · exact absurd ⟨kk, k1, k2⟩ c1
      · rcases qM with ⟨c1, _⟩ | ⟨k', k1', k2, qM⟩
        · exact absurd ⟨kk, k1, rfl⟩ c1
        · have h9 := nIu k2 (by omega) (by omega)
          subst h9
          rcases adh_rel hI hT a1 k1 qA qM with ⟨d1, rfl, rfl, rfl, _⟩ | ⟨d1, rfl, rfl, rfl, _⟩ | ⟨d1, rfl, rfl, rfl, rfl⟩
          · exact ⟨inv_skip hI2, Or.inr (by obtain ⟨_, _, rfl, _⟩ := hT; exact d1)⟩
          · exact ⟨inv_skip hI2, Or.inl rfl⟩
          · exact ⟨inv_skip (inv_newh hI hT a1 k1 d1), Or.inl rfl⟩
theorem tie_split0 {cl : Nat} {σ σ2 : SA} {μ μ2 : SM} {x rA rM : Int32} {d : Int64} (hI : INV cl σ μ) (hc : cl < 512) (qA : pA_split σ x d rA σ2) (qM : pM_split μ x d rM μ2) : INV (cl + 1) σ2 μ2 ∧ (rA = rM ∨ a_hn σ = 60) := by
  obtain ⟨τ, hT, qA⟩ := qA
  have hI2 := inv_tk0 hI hT
  have hRT := hI.2.2.2.2.2.2.2.2.1
  have hH := hI2.2.2.2.2.2.2.2.2.2.1
  have hhn : a_hn τ ≤ 60 := hI2.2.2.1.2.2.2.2.2.2.2.2.1
  obtain ⟨e1, e2, e3, e4, e5⟩ := id hH
  rcases qA with ⟨a1, rfl, rfl⟩ | ⟨a1, qA⟩
  · rcases qM with ⟨b1, rfl, rfl⟩ | ⟨b1, _⟩
    · exact ⟨inv_skip hI2, Or.inl rfl⟩
    · exact absurd ((ok_iff hRT).mpr b1) a1
  · rcases qM with ⟨b1, _⟩ | ⟨b1, qM⟩
    · exact absurd ((ok_iff hRT).mp a1) b1
    · rcases qA with ⟨c1, rfl, rfl⟩ | ⟨j, j1, j2, j3, rfl, w, qA, qA2⟩
      · rcases qM with ⟨_, rfl, rfl⟩ | ⟨i, i1, i2, i3, i4, _⟩
        · exact ⟨inv_skip hI2, Or.inl rfl⟩
        · exact absurd ⟨i, i1, by rw [e1]; exact i2, by rw [e3]; exact i3, i4⟩ c1
      · rcases qM with ⟨c1, _⟩ | ⟨i, i1, i2, i3, i4, w', qM, qM2⟩
        · exact absurd ⟨j, j1, by rw [e1] at j2; exact j2, by rw [e3] at j3; exact j3, rfl⟩ c1
        · have i2' : i ≤ m_hn (TKM μ) := i2
          have h9 := nIu i4 (by omega) (by omega)
          subst h9
          have hkd : a_kd τ j < 4 := hI2.2.2.1.2.2.2.2.1 j
          rw [show m_kd μ j = a_kd τ j from by rw [e2]; rfl] at qM
          rcases adh_rel hI hT a1 hkd qA qM with ⟨d1, rfl, rfl, rfl, d5⟩ | ⟨d1, rfl, rfl, rfl, d5⟩ | ⟨d1, rfl, rfl, rfl, rfl⟩
          · rcases qA2 with ⟨f1, _⟩ | ⟨_, rfl⟩
            · exact absurd (nIu f1 (by omega) (by omega)) (by omega)
            · rcases qM2 with ⟨g1, g2, _⟩ | ⟨_, rfl⟩
              · have : m_hn (TKM μ) < 60 := g2
                omega
              · exact ⟨inv_skip hI2, Or.inr (by obtain ⟨_, _, rfl, _⟩ := hT; exact d1)⟩
          · obtain ⟨k, k1, k2, rfl⟩ := d5
            rcases qA2 with ⟨f1, _⟩ | ⟨_, rfl⟩
            · exact absurd f1 (neg_ne k1 k2 (by omega))
            · rcases qM2 with ⟨g1, g2, _⟩ | ⟨_, rfl⟩
              · have : m_hn (TKM μ) < 60 := g2
                exact absurd g1 (neg_ne k1 k2 (by show m_hn (TKM μ) + 1 ≤ 100; omega))
              · exact ⟨inv_skip hI2, Or.inl rfl⟩
          · rcases qA2 with ⟨_, _, rfl⟩ | ⟨f1, _⟩
            · rcases qM2 with ⟨_, _, rfl⟩ | ⟨g1, _⟩
              · refine ⟨?_, Or.inl rfl⟩
                have hI3 := inv_newh hI hT a1 hkd d1
                have e1' : a_hn τ = m_hn μ := e1
                have hadd := inv_add (q := 3) (i := j) (j := m_hn μ + 1) (d := d) hI3 hc (by decide) ⟨j1, by show j ≤ m_hn μ + 1; omega, by show updN (m_lv μ) (m_hn μ + 1) 1 j = 1; rw [updN_n (by omega)]; rw [e3] at j3; exact j3⟩ ⟨by omega, by show m_hn μ + 1 ≤ m_hn μ + 1; omega, by show updN (m_lv μ) (m_hn μ + 1) 1 (m_hn μ + 1) = 1; rw [updN_s]⟩ (fun h => absurd h (by decide)) (fun _ n w => by
                  have hno : ∀ n h, WLK (MKk (TKM μ) (a_kd τ j)) 3 0 (m_hn μ + 1) n h → h = m_hn μ + 1 := by
                    intro n
                    induction n with
                    | zero => intro h w; exact w
                    | succ n ih =>
                      intro h w
                      obtain ⟨i, b1, b2, b3, b4⟩ := w
                      have b5 : m_lf μ i = m_hn μ + 1 := ih _ b4
                      have b6 : m_lf μ i ≤ m_hn μ := ((hI.2.2.2.2.2.1) i b1).1.2.1
                      omega
                  have := hno n j w
                  omega)
                obtain ⟨h1, h2, hGA, hGM, hGL, hVE, hVS, hAC, hT0, hH0, hR0, hW0, hK0⟩ := hadd
                obtain ⟨r1, r2, r3⟩ := hI2.2.2.2.2.2.2.2.2.2.2.1
                rw [e1']
                have r1 : a_rn τ = m_rn μ := r1
                have r2 : a_rh τ = m_lk μ := r2
                have r3 : a_rd τ = m_rd μ := r3
                have hrh := hI2.2.2.1.2.2.2.2.2.2.2.2.2.2.2.2.1
                have hml := hI2.2.2.2.1.2.2.2.2.2.2.2.2.2.2.2.1
                refine ⟨h1, h2, GA_rh hGA (mvR_le hrh (by omega)), GM_lk hGM (mvR_le hml (by omega)), hGL, hVE, hVS, acy_eq (μ := ADM (MKk (TKM μ) (a_kd τ j)) 3 j (m_hn μ + 1) d) rfl rfl rfl rfl hAC, hT0, hH0, ⟨hR0.1, ?_, hR0.2.2⟩, hW0, hK0⟩
                show mvR (a_rh τ) (a_rd τ) j (m_hn μ + 1) d (a_rn τ) = mvR (m_lk μ) (m_rd μ) j (m_hn μ + 1) d (m_rn μ)
                rw [r1, r2, r3]
              · exact absurd (by rw [e1]; rfl) g1
            · exact absurd rfl f1
