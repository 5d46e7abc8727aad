/-! links -/
theorem rch_iff {cl : Nat} {σ : SA} {μ : SM} {q z : Nat} (hI : INV cl σ μ) (hq : q < 4) : ∀ {d h : Nat}, rchA (a_tg σ) q z d h ↔ ∃ n, n ≤ d ∧ WLK μ q 1 z n h := by
  obtain ⟨h1, h2, hGA, hGM, hGL, hVE, hVS, hAC, hT, hH, hR, hW, hK⟩ := hI
  have hhn : m_hn μ ≤ 60 := hGM.2.2.1
  intro d
  induction d with
  | zero =>
    intro h
    constructor
    · intro r; exact ⟨0, Nat.le_refl 0, r⟩
    · rintro ⟨n, a1, a2⟩
      obtain rfl : n = 0 := by omega
      exact a2
  | succ d ih =>
    intro h
    constructor
    · rintro (r | ⟨a1, a2, b, a3, a4, a5⟩)
      · obtain ⟨n, b1, b2⟩ := ih.mp r
        exact ⟨n, by omega, b2⟩
      · obtain ⟨n, b1, b2⟩ := ih.mp a5
        obtain ⟨k, c1, c2, c3, c4⟩ := (hK.1 q h b hq a1 a2 a3).mp a4
        exact ⟨n + 1, by omega, k, c1, c2, c3, by show WLK μ q 1 z n (m_lt μ k); rw [c4]; exact b2⟩
    · rintro ⟨n, a1, a2⟩
      cases n with
      | zero => exact Or.inl (ih.mpr ⟨0, Nat.zero_le _, a2⟩)
      | succ n =>
        obtain ⟨k, c1, c2, c3, c4⟩ := a2
        have c3 : m_lf μ k = h := c3
        have hv := hVE k c1
        rw [c3] at hv
        have l1 := hv.1.2.1
        have l2 := hv.2.2.1
        exact Or.inr ⟨hv.1.1, by omega, m_lt μ k, by omega, (hK.1 q h (m_lt μ k) hq hv.1.1 (by omega) (by omega)).mpr ⟨k, c1, c2, c3, rfl⟩, ih.mpr ⟨n, by omega, c4⟩⟩
theorem lev_of {tg : Nat → Int64} {q z h : Nat} : ∀ {d : Nat}, rchA tg q z d h → ∃ e, e ≤ d ∧ levA tg q z e h := by
  intro d
  induction d with
  | zero => intro r; exact ⟨0, Nat.le_refl 0, r, fun e he => absurd he (Nat.not_lt_zero _)⟩
  | succ d ih =>
    intro r
    rcases Classical.em (rchA tg q z d h) with h1 | h1
    · obtain ⟨e, a1, a2⟩ := ih h1
      exact ⟨e, by omega, a2⟩
    · exact ⟨d + 1, Nat.le_refl _, r, fun e he r2 => h1 (rchA_mono (by omega) r2)⟩
theorem lev_D {cl : Nat} {σ : SA} {μ : SM} {q z d h : Nat} {D : Nat → Nat} (hI : INV cl σ μ) (hq : q < 4) (hok : DOK μ q 1 z D) (hcl : DCL μ q 1 D) (h1 : 1 ≤ h) (h2 : h ≤ m_hn μ) (hd : d < 100) : levA (a_tg σ) q z d h ↔ D h = d := by
  constructor
  · rintro ⟨r, r2⟩
    obtain ⟨n, a1, a2⟩ := (rch_iff hI hq).mp r
    have a3 := DCL_le hok.2.1 hcl a2
    rcases Nat.lt_or_ge (D h) d with h3 | h3
    · exact absurd ((rch_iff hI hq).mpr ⟨D h, Nat.le_refl _, hok.2.2 h h1 h2 (by omega)⟩) (r2 (D h) h3)
    · omega
  · rintro rfl
    refine ⟨(rch_iff hI hq).mpr ⟨D h, Nat.le_refl _, hok.2.2 h h1 h2 hd⟩, fun e he r => ?_⟩
    obtain ⟨n, a1, a2⟩ := (rch_iff hI hq).mp r
    have a3 := DCL_le hok.2.1 hcl a2
    omega
theorem WLK_rev1 {σ : SM} {q x : Nat} : ∀ {n y : Nat}, WLK σ q 1 x n y → WLK σ q 0 y n x := by
  intro n
  induction n with
  | zero => intro y w; exact (show y = x from w).symm
  | succ n ih =>
    intro y w
    obtain ⟨i, h1, h2, h3, h4⟩ := w
    exact WLK_pre h1 h2 (by rw [ea_eb]; exact h3) (by rw [eb_ea]) (ih h4)
theorem D_any {μ : SM} {q ag x : Nat} {D : Nat → Nat} (hE : HED μ) (hG : GM μ) (hok : DOK μ q ag x D) (hcl : DCL μ q ag D) (x1 : 1 ≤ x ∧ x ≤ m_hn μ) : ∀ {n h : Nat}, WLK μ q ag x n h → D h < 100 ∧ 1 ≤ h ∧ h ≤ m_hn μ := by
  have hhn : m_hn μ ≤ 60 := hG.2.2.1
  intro n
  induction n with
  | zero => intro h w; rw [show h = x from w, hok.2.1]; exact ⟨by decide, x1⟩
  | succ n ih =>
    intro h w
    obtain ⟨i, a1, a2, a3, a4⟩ := w
    obtain ⟨b1, b2, b3⟩ := ih a4
    have b4 := D_lt hE hok hcl b2 b3 b1
    have b5 := hcl i a1 a2
    have b6 : 1 ≤ ebM μ ag i ∧ ebM μ ag i ≤ m_hn μ := by
      unfold ebM
      split
      · exact (hE i a1).2
      · exact (hE i a1).1
    rw [a3] at b5 b6
    exact ⟨by omega, b6⟩
theorem hed_of {μ : SM} (hV : VE μ) : HED μ := fun i hi => ⟨⟨(hV i hi).1.1, (hV i hi).1.2.1⟩, ⟨(hV i hi).2.1, (hV i hi).2.2.1⟩⟩
theorem tg0_iff {cl : Nat} {σ : SA} {μ : SM} {i : Nat} (hI : INV cl σ μ) (i1 : 1 ≤ i) (i2 : i ≤ 60) : ¬ a_tg σ (0 * 61 + i) = 0 ↔ HASM μ 0 i 0 := by
  obtain ⟨h1, h2, hGA, hGM, hGL, hVE, hVS, hAC, hT, hH, hR, hW, hK⟩ := hI
  have hhn : m_hn μ ≤ 60 := hGM.2.2.1
  constructor
  · intro h
    rw [b6_zero] at h
    obtain ⟨g, hg⟩ := Classical.not_forall.mp h
    obtain ⟨g1, g2⟩ := Classical.not_imp.mp hg
    have g3 : bt6 (a_tg σ (0 * 61 + i)) g = true := by cases hz : bt6 (a_tg σ (0 * 61 + i)) g; exact absurd hz g2; rfl
    obtain ⟨k, c1, c2, c3, _⟩ := (hK.1 0 i g (by decide) i1 i2 g1).mp g3
    exact ⟨k, c1, c2, Or.inr c3, Or.inl rfl⟩
  · rintro ⟨k, c1, c2, c3, _⟩ h
    have hv := (hVE k c1).2.2.1
    have hb := (hK.1 0 i (m_lt μ k) (by decide) i1 i2 (by omega)).mpr ⟨k, c1, c2, by rcases c3 with z | z; omega; exact z, rfl⟩
    rw [h, b6_0] at hb
    cases hb
theorem chn_iff {cl : Nat} {σ : SA} {μ : SM} {i j : Nat} (hI : INV cl σ μ) (i1 : 1 ≤ i) (i2 : i ≤ 60) (j1 : 1 ≤ j) (j2 : j ≤ 60) : CHN σ i j ↔ CHM μ i j := by
  have e1 := tg0_iff hI i1 i2
  have e2 := tg0_iff hI j1 j2
  obtain ⟨h1, h2, hGA, hGM, hGL, hVE, hVS, hAC, hT, hH, hR, hW, hK⟩ := hI
  have hhn : m_hn μ ≤ 60 := hGM.2.2.1
  unfold CHN CHM
  rw [e1, e2]
  have e3 : (∃ h, h < 60 ∧ bt6 (a_tg σ (0 * 61 + (h + 1))) i = true) ↔ HASM μ 0 0 i := by
    constructor
    · rintro ⟨h, a1, a2⟩
      obtain ⟨k, c1, c2, c3, c4⟩ := (hK.1 0 (h + 1) i (by decide) (by omega) (by omega) (by omega)).mp a2
      exact ⟨k, c1, c2, Or.inl rfl, Or.inr c4⟩
    · rintro ⟨k, c1, c2, _, c4⟩
      have hv := (hVE k c1).1
      exact ⟨m_lf μ k - 1, by omega, by rw [show m_lf μ k - 1 + 1 = m_lf μ k by omega]; exact (hK.1 0 (m_lf μ k) i (by decide) hv.1 (by omega) (by omega)).mpr ⟨k, c1, c2, rfl, by rcases c4 with z | z; omega; exact z⟩⟩
  rw [e3]
theorem ring_eq {cl : Nat} {σ : SA} {μ : SM} {q x z d : Nat} {D Y S : Nat → Nat} {V : Nat → Int64} (hI : INV cl σ μ) (hq : q < 4) (x1 : 1 ≤ x ∧ x ≤ m_hn μ) (hd : d < 59) (hS : ∀ j, S j ≤ 60) (hS0 : S 0 = x) (hSn : ∀ j, j < d + 1 → NTH (bt6 (a_tg σ (q * 61 + S j) &&& V (d - j))) 60 0 (nI (S (j + 1)))) (hV : ∀ e, e ≤ d + 1 → ∀ b, b < 64 → (bt6 (V e) b = true ↔ levA (a_tg σ) q z e b)) (hok : DOK μ q 1 z D) (hcl : DCL μ q 1 D) (hDx : D x = d + 1) (hY0 : Y 0 = x) (hYk : ∀ k, k < D x → D (Y k) + k = D x ∧ LST (nxP μ q D (Y k)) (m_hn μ) (Y (k + 1))) : ∀ k, k < d + 2 → S k = Y k ∧ 1 ≤ Y k ∧ Y k ≤ m_hn μ := by
  have hI0 := hI
  obtain ⟨h1, h2, hGA, hGM, hGL, hVE, hVS, hAC, hT, hH, hR, hW, hK⟩ := hI
  have hhn : m_hn μ ≤ 60 := hGM.2.2.1
  intro k
  induction k with
  | zero => intro _; rw [hS0, hY0]; exact ⟨rfl, x1⟩
  | succ k ih =>
    intro hk
    obtain ⟨a1, a2, a3⟩ := ih (by omega)
    obtain ⟨b1, b2, b3, b4, b5⟩ := hYk k (by omega)
    have key : ∀ g, 1 ≤ g → g ≤ 60 → (bt6 (a_tg σ (q * 61 + S k) &&& V (d - k)) g = true ↔ (g ≤ m_hn μ ∧ nxP μ q D (Y k) g)) := fun g g1 g2 => by
      rw [b6_and, Bool.and_eq_true, a1, hK.1 q (Y k) g hq a2 (by omega) (by omega), hV (d - k) (by omega) g (by omega)]
      constructor
      · rintro ⟨⟨i, c1, c2, c3, c4⟩, c5⟩
        have hgn : g ≤ m_hn μ := by rw [← c4]; exact (hVE i c1).2.2.1
        have c6 := (lev_D hI0 hq hok hcl g1 hgn (by omega)).mp c5
        exact ⟨hgn, by omega, i, c1, c2, Or.inr c3, Or.inr c4⟩
      · rintro ⟨hgn, c1, i, c2, c3, c4, c5⟩
        exact ⟨⟨i, c2, c3, by omega, by omega⟩, (lev_D hI0 hq hok hcl g1 hgn (by omega)).mpr (by omega)⟩
    refine ⟨?_, b2, b3⟩
    have hSk := hS (k + 1)
    rcases hSn k (by omega) with ⟨h, c1, c2, c3, c4⟩ | ⟨c3, c4⟩
    · have e := nIu c4 (by omega) (by omega)
      have hp := (key (h + 1) (by omega) (by omega)).mp c2
      rcases Nat.lt_trichotomy (h + 1) (Y (k + 1)) with l | l | l
      · exact absurd hp.2 (b5 (h + 1) (by omega) l)
      · omega
      · have := cntP_pos (n := h) ((key (Y (k + 1)) b2 (by omega)).mpr ⟨b3, b4⟩) b2 (by omega)
        omega
    · have := cntP_pos (n := 60) ((key (Y (k + 1)) b2 (by omega)).mpr ⟨b3, b4⟩) b2 (by omega)
      omega
theorem inv_di {cl : Nat} {σ : SA} {μ : SM} {D : Nat → Nat} {V : Nat → Int64} (hI : INV cl σ μ) (hD : ∀ h, D h ≤ 100) : INV cl (au_aw σ V) (mu_di μ D) := by
  obtain ⟨h1, h2, hGA, hGM, hGL, hVE, hVS, hAC, hT, hH, hR, hW, hK⟩ := hI
  exact ⟨h1, h2, GA_aw hGA, GM_di hGM hD, hGL, hVE, hVS, acy_eq (μ := μ) rfl rfl rfl rfl hAC, hT, hH, hR, hW, hK⟩
theorem tie_link0 {cl : Nat} {σ σ2 : SA} {μ μ2 : SM} {x y z rA rM : Int32} {d : Int64} (hI : INV cl σ μ) (hc : cl < 512) (qA : pA_link σ x y z d rA σ2) (qM : pM_link μ x y z d rM μ2) : INV (cl + 1) σ2 μ2 ∧ rA = rM := by
  have hI0 := hI
  obtain ⟨h1, h2, hGA, hGM, hGL, hVE, hVS, hAC, hT, hH, hR, hW, hK⟩ := hI
  obtain ⟨e1, e2, e3, e4, e5⟩ := id hH
  have hhn : a_hn σ ≤ 60 := hGA.2.2.2.2.2.2.2.2.1
  have vl : ∀ q i j, VLD σ x y z q i j ↔ VLM μ x y z q i j := fun q i j => by unfold VLD VLM; rw [e1, e3]
  rcases qA with ⟨a1, rfl, rfl⟩ | ⟨q, i, j, v1, qA⟩
  · rcases qM with ⟨_, rfl, rfl⟩ | ⟨q, i, j, v1, _⟩
    · exact ⟨inv_skip hI0, rfl⟩
    · exact absurd ⟨q, i, j, (vl q i j).mpr v1⟩ a1
  · rcases qM with ⟨b1, _⟩ | ⟨q', i', j', v2, qM⟩
    · exact absurd ⟨q, i, j, (vl q i j).mp v1⟩ b1
    · obtain ⟨w1, ⟨w2, w3, w4⟩, ⟨w5, w6, w7⟩, w8, rfl, rfl, rfl⟩ := v1
      obtain ⟨u1, ⟨u2, u3, u4⟩, ⟨u5, u6, u7⟩, u8, u9, u10, u11⟩ := v2
      have f1 := nIu u9 (by omega) (by omega)
      have f2 := nIu u10 (by omega) (by omega)
      have f3 := nIu u11 (by omega) (by omega)
      subst f1
      subst f2
      subst f3
      have hhas : bt6 (a_tg σ (q * 61 + i)) j = true ↔ HASM μ q i j := by rw [hK.1 q i j w1 w2 (by omega) (by omega), hasm_edg w2 w5]
      rcases qA with ⟨c1, rfl, rfl⟩ | ⟨c1, qA⟩
      · rcases qM with ⟨_, rfl, rfl⟩ | ⟨d1, _⟩
        · exact ⟨inv_skip hI0, rfl⟩
        · exact absurd (hhas.mp c1) d1
      · rcases qM with ⟨d1, _⟩ | ⟨d1, qM⟩
        · exact absurd (hhas.mpr d1) c1
        · have hch := chn_iff hI0 w2 (by omega) w5 (by omega)
          have hE := hed_of hVE
          have hii : 1 ≤ i ∧ i ≤ m_hn μ ∧ m_lv μ i = 1 := ⟨u2, u3, u4⟩
          have hjj : 1 ≤ j ∧ j ≤ m_hn μ ∧ m_lv μ j = 1 := ⟨u5, u6, u7⟩
          rcases qA with ⟨g1, g2, rfl, rfl⟩ | ⟨g1, g2, rfl, rfl⟩ | ⟨g1, rfl, rfl⟩ | ⟨g1, qA⟩
          · rcases qM with ⟨_, _, rfl, rfl⟩ | ⟨_, k2, _⟩ | ⟨k1, _⟩ | ⟨k1, _⟩
            · exact ⟨inv_skip hI0, rfl⟩
            · exact absurd (hch.mp g2) k2
            · omega
            · omega
          · rcases qM with ⟨_, k2, _⟩ | ⟨_, k2, rfl, rfl⟩ | ⟨k1, _⟩ | ⟨k1, _⟩
            · exact absurd (hch.mpr k2) g2
            · refine ⟨inv_add hI0 hc w1 hii hjj (fun _ k hk hs hf => k2 (Or.inl ⟨k, hk, hs, Or.inr hf, Or.inl rfl⟩)) (fun h3 => by omega), rfl⟩
            · omega
            · omega
          · rcases qM with ⟨k1, _⟩ | ⟨k1, _⟩ | ⟨_, rfl, rfl⟩ | ⟨k1, _⟩
            · omega
            · omega
            · exact ⟨inv_add hI0 hc w1 hii hjj (fun h => by omega) (fun h => by omega), rfl⟩
            · omega
          · rcases qM with ⟨k1, _⟩ | ⟨k1, _⟩ | ⟨k1, _⟩ | ⟨k1, qM⟩
            · omega
            · omega
            · omega
            · rcases qA with ⟨rfl, V, d0, S, s1, s2, rfl, s4, s5, s6, s7⟩ | ⟨V, rfl, s1, rfl⟩
              · rcases qM with ⟨rfl, _, D0, D, Y, rfl, t1, t2, t3, t4, t5, t6⟩ | ⟨D, rfl, t1, t2, t3, _⟩
                · have t1 : DOK μ q 1 i D := ⟨t1.1, t1.2.1, fun h a1 a2 a3 => WLK_di.mp (t1.2.2 h a1 a2 a3)⟩
                  have t2 : DCL μ q 1 D := t2
                  have hDx : D j = d0 + 1 := (lev_D hI0 w1 t1 t2 u5 u6 (by omega)).mp s2
                  have hreq := ring_eq hI0 w1 ⟨u5, u6⟩ s1 s4 s5 s6 s7 t1 t2 hDx t4 t6
                  refine ⟨⟨Nat.le_succ_of_le h1, Nat.le_succ_of_le h2, GA_wn (GA_ws (GA_aw hGA) s4) (by omega), ?_, hGL, hVE, hVS, acy_eq (μ := μ) rfl rfl rfl rfl hAC, hT, hH, hR, ⟨?_, ?_⟩, hK⟩, rfl⟩
                  · have hwy : ∀ j, Y j ≤ 60 := t5
                    obtain ⟨m1, m2, m3, m4, m5, m6, m7, m8, m9, m10, m11, m12, m13, m14, m15, m16⟩ := hGM
                    exact ⟨m1, m2, m3, m4, m5, m6, m7, m8, m9, m10, m11, m12, hwy, by show D j + 1 ≤ 61; omega, t1.1, m16⟩
                  · show d0 + 2 = D j + 1
                    omega
                  · intro k hk
                    exact (hreq k hk).1
                · exfalso
                  obtain ⟨n, a1, a2⟩ := (rch_iff hI0 w1).mp s2.1
                  have a3 := D_any hE hGM t1 t2 ⟨u5, u6⟩ (WLK_rev1 a2)
                  omega
              · rcases qM with ⟨_, ⟨n, n1, n2⟩, _⟩ | ⟨D, rfl, t1, t2, t3, rfl⟩
                · exfalso
                  obtain ⟨e, a1, a2⟩ := lev_of ((rch_iff (z := i) hI0 w1).mpr ⟨n, Nat.le_refl n, WLK_rev n2⟩)
                  exact s1 e (by omega) a2
                · refine ⟨inv_add (inv_di hI0 t1.1) hc w1 hii hjj (fun h => by omega) (fun h3 n w => ?_), rfl⟩
                  have w' : WLK μ 3 0 j n i := WLK_di.mp w
                  rw [h3] at t1 t2
                  have := D_any hE hGM t1 t2 ⟨u5, u6⟩ w'
                  omega
theorem tie_broader0 {cl : Nat} {σ : SA} {μ μ2 : SM} {x y rA rM : Int32} (hI : INV cl σ μ) (qM : pM_broader μ x y rM μ2) : INV (cl + 1) σ μ2 := by
  rcases qM with ⟨_, _, rfl⟩ | ⟨j, i, _, _, _, _, _, _, D, rfl, hok, _⟩
  · exact inv_skip hI
  · obtain ⟨h1, h2, hGA, hGM, hGL, hVE, hVS, hAC, hT, hH, hR, hW, hK⟩ := hI
    exact ⟨Nat.le_succ_of_le h1, Nat.le_succ_of_le h2, hGA, GM_di hGM hok.1, hGL, hVE, hVS, acy_eq (μ := μ) rfl rfl rfl rfl hAC, hT, hH, hR, hW, hK⟩
