/-! broader exactly: no link leads from a heading to itself; the levels are the reference's distances -/
def NS (μ : SM) : Prop := ∀ i, i < m_ln μ → m_lf μ i ≠ m_lt μ i
theorem ns_0 : NS sM0 := fun i hi => absurd hi (Nat.not_lt_zero _)
theorem ns_eq {μ ν : SM} (e1 : m_ln ν = m_ln μ) (e2 : m_lf ν = m_lf μ) (e3 : m_lt ν = m_lt μ) (h : NS μ) : NS ν := fun i hi => by
  rw [e2, e3]
  exact h i (by rw [← e1]; exact hi)
theorem ns_add {μ ν : SM} {q i j : Nat} {d : Int64} (e1 : m_ln ν = m_ln μ) (e2 : m_lf ν = m_lf μ) (e3 : m_lt ν = m_lt μ) (h : NS μ) (hij : i ≠ j) : NS (ADM ν q i j d) := fun k hk => by
  have hk2 : k < m_ln ν + 1 := hk
  show updN (m_lf ν) (m_ln ν) i k ≠ updN (m_lt ν) (m_ln ν) j k
  rcases Nat.lt_succ_iff_lt_or_eq.mp hk2 with h3 | h3
  · rw [updN_n (by omega), updN_n (by omega), e2, e3]
    exact h k (by rw [← e1]; exact h3)
  · rw [h3, updN_s, updN_s]
    exact hij
theorem ns_mkh {μ ν u : SM} {kk : Nat} {r : Int32} (h : NS μ) (e : ν = TKM μ) (q : MKH ν kk r u) : NS u ∧ m_ln u = m_ln μ ∧ m_lf u = m_lf μ ∧ m_lt u = m_lt μ := by
  subst e
  rcases q with ⟨_, _, _, _, _, rfl⟩ | ⟨_, ⟨_, _, rfl⟩ | ⟨_, _, rfl⟩⟩
  · exact ⟨ns_eq (μ := μ) rfl rfl rfl h, rfl, rfl, rfl⟩
  · exact ⟨ns_eq (μ := μ) rfl rfl rfl h, rfl, rfl, rfl⟩
  · exact ⟨ns_eq (μ := μ) rfl rfl rfl h, rfl, rfl, rfl⟩
theorem ns_sign {μ u : SM} {x : Int32} (h : NS μ) (q : pM_sign μ x u) : NS u := by
  have q : u = if m_sz μ < 40 then mu_sz (mu_sd μ (updN (m_sd μ) (m_sz μ) (lowB x))) (m_sz μ + 1) else μ := q
  by_cases e : m_sz μ < 40
  · rw [if_pos e] at q; subst q; exact ns_eq (μ := μ) rfl rfl rfl h
  · rw [if_neg e] at q; subst q; exact h
theorem ns_heading {μ u : SM} {x r : Int32} (h : NS μ) (q : pM_heading μ x r u) : NS u := by
  rcases q with ⟨_, _, rfl⟩ | ⟨_, ⟨_, _, rfl⟩ | ⟨kk, _, _, q⟩⟩
  · exact ns_eq (μ := μ) rfl rfl rfl h
  · exact ns_eq (μ := μ) rfl rfl rfl h
  · exact (ns_mkh h rfl q).1
theorem ns_link {μ u : SM} {x y z r : Int32} {d : Int64} (h : NS μ) (q : pM_link μ x y z d r u) : NS u := by
  rcases q with ⟨_, _, rfl⟩ | ⟨q, i, j, hv, q2⟩
  · exact h
  · have hij : i ≠ j := hv.2.2.2.1
    rcases q2 with ⟨_, _, rfl⟩ | ⟨_, ⟨_, _, _, rfl⟩ | ⟨_, _, _, rfl⟩ | ⟨_, _, rfl⟩ | ⟨_, ⟨_, _, D0, D, Y, rfl, _⟩ | ⟨D, _, _, _, _, rfl⟩⟩⟩
    · exact h
    · exact h
    · exact ns_add (μ := μ) rfl rfl rfl h hij
    · exact ns_add (μ := μ) rfl rfl rfl h hij
    · exact ns_eq (μ := μ) rfl rfl rfl h
    · exact ns_add (μ := μ) rfl rfl rfl h hij
theorem ns_rename {μ u : SM} {x r : Int32} (h : NS μ) (q : pM_rename μ x r u) : NS u := by
  rcases q with ⟨_, _, rfl⟩ | ⟨_, ⟨_, _, rfl⟩ | ⟨j, _, _, _, _, ⟨_, _, _, _, _, rfl⟩ | ⟨_, _, rfl⟩⟩⟩
  · exact ns_eq (μ := μ) rfl rfl rfl h
  · exact ns_eq (μ := μ) rfl rfl rfl h
  · exact ns_eq (μ := μ) rfl rfl rfl h
  · exact ns_eq (μ := μ) rfl rfl rfl h
theorem ns_find {μ u : SM} {r : Int32} (h : NS μ) (q : pM_find μ r u) : NS u := by
  obtain ⟨e, _⟩ := q
  rw [e]
  exact ns_eq (μ := μ) rfl rfl rfl h
theorem ns_see {μ u : SM} {x y r : Int32} (h : NS μ) (q : pM_see μ x y r u) : NS u := by
  obtain ⟨e, _⟩ := q
  rw [e]; exact h
theorem ns_broader {μ u : SM} {x y r : Int32} (h : NS μ) (q : pM_broader μ x y r u) : NS u := by
  rcases q with ⟨_, _, rfl⟩ | ⟨j, i, _, _, _, _, _, _, D, rfl, _⟩
  · exact h
  · exact ns_eq (μ := μ) rfl rfl rfl h
theorem ns_delete {μ u : SM} {x r : Int32} (h : NS μ) (q : pM_delete μ x r u) : NS u := by
  rcases q with ⟨_, _, rfl⟩ | ⟨j, _, _, _, _, ⟨_, _, rfl⟩ | ⟨_, _, S, F, G, E, k, rfl, _, _, _, hl⟩⟩
  · exact h
  · exact h
  · intro i hi
    have hi : i < k := hi
    show F i ≠ G i
    have h1 : (S i, F i, G i, E i) ∈ lst4 S F G E k := lst4_mem.mpr ⟨i, hi, rfl⟩
    rw [hl, List.mem_filter] at h1
    obtain ⟨n, h2, h3⟩ := lst4_mem.mp h1.1
    have e1 : F i = m_lf μ n := congrArg (fun e => e.2.1) h3
    have e2 : G i = m_lt μ n := congrArg (fun e => e.2.2.1) h3
    rw [e1, e2]
    exact h n h2
theorem ns_split {μ u : SM} {x r : Int32} {d : Int64} (h : NS μ) (q : pM_split μ x d r u) : NS u := by
  rcases q with ⟨_, _, rfl⟩ | ⟨_, ⟨_, _, rfl⟩ | ⟨j, _, j2, _, _, w, hw, ⟨_, _, rfl⟩ | ⟨_, rfl⟩⟩⟩
  · exact ns_eq (μ := μ) rfl rfl rfl h
  · exact ns_eq (μ := μ) rfl rfl rfl h
  · obtain ⟨_, w2, w3, w4⟩ := ns_mkh h rfl hw
    have h5 : NS (ADM w 3 j (m_hn μ + 1) d) := ns_add (μ := μ) w2 w3 w4 h (by omega)
    exact ns_eq (μ := ADM w 3 j (m_hn μ + 1) d) rfl rfl rfl h5
  · exact (ns_mkh h rfl hw).1
theorem ns_shown {μ u : SM} {x r : Int32} {d : Int64} (h : NS μ) (q : pM_shown μ x d r u) : NS u := by
  obtain ⟨e, _⟩ := q
  rw [e]; exact h
theorem ns_record {μ u : SM} {x r : Int32} {d : Int64} (h : NS μ) (q : pM_record μ x d r u) : NS u := by
  rcases q with ⟨_, _, rfl⟩ | ⟨j, _, _, _, _, ⟨_, _, rfl⟩ | ⟨_, _, v0, _, _, rfl⟩⟩
  · exact h
  · exact h
  · exact ns_eq (μ := μ) rfl rfl rfl h
theorem ns_linked {μ u : SM} {x r : Int32} (h : NS μ) (q : pM_linked μ x r u) : NS u := by
  obtain ⟨e, _⟩ := q
  rw [e]; exact h
theorem ns_form {μ u : SM} {x r : Int32} {d : Int64} (h : NS μ) (q : pM_form μ x d r u) : NS u := by
  obtain ⟨e, _⟩ := q
  rw [e]; exact h
theorem ns_ring {μ u : SM} {x r : Int32} (h : NS μ) (q : pM_ring μ x r u) : NS u := by
  obtain ⟨e, _⟩ := q
  rw [e]; exact h
theorem ns_letter {μ u : SM} {x y r : Int32} (h : NS μ) (q : pM_letter μ x y r u) : NS u := by
  obtain ⟨e, _⟩ := q
  rw [e]; exact h
theorem tb_of {cl : Nat} {σ : SA} {μ : SM} (hI : INV cl σ μ) : TB (a_tg σ) := by
  obtain ⟨h1, h2, hGA, hGM, hGL, hVE, hVS, hAC, hT, hH, hR, hW, hK⟩ := hI
  have hhn : m_hn μ ≤ 60 := hGM.2.2.1
  intro h b a1 a2 a3
  rcases Nat.lt_or_ge b 64 with a4 | a4
  · obtain ⟨i, b1, b2, b3, b4⟩ := (hK.1 2 h b (by omega) a1 a2 a4).mp a3
    have hv := (hVE i b1).2
    rw [b4] at hv
    exact ⟨hv.1, by omega⟩
  · rw [b6_big a4] at a3; cases a3
/-- the levels are the distances -/
theorem LS_D {cl : Nat} {σ : SA} {μ : SM} {j : Nat} {D : Nat → Nat} (hI : INV cl σ μ) (hN : NS μ) (j1 : 1 ≤ j) (j2 : j ≤ m_hn μ) (hok : DOK μ 2 0 j D) (hcl : DCL μ 2 0 D) : ∀ k, k < 90 → (∀ g, 1 ≤ g → g ≤ m_hn μ → ((LSa (a_tg σ) j k).1 g ↔ D g ≤ k)) ∧ (∀ g, (LSa (a_tg σ) j k).2 g ↔ 1 ≤ g ∧ g ≤ m_hn μ ∧ D g = k + 1) := by
  obtain ⟨h1, h2, hGA, hGM, hGL, hVE, hVS, hAC, hT, hH, hR, hW, hK⟩ := hI
  have hhn : m_hn μ ≤ 60 := hGM.2.2.1
  have edg : ∀ f g, 1 ≤ f → f ≤ m_hn μ → (bt6 (a_tg σ (2 * 61 + f)) g = true ↔ EDG μ 2 f g) := by
    intro f g f1 f2
    rcases Nat.lt_or_ge g 64 with h | h
    · exact hK.1 2 f g (by omega) f1 (by omega) h
    · constructor
      · intro e; rw [b6_big h] at e; cases e
      · rintro ⟨i, i1, _, _, i4⟩
        have := (hVE i i1).2.2.1
        omega
  have d0 : ∀ g, 1 ≤ g → g ≤ m_hn μ → D g = 0 → g = j := fun g g1 g2 e => by
    have w := hok.2.2 g g1 g2 (by omega)
    rw [e] at w
    exact w
  have step : ∀ f g, EDG μ 2 f g → D g ≤ D f + 1 ∧ 1 ≤ g ∧ g ≤ m_hn μ := by
    rintro f g ⟨i, i1, i2, i3, i4⟩
    have h := hcl i i1 i2
    have h' : D (m_lt μ i) ≤ D (m_lf μ i) + 1 := h
    rw [i3, i4] at h'
    have hv := (hVE i i1).2
    rw [i4] at hv
    exact ⟨h', hv.1, hv.2.1⟩
  have back : ∀ g m, 1 ≤ g → g ≤ m_hn μ → D g = m + 1 → m + 1 < 100 → ∃ f, 1 ≤ f ∧ f ≤ m_hn μ ∧ EDG μ 2 f g ∧ D f = m := by
    intro g m g1 g2 e hm
    have w := hok.2.2 g g1 g2 (by omega)
    rw [e] at w
    obtain ⟨i, i1, i2, i3, i4⟩ := w
    have i3 : m_lt μ i = g := i3
    have i4 : WLK μ 2 0 j m (m_lf μ i) := i4
    have a1 := DCL_le hok.2.1 hcl i4
    have a2 := (step (m_lf μ i) g ⟨i, i1, i2, rfl, i3⟩).1
    have hv := (hVE i i1).1
    exact ⟨m_lf μ i, hv.1, hv.2.1, ⟨i, i1, i2, rfl, i3⟩, by omega⟩
  intro k
  induction k with
  | zero =>
    intro _
    refine ⟨fun g g1 g2 => ?_, fun g => ?_⟩
    · constructor
      · intro e
        have e : g = j := e
        rw [e, hok.2.1]
        exact Nat.le_refl 0
      · intro e; exact d0 g g1 g2 (by omega)
    · constructor
      · intro e
        have e2 := (edg j g j1 j2).mp e
        obtain ⟨a1, a2, a3⟩ := step j g e2
        rw [hok.2.1] at a1
        refine ⟨a2, a3, ?_⟩
        rcases Nat.eq_zero_or_pos (D g) with h | h
        · have h3 := d0 g a2 a3 h
          obtain ⟨i, i1, _, i3, i4⟩ := e2
          exact absurd (by rw [i3, i4, h3]) (hN i i1)
        · omega
      · rintro ⟨a1, a2, a3⟩
        obtain ⟨f, f1, f2, f3, f4⟩ := back g 0 a1 a2 a3 (by omega)
        rw [d0 f f1 f2 f4] at f3
        exact (edg j g j1 j2).mpr f3
  | succ k ih =>
    intro hk
    obtain ⟨ih1, ih2⟩ := ih (by omega)
    have s1 : ∀ g, 1 ≤ g → g ≤ m_hn μ → ((LSa (a_tg σ) j (k + 1)).1 g ↔ D g ≤ k + 1) := by
      intro g g1 g2
      constructor
      · rintro (r | r)
        · have := (ih1 g g1 g2).mp r; omega
        · have := ((ih2 g).mp r).2.2; omega
      · intro r
        rcases Nat.lt_or_ge k (D g) with h | h
        · exact Or.inr ((ih2 g).mpr ⟨g1, g2, by omega⟩)
        · exact Or.inl ((ih1 g g1 g2).mpr h)
    refine ⟨s1, fun g => ?_⟩
    constructor
    · rintro ⟨⟨f, _, f2, f3⟩, r⟩
      obtain ⟨a1, a2, a3⟩ := (ih2 (f + 1)).mp f2
      obtain ⟨b1, b2, b3⟩ := step (f + 1) g ((edg (f + 1) g a1 a2).mp f3)
      have b4 : ¬ D g ≤ k + 1 := fun e => r ((s1 g b2 b3).mpr e)
      exact ⟨b2, b3, by omega⟩
    · rintro ⟨a1, a2, a3⟩
      obtain ⟨f, f1, f2, f3, f4⟩ := back g (k + 1) a1 a2 a3 (by omega)
      refine ⟨⟨f - 1, by omega, ?_, ?_⟩, fun r => ?_⟩
      · rw [show f - 1 + 1 = f by omega]; exact (ih2 f).mpr ⟨f1, f2, f4⟩
      · rw [show f - 1 + 1 = f by omega]; exact (edg f g f1 f2).mpr f3
      · have := (s1 g a1 a2).mp r; omega
theorem cS_up {D : Nat → Nat} {n : Nat} : ∀ {k m : Nat}, k ≤ m → cS D n k ≤ cS D n m := by
  intro k m h
  induction h with
  | refl => exact Nat.le_refl _
  | step _ ih => simp only [cS]; omega
theorem hit_lt {D : Nat → Nat} {n k f i : Nat} (hf : f < n) (hd : D (f + 1) = k + 1) (hi : cS D n k + cntP (lvB D (k + 1)) f = i) : i < cS D n (k + 1) := by
  have h1 : lvB D (k + 1) (f + 1) = true := decide_eq_true hd
  have h2 : cntP (lvB D (k + 1)) (f + 1) ≤ cntP (lvB D (k + 1)) n := cntP_up hf
  rw [cntP_s1 h1] at h2
  simp only [cS]
  omega
theorem BRO_u {D : Nat → Nat} {n i K : Nat} {r r' : Int32} (hK : K ≤ 60) (hD : ∀ f k, f < n → k < 60 → D (f + 1) = k + 1 → k < K) (h : (∃ k f, k < K ∧ f < n ∧ D (f + 1) = k + 1 ∧ cS D n k + cntP (lvB D (k + 1)) f = i ∧ r = nI (f + 1)) ∨ (cS D n K ≤ i ∧ r = nI 0)) (h' : BRO D n i r') : r = r' := by
  rcases h with ⟨k, f, a1, a2, a3, a4, rfl⟩ | ⟨a1, rfl⟩
  · have a5 := hit_lt a2 a3 a4
    rcases h' with ⟨k', f', b1, b2, b3, b4, rfl⟩ | ⟨b1, rfl⟩
    · have b5 := hit_lt b2 b3 b4
      rcases Nat.lt_trichotomy k k' with h | h | h
      · have := cS_up (D := D) (n := n) (show k + 1 ≤ k' from h)
        omega
      · subst h
        have c1 : lvB D (k + 1) (f + 1) = true := decide_eq_true a3
        have c2 : lvB D (k + 1) (f' + 1) = true := decide_eq_true b3
        rcases Nat.lt_trichotomy f f' with h | h | h
        · have h2 : cntP (lvB D (k + 1)) (f + 1) ≤ cntP (lvB D (k + 1)) f' := cntP_up h
          rw [cntP_s1 c1] at h2
          omega
        · rw [h]
        · have h2 : cntP (lvB D (k + 1)) (f' + 1) ≤ cntP (lvB D (k + 1)) f := cntP_up h
          rw [cntP_s1 c2] at h2
          omega
      · have := cS_up (D := D) (n := n) (show k' + 1 ≤ k from h)
        omega
    · have := cS_up (D := D) (n := n) (show k + 1 ≤ 60 by omega)
      omega
  · rcases h' with ⟨k', f', b1, b2, b3, b4, rfl⟩ | ⟨b1, rfl⟩
    · have b5 := hit_lt b2 b3 b4
      have b6 := hD f' k' b2 b1 b3
      have := cS_up (D := D) (n := n) (show k' + 1 ≤ K from b6)
      omega
    · rfl
theorem tie_broaderX {cl : Nat} {σ : SA} {μ μ2 : SM} {x y rA rM : Int32} (hI : INV cl σ μ) (hN : NS μ) (qA : pA_broader σ x y rA) (qM : pM_broader μ x y rM μ2) : INV (cl + 1) σ μ2 ∧ rA = rM := by
  refine ⟨tie_broader0 (rA := rA) hI qM, ?_⟩
  have hI2 := hI
  obtain ⟨h1, h2, hGA, hGM, hGL, hVE, hVS, hAC, hT, hH, hR, hW, hK⟩ := hI2
  have hhn : m_hn μ ≤ 60 := hGM.2.2.1
  have e1 : a_hn σ = m_hn μ := hH.1
  have e2 : a_lv σ = m_lv μ := hH.2.2.1
  rcases qA with ⟨n1, rfl⟩ | ⟨j, i, j1, j2, j3, rfl, hi, rfl, hB⟩
  · rcases qM with ⟨_, rfl, _⟩ | ⟨j, i, j1, j2, j3, j4, i1, i2, _⟩
    · rfl
    · exact absurd ⟨j, i, j1, by rw [e1]; exact j2, by rw [e2]; exact j3, j4, i1, i2⟩ n1
  · rcases qM with ⟨n1, _, _⟩ | ⟨j', i', k1, k2, k3, k4, k5, k6, D, _, hok, hcl, hBM⟩
    · exact absurd ⟨j, i, j1, by rw [← e1]; exact j2, by rw [← e2]; exact j3, rfl, hi, rfl⟩ n1
    · rw [e1] at j2
      have ej : j = j' := (nI_eq (by omega) (by omega)).mp k4
      have ei : i = i' := (nI_eq (by omega) (by omega)).mp k6
      rw [← ej] at hok
      rw [← ei] at hBM
      have hE : HED μ := fun i hi => ⟨⟨(hVE i hi).1.1, (hVE i hi).1.2.1⟩, ⟨(hVE i hi).2.1, (hVE i hi).2.2.1⟩⟩
      have key : ∀ k, k < 90 → ∀ g, (lsB (a_tg σ) j k g = true ↔ 1 ≤ g ∧ g ≤ m_hn μ ∧ D g = k + 1) := fun k hk g => by
        rw [lsB_t]
        exact (LS_D hI hN j1 j2 hok hcl k hk).2 g
      have eqB : ∀ k, k < 90 → ∀ g, 1 ≤ g → g ≤ m_hn μ → lsB (a_tg σ) j k g = lvB D (k + 1) g := fun k hk g g1 g2 => by
        have h3 := key k hk g
        cases e3 : lsB (a_tg σ) j k g
        · rw [e3] at h3
          unfold lvB
          exact (decide_eq_false (fun h4 => absurd (h3.mpr ⟨g1, g2, h4⟩) (by decide))).symm
        · rw [e3] at h3
          unfold lvB
          exact (decide_eq_true (h3.mp rfl).2.2).symm
      have cntE : ∀ k, k < 90 → ∀ f, f ≤ m_hn μ → cntP (lsB (a_tg σ) j k) f = cntP (lvB D (k + 1)) f := fun k hk f hf => cntP_congr (fun g g1 g2 => eqB k hk g g1 (by omega))
      have cnt60 : ∀ k, k < 90 → cntP (lsB (a_tg σ) j k) 60 = cntP (lvB D (k + 1)) (m_hn μ) := fun k hk => by
        rw [cntP_stop (P := lsB (a_tg σ) j k) hhn (fun g g1 g2 e => by have := ((key k hk g).mp e).2.1; omega)]
        exact cntE k hk _ (Nat.le_refl _)
      have cSE : ∀ k, k < 90 → cSa (a_tg σ) j k = cS D (m_hn μ) k := by
        intro k
        induction k with
        | zero => intro _; rfl
        | succ k ih =>
          intro hk
          simp only [cSa, cS]
          rw [ih (by omega), cnt60 k (by omega)]
      refine BRO_u (D := D) (n := m_hn μ) (i := i) (K := 59) (by decide) (fun f k f1 k1 e => ?_) ?_ hBM
      · have := D_lt hE hok hcl (h := f + 1) (by omega) (by omega) (by omega)
        omega
      · rcases hB with ⟨k, f, a1, a2, a3, a4, rfl⟩ | ⟨a1, rfl⟩
        · obtain ⟨b1, b2, b3⟩ := (key k (by omega) (f + 1)).mp a3
          exact Or.inl ⟨k, f, a1, by omega, b3, by rw [← cSE k (by omega), ← cntE k (by omega) f (by omega)]; exact a4, rfl⟩
        · exact Or.inr ⟨by rw [← cSE 59 (by omega)]; exact a1, rfl⟩
def INV8 (cl : Nat) (σ : SA) (μ : SM) : Prop := INV cl σ μ ∧ NS μ
