/-! the two pictures beside each other -/
def EDG (μ : SM) (q f g : Nat) : Prop := ∃ i, i < m_ln μ ∧ m_ls μ i = q ∧ m_lf μ i = f ∧ m_lt μ i = g
def RT (σ : SA) (μ : SM) : Prop := a_sn σ = m_sz μ ∧ a_sg σ = m_sd μ
def RH (σ : SA) (μ : SM) : Prop := a_hn σ = m_hn μ ∧ a_kd σ = m_kd μ ∧ a_lv σ = m_lv μ ∧ a_le σ = m_tx μ ∧ a_ln σ = m_zs μ
def RR (σ : SA) (μ : SM) : Prop := a_rn σ = m_rn μ ∧ a_rh σ = m_lk μ ∧ a_rd σ = m_rd μ
def RW (σ : SA) (μ : SM) : Prop := a_wn σ = m_wn μ ∧ ∀ j, j < a_wn σ → a_ws σ j = m_wy μ j
def is3 (q : Nat × Nat × Nat × Int64) : Bool := decide (q.1 = 3)
def l3 (μ : SM) : List (Nat × Nat × Int64) := ((lst4 (m_ls μ) (m_lf μ) (m_lt μ) (m_ld μ) (m_ln μ)).filter is3).map (fun q => q.2)
def RK (σ : SA) (μ : SM) : Prop := (∀ q f g, q < 4 → 1 ≤ f → f ≤ 60 → g < 64 → (bt6 (a_tg σ (q * 61 + f)) g = true ↔ EDG μ q f g)) ∧ lst (a_lf σ) (a_lt σ) (a_ld σ) (a_lc σ) = l3 μ
def VE (μ : SM) : Prop := ∀ i, i < m_ln μ → (1 ≤ m_lf μ i ∧ m_lf μ i ≤ m_hn μ ∧ m_lv μ (m_lf μ i) = 1) ∧ (1 ≤ m_lt μ i ∧ m_lt μ i ≤ m_hn μ ∧ m_lv μ (m_lt μ i) = 1)
def VS (μ : SM) : Prop := ∀ i j, i < m_ln μ → j < m_ln μ → m_ls μ i = 0 → m_ls μ j = 0 → m_lf μ i = m_lf μ j → m_lt μ i = m_lt μ j
def ACY (μ : SM) : Prop := ∀ n h, ¬ WLK μ 3 0 h (n + 1) h
def INV (cl : Nat) (σ : SA) (μ : SM) : Prop := a_lc σ ≤ cl ∧ m_ln μ ≤ cl ∧ GA σ ∧ GM μ ∧ GL μ ∧ VE μ ∧ VS μ ∧ ACY μ ∧ RT σ μ ∧ RH σ μ ∧ RR σ μ ∧ RW σ μ ∧ RK σ μ
theorem inv_skip {cl : Nat} {σ : SA} {μ : SM} (h : INV cl σ μ) : INV (cl + 1) σ μ := ⟨Nat.le_succ_of_le h.1, Nat.le_succ_of_le h.2.1, h.2.2⟩
theorem lst_mem {f g : Nat → Nat} {d : Nat → Int64} : ∀ {n : Nat} {e : Nat × Nat × Int64}, e ∈ lst f g d n ↔ ∃ j, j < n ∧ e = (f j, g j, d j) := by
  intro n
  induction n with
  | zero => intro e; simp [lst]
  | succ n ih =>
    intro e
    simp only [lst, List.mem_append, List.mem_singleton, ih]
    constructor
    · rintro (⟨j, h1, h2⟩ | h)
      · exact ⟨j, by omega, h2⟩
      · exact ⟨n, by omega, h⟩
    · rintro ⟨j, h1, h2⟩
      rcases Nat.lt_succ_iff_lt_or_eq.mp h1 with h3 | h3
      · exact Or.inl ⟨j, h3, h2⟩
      · rw [h3] at h2; exact Or.inr h2
theorem lst4_mem {q f g : Nat → Nat} {d : Nat → Int64} : ∀ {n : Nat} {e : Nat × Nat × Nat × Int64}, e ∈ lst4 q f g d n ↔ ∃ j, j < n ∧ e = (q j, f j, g j, d j) := by
  intro n
  induction n with
  | zero => intro e; simp [lst4]
  | succ n ih =>
    intro e
    simp only [lst4, List.mem_append, List.mem_singleton, ih]
    constructor
    · rintro (⟨j, h1, h2⟩ | h)
      · exact ⟨j, by omega, h2⟩
      · exact ⟨n, by omega, h⟩
    · rintro ⟨j, h1, h2⟩
      rcases Nat.lt_succ_iff_lt_or_eq.mp h1 with h3 | h3
      · exact Or.inl ⟨j, h3, h2⟩
      · rw [h3] at h2; exact Or.inr h2
theorem l3_mem {μ : SM} {e : Nat × Nat × Int64} : e ∈ l3 μ ↔ ∃ i, i < m_ln μ ∧ m_ls μ i = 3 ∧ e = (m_lf μ i, m_lt μ i, m_ld μ i) := by
  unfold l3
  simp only [List.mem_map, List.mem_filter, lst4_mem]
  constructor
  · rintro ⟨x, ⟨⟨i, h1, rfl⟩, h2⟩, rfl⟩
    exact ⟨i, h1, by simpa [is3] using h2, rfl⟩
  · rintro ⟨i, h1, h2, rfl⟩
    exact ⟨_, ⟨⟨i, h1, rfl⟩, by simp [is3, h2]⟩, rfl⟩
theorem rel_lt {σ : SA} {μ : SM} (hK : RK σ μ) (hV : VE μ) : ∀ j, j < a_lc σ → 1 ≤ a_lt σ j := fun j hj => by
  have h1 : (a_lf σ j, a_lt σ j, a_ld σ j) ∈ l3 μ := by rw [← hK.2]; exact lst_mem.mpr ⟨j, hj, rfl⟩
  obtain ⟨i, h2, _, h4⟩ := l3_mem.mp h1
  have h5 : a_lt σ j = m_lt μ i := congrArg (fun e => e.2.1) h4
  rw [h5]
  exact (hV i h2).2.1
noncomputable def rchB (μ : SM) (x h : Nat) : Bool := @decide (∃ n, WLK μ 3 0 x (n + 1) h) (Classical.propDecidable _)
theorem rchB_t {μ : SM} {x h : Nat} (e : ∃ n, WLK μ 3 0 x (n + 1) h) : rchB μ x h = true := by unfold rchB; exact @decide_eq_true _ (Classical.propDecidable _) e
theorem rchB_of {μ : SM} {x h : Nat} (e : rchB μ x h = true) : ∃ n, WLK μ 3 0 x (n + 1) h := by unfold rchB at e; exact @of_decide_eq_true _ (Classical.propDecidable _) e
noncomputable def rkM (μ : SM) (x : Nat) : Nat := cntP (rchB μ x) 60
theorem rkM_lt {μ : SM} (hV : VE μ) (hG : GM μ) (hA : ACY μ) : ∀ i, i < m_ln μ → m_ls μ i = 3 → rkM μ (m_lt μ i) < rkM μ (m_lf μ i) := fun i hi h3 => by
  have hn : m_hn μ ≤ 60 := hG.2.2.1
  have hv := hV i hi
  unfold rkM
  have key : ∀ j, rchB μ (m_lt μ i) j = true → rchB μ (m_lf μ i) j = true := fun j hj => by
    obtain ⟨n, w⟩ := rchB_of hj
    exact rchB_t ⟨n + 1, WLK_pre hi h3 rfl rfl w⟩
  have h1 : ¬ rchB μ (m_lt μ i) (m_lt μ i) = true := fun h => by
    obtain ⟨n, w⟩ := rchB_of h
    exact hA n _ w
  have h2 : rchB μ (m_lf μ i) (m_lt μ i) = true := rchB_t ⟨0, i, hi, h3, rfl, rfl⟩
  have := cntP_more key h1 h2 (n := 60) hv.2.1 (by omega)
  omega
theorem base_of {cl : Nat} {σ : SA} {μ : SM} (h : INV cl σ μ) (hc : 6 * cl + 6 ≤ 3072) : BASE σ μ := by
  obtain ⟨h1, h2, hGA, hGM, hGL, hVE, hVS, hAC, hT, hH, hR, hW, hK⟩ := h
  exact ⟨hGA, hGM, hGL, fun i hi => ⟨⟨(hVE i hi).1.1, (hVE i hi).1.2.1⟩, ⟨(hVE i hi).2.1, (hVE i hi).2.2.1⟩⟩, by omega, rel_lt hK hVE, ⟨rkM μ, rkM_lt hVE hGM hAC⟩, fun i hi => (hVE i hi).2.1⟩
theorem inv_0 : INV 0 sA0 sM0 := by
  refine ⟨by decide, by decide, ?_, ?_, fun j hj => absurd hj (Nat.not_lt_zero _), fun j hj => absurd hj (Nat.not_lt_zero _), fun i j hj => absurd hj (Nat.not_lt_zero _), ?_, ⟨rfl, rfl⟩, ⟨rfl, rfl, rfl, rfl, rfl⟩, ⟨rfl, rfl, rfl⟩, ⟨rfl, fun j hj => absurd hj (Nat.not_lt_zero _)⟩, ?_⟩
  · exact ⟨by decide, fun _ => by show 0 < 256; decide, by decide, fun _ => by show 0 < 256; decide, fun _ => by show 0 < 4; decide, fun _ => by show 0 < 2; decide, fun _ => by show 0 < 256; decide, fun _ => by show 0 ≤ 20; decide, by decide, fun _ => by show 0 ≤ 60; decide, fun _ => by show 0 ≤ 60; decide, by decide, fun _ => by show 0 ≤ 60; decide, by decide, fun _ => by show 0 ≤ 60; decide, by decide⟩
  · exact ⟨by decide, fun _ => by show 0 < 256; decide, by decide, fun _ => by show 0 < 4; decide, fun _ => by show 0 < 2; decide, fun _ => by show 0 < 128; decide, fun _ => by show 0 ≤ 20; decide, by decide, fun _ => by show 0 ≤ 60; decide, fun _ => by show 0 ≤ 60; decide, by decide, fun _ => by show 0 ≤ 60; decide, fun _ => by show 0 ≤ 60; decide, by decide, fun _ => by show 0 ≤ 100; decide, by decide⟩
  · rintro n h ⟨i, hi, _⟩
    exact absurd hi (Nat.not_lt_zero _)
  · refine ⟨fun q f g _ _ _ _ => ⟨fun h => ?_, fun ⟨i, hi, _⟩ => absurd hi (Nat.not_lt_zero _)⟩, rfl⟩
    have h2 : bt6 0 g = true := h
    rw [b6_0] at h2
    cases h2
theorem wlk_eq {μ ν : SM} {q ag x : Nat} (h1 : m_ln μ = m_ln ν) (h2 : m_ls μ = m_ls ν) (h3 : m_lf μ = m_lf ν) (h4 : m_lt μ = m_lt ν) : ∀ {n h : Nat}, WLK μ q ag x n h → WLK ν q ag x n h := by
  intro n
  induction n with
  | zero => intro h w; exact w
  | succ n ih =>
    intro h w
    obtain ⟨i, a1, a2, a3, a4⟩ := w
    refine ⟨i, by rw [← h1]; exact a1, by rw [← h2]; exact a2, ?_, ?_⟩
    · rw [← a3]; unfold ebM; rw [h3, h4]
    · have e : eaM μ ag i = eaM ν ag i := by unfold eaM; rw [h3, h4]
      rw [← e]; exact ih a4
theorem acy_eq {μ ν : SM} (h1 : m_ln ν = m_ln μ) (h2 : m_ls ν = m_ls μ) (h3 : m_lf ν = m_lf μ) (h4 : m_lt ν = m_lt μ) (h : ACY μ) : ACY ν := fun n x w => h n x (wlk_eq h1 h2 h3 h4 w)
/-- a number has one name -/
theorem nIu {a b : Nat} (h : nI a = nI b) (ha : a < 2 ^ 31) (hb : b < 2 ^ 31) : a = b := (nI_eq ha hb).mp h
theorem FST_u {P P' : Nat → Prop} {n : Nat} {r r' : Int32} (h : FST P n r) (h' : FST P' n r') (e : ∀ i, 1 ≤ i → i ≤ n → (P i ↔ P' i)) : r = r' := by
  rcases h with ⟨a, a1, a2, a3, a4, rfl⟩ | ⟨a1, rfl⟩
  · rcases h' with ⟨b, b1, b2, b3, b4, rfl⟩ | ⟨b1, rfl⟩
    · rcases Nat.lt_trichotomy a b with h | h | h
      · exact absurd ((e a a1 a2).mp a3) (b4 a a1 h)
      · rw [h]
      · exact absurd ((e b b1 b2).mpr b3) (a4 b b1 h)
    · exact absurd ((e a a1 a2).mp a3) (b1 a a1 a2)
  · rcases h' with ⟨b, b1, b2, b3, b4, rfl⟩ | ⟨b1, rfl⟩
    · exact absurd ((e b b1 b2).mpr b3) (a1 b b1 b2)
    · rfl
theorem tie_sign0 {cl : Nat} {σ σ2 : SA} {μ μ2 : SM} {x : Int32} (hI : INV cl σ μ) (qA : pA_sign σ x σ2) (qM : pM_sign μ x μ2) : INV (cl + 1) σ2 μ2 := by
  obtain ⟨h1, h2, hGA, hGM, hGL, hVE, hVS, hAC, hT, hH, hR, hW, hK⟩ := hI
  have hlb := lowB_lt x
  unfold pA_sign at qA
  unfold pM_sign at qM
  by_cases h : a_sn σ < 40
  · rw [if_pos h] at qA
    rw [if_pos (by rw [← hT.1]; exact h)] at qM
    subst qA
    subst qM
    refine ⟨Nat.le_succ_of_le h1, Nat.le_succ_of_le h2, GA_sn (GA_sg hGA (updN_lt hGA.2.1 hlb)) (by omega), GM_sz (GM_sd hGM (updN_lt hGM.2.1 hlb)) (by have := hT.1; omega), hGL, hVE, hVS, acy_eq (μ := μ) rfl rfl rfl rfl hAC, ⟨?_, ?_⟩, hH, hR, hW, hK⟩
    · show a_sn σ + 1 = m_sz μ + 1
      rw [hT.1]
    · show updN (a_sg σ) (a_sn σ) (lowB x) = updN (m_sd μ) (m_sz μ) (lowB x)
      rw [hT.1, hT.2]
  · rw [if_neg h] at qA
    rw [if_neg (by rw [← hT.1]; exact h)] at qM
    subst qA
    subst qM
    exact ⟨Nat.le_succ_of_le h1, Nat.le_succ_of_le h2, hGA, hGM, hGL, hVE, hVS, hAC, hT, hH, hR, hW, hK⟩
theorem tie_linked0 {cl : Nat} {σ : SA} {μ μ2 : SM} {x rA rM : Int32} (hI : INV cl σ μ) (qA : pA_linked σ x rA) (qM : pM_linked μ x rM μ2) : INV (cl + 1) σ μ2 ∧ rA = rM := by
  obtain ⟨rfl, qM⟩ := qM
  refine ⟨inv_skip hI, ?_⟩
  obtain ⟨h1, h2, hGA, hGM, hGL, hVE, hVS, hAC, hT, hH, hR, hW, hK⟩ := hI
  obtain ⟨e1, e2, e3⟩ := hR
  have hrn : a_rn σ ≤ 60 := hGA.2.2.2.2.2.2.2.2.2.2.2.2.2.1
  rcases qA with ⟨j, a1, a2, rfl, rfl⟩ | ⟨a1, rfl⟩
  · rcases qM with ⟨i, b1, b2, b3, rfl⟩ | ⟨b1, rfl⟩
    · rw [nIu b3 (by omega) (by omega), e2]
    · exact absurd ⟨j, a1, by omega, rfl⟩ b1
  · rcases qM with ⟨i, b1, b2, rfl, rfl⟩ | ⟨b1, rfl⟩
    · exact absurd ⟨i, b1, by omega, rfl⟩ a1
    · rfl
theorem tie_ring0 {cl : Nat} {σ : SA} {μ μ2 : SM} {x rA rM : Int32} (hI : INV cl σ μ) (qA : pA_ring σ x rA) (qM : pM_ring μ x rM μ2) : INV (cl + 1) σ μ2 ∧ rA = rM := by
  obtain ⟨rfl, qM⟩ := qM
  refine ⟨inv_skip hI, ?_⟩
  obtain ⟨h1, h2, hGA, hGM, hGL, hVE, hVS, hAC, hT, hH, hR, hW, hK⟩ := hI
  obtain ⟨e1, e2⟩ := hW
  have hwn : a_wn σ ≤ 60 := hGA.2.2.2.2.2.2.2.2.2.2.2.2.2.2.2
  rcases qA with ⟨j, a1, rfl, rfl⟩ | ⟨a1, rfl⟩
  · rcases qM with ⟨i, b1, b3, rfl⟩ | ⟨b1, rfl⟩
    · have := nIu b3 (by omega) (by omega)
      subst this
      rw [e2 j a1]
    · exact absurd ⟨j, by omega, rfl⟩ b1
  · rcases qM with ⟨i, b1, rfl, rfl⟩ | ⟨b1, rfl⟩
    · exact absurd ⟨i, by omega, rfl⟩ a1
    · rfl
theorem tie_letter0 {cl : Nat} {σ : SA} {μ μ2 : SM} {x y rA rM : Int32} (hI : INV cl σ μ) (qA : pA_letter σ x y rA) (qM : pM_letter μ x y rM μ2) : INV (cl + 1) σ μ2 ∧ rA = rM := by
  obtain ⟨rfl, qM⟩ := qM
  refine ⟨inv_skip hI, ?_⟩
  obtain ⟨h1, h2, hGA, hGM, hGL, hVE, hVS, hAC, hT, hH, hR, hW, hK⟩ := hI
  obtain ⟨e1, e2, e3, e4, e5⟩ := hH
  have hhn : a_hn σ ≤ 60 := hGA.2.2.2.2.2.2.2.2.1
  have hln := hGA.2.2.2.2.2.2.2.1
  rcases qA with ⟨j, i, a1, a2, a3, rfl, rfl, rfl⟩ | ⟨a1, rfl⟩
  · rcases qM with ⟨j', i', b1, b2, b3, b4, b5, rfl⟩ | ⟨b1, rfl⟩
    · have l1 := hln j
      have l2 := hln j'
      rw [e5] at l2
      have f1 := nIu b4 (by omega) (by omega)
      have f2 := nIu b5 (by omega) (by omega)
      subst f1
      subst f2
      rw [e4, Nat.mul_comm j 20]
    · exact absurd ⟨j, i, a1, by omega, by rw [← e5]; exact a3, rfl, rfl⟩ b1
  · rcases qM with ⟨j', i', b1, b2, b3, b4, b5, rfl⟩ | ⟨b1, rfl⟩
    · exact absurd ⟨j', i', b1, by omega, by rw [e5]; exact b3, b4, b5⟩ a1
    · rfl
