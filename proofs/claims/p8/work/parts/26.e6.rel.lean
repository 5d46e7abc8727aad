/-! used forms, records, forms on a day -/
theorem cntP_pos {P : Nat → Bool} {b n : Nat} (h : P b = true) (h1 : 1 ≤ b) (h2 : b ≤ n) : 1 ≤ cntP P n := by
  have h3 : cntP P (b - 1 + 1) ≤ cntP P n := cntP_up (by omega)
  rw [cntP_s1 (by rw [show b - 1 + 1 = b by omega]; exact h)] at h3
  omega
theorem used_eq {cl : Nat} {σ : SA} {μ : SM} {j v v0 : Nat} (hI : INV cl σ μ) (j1 : 1 ≤ j) (j2 : j ≤ 60) (hv : v ≤ 60) (hA : NTH (bt6 (a_tg σ (0 * 61 + j))) 60 0 (nI v)) (hM : (∃ i, i < m_ln μ ∧ isL μ i 0 j 0 ∧ (∀ k, k < i → ¬ isL μ k 0 j 0) ∧ v0 = m_lt μ i) ∨ ((∀ i, i < m_ln μ → ¬ isL μ i 0 j 0) ∧ v0 = j)) : (if v = 0 then j else v) = v0 := by
  obtain ⟨h1, h2, hGA, hGM, hGL, hVE, hVS, hAC, hT, hH, hR, hW, hK⟩ := hI
  have hhn : m_hn μ ≤ 60 := hGM.2.2.1
  rcases hA with ⟨h, a1, a2, a3, a4⟩ | ⟨a1, a4⟩
  · have e := nIu a4 (by omega) (by omega)
    obtain ⟨i0, b1, b2, b3, b4⟩ := (hK.1 0 j (h + 1) (by decide) j1 j2 (by omega)).mp a2
    rw [if_neg (by omega)]
    rcases hM with ⟨i, c1, c2, c3, rfl⟩ | ⟨c1, _⟩
    · rw [e, ← b4]
      exact hVS i0 i b1 c1 b2 c2.1 (by rw [b3]; rcases c2.2.1 with z | z; omega; exact z.symm)
    · exact absurd ⟨b2, Or.inr b3, Or.inl rfl⟩ (c1 i0 b1)
  · have e := nIu a4 (by omega) (by omega)
    rw [if_pos e]
    rcases hM with ⟨i, c1, c2, c3, rfl⟩ | ⟨_, rfl⟩
    · have hv := hVE i c1
      have hb : bt6 (a_tg σ (0 * 61 + j)) (m_lt μ i) = true := (hK.1 0 j (m_lt μ i) (by decide) j1 j2 (by have := hv.2.2.1; omega)).mpr ⟨i, c1, c2.1, by rcases c2.2.1 with z | z; omega; exact z, rfl⟩
      have := cntP_pos (n := 60) hb hv.2.1 (by have := hv.2.2.1; omega)
      omega
    · rfl
theorem tie_record0 {cl : Nat} {σ σ2 : SA} {μ μ2 : SM} {x rA rM : Int32} {d : Int64} (hI : INV cl σ μ) (qA : pA_record σ x d rA σ2) (qM : pM_record μ x d rM μ2) : INV (cl + 1) σ2 μ2 ∧ rA = rM := by
  have hI0 := hI
  obtain ⟨h1, h2, hGA, hGM, hGL, hVE, hVS, hAC, hT, hH, hR, hW, hK⟩ := hI
  obtain ⟨e1, e2, e3, e4, e5⟩ := id hH
  obtain ⟨r1, r2, r3⟩ := id hR
  have hhn : a_hn σ ≤ 60 := hGA.2.2.2.2.2.2.2.2.1
  rcases qA with ⟨a1, rfl, rfl⟩ | ⟨j, j1, j2, j3, rfl, qA⟩
  · rcases qM with ⟨_, rfl, rfl⟩ | ⟨i, i1, i2, i3, i4, _⟩
    · exact ⟨inv_skip hI0, rfl⟩
    · exact absurd ⟨i, i1, by omega, by rw [e3]; exact i3, i4⟩ a1
  · rcases qM with ⟨b1, _⟩ | ⟨i, i1, i2, i3, i4, qM⟩
    · exact absurd ⟨j, j1, by omega, by rw [← e3]; exact j3, rfl⟩ b1
    · have h9 := nIu i4 (by omega) (by omega)
      subst h9
      rcases qA with ⟨c1, rfl, rfl⟩ | ⟨c1, rfl, v, v1, v2, rfl⟩
      · rcases qM with ⟨_, rfl, rfl⟩ | ⟨d1, _⟩
        · exact ⟨inv_skip hI0, rfl⟩
        · omega
      · rcases qM with ⟨d1, _⟩ | ⟨_, rfl, v0, w1, w2, rfl⟩
        · omega
        · have hu := used_eq hI0 j1 (by omega) v1 v2 w1
          rw [hu]
          refine ⟨⟨Nat.le_succ_of_le h1, Nat.le_succ_of_le h2, GA_rn (GA_rd (GA_rh hGA (updN_le hGA.2.2.2.2.2.2.2.2.2.2.2.2.1 w2))) (by omega), GM_rd (GM_lk (GM_rn hGM (by omega)) (updN_le hGM.2.2.2.2.2.2.2.2.2.2.2.1 w2)), hGL, hVE, hVS, acy_eq (μ := μ) rfl rfl rfl rfl hAC, hT, hH, ⟨?_, ?_, ?_⟩, hW, hK⟩, by rw [r1]⟩
          · show a_rn σ + 1 = m_rn μ + 1
            rw [r1]
          · show updN (a_rh σ) (a_rn σ + 1) v0 = updN (m_lk μ) (m_rn μ + 1) v0
            rw [r1, r2]
          · show vp_updL (a_rd σ) (a_rn σ + 1) d = vp_updL (m_rd μ) (m_rn μ + 1) d
            rw [r1, r3]
/-- the latest link of a list that counts on a day -/
def BLS (Ls : List (Nat × Nat × Int64)) (h : Nat) (day : Int64) (p : Nat × Nat × Int64) : Prop := ∃ A B, Ls = A ++ p :: B ∧ p.1 = h ∧ p.2.2 ≤ day ∧ (∀ a ∈ A, a.1 = h → a.2.2 ≤ day → a.2.2 < p.2.2) ∧ ∀ b ∈ B, b.1 = h → b.2.2 ≤ day → b.2.2 ≤ p.2.2
theorem BLS_u {Ls : List (Nat × Nat × Int64)} {h : Nat} {day : Int64} {p p' : Nat × Nat × Int64} (h1 : BLS Ls h day p) (h2 : BLS Ls h day p') : p = p' := by
  obtain ⟨A, B, e, a1, a2, a3, a4⟩ := h1
  obtain ⟨A', B', e', b1, b2, b3, b4⟩ := h2
  rw [e] at e'
  rcases List.append_eq_append_iff.mp e' with ⟨C, c1, c2⟩ | ⟨C, c1, c2⟩
  · cases C with
    | nil => simp at c2; exact c2.1
    | cons c C =>
      simp only [List.cons_append, List.cons.injEq] at c2
      obtain ⟨rfl, c3⟩ := c2
      have f1 := b3 p (by rw [c1]; simp) a1 a2
      have f2 := a4 p' (by rw [c3]; simp) b1 b2
      exact absurd f1 (Int64.not_lt.mpr f2)
  · cases C with
    | nil => simp at c2; exact c2.1.symm
    | cons c C =>
      simp only [List.cons_append, List.cons.injEq] at c2
      obtain ⟨rfl, c3⟩ := c2
      have f1 := a3 p' (by rw [c1]; simp) b1 b2
      have f2 := b4 p (by rw [c3]; simp) a1 a2
      exact absurd f1 (Int64.not_lt.mpr f2)
theorem lst_split {f g : Nat → Nat} {d : Nat → Int64} {b : Nat} : ∀ {n : Nat}, b < n → ∃ B, lst f g d n = lst f g d b ++ (f b, g b, d b) :: B ∧ ∀ e ∈ B, ∃ j, j < n ∧ e = (f j, g j, d j) := by
  intro n
  induction n with
  | zero => intro h; omega
  | succ n ih =>
    intro h
    rcases Nat.lt_succ_iff_lt_or_eq.mp h with h1 | h1
    · obtain ⟨B, e1, e2⟩ := ih h1
      refine ⟨B ++ [(f n, g n, d n)], by simp only [lst]; rw [e1]; simp, fun e he => ?_⟩
      rcases List.mem_append.mp he with h2 | h2
      · obtain ⟨j, h3, h4⟩ := e2 e h2
        exact ⟨j, by omega, h4⟩
      · exact ⟨n, by omega, List.mem_singleton.mp h2⟩
    · subst h1
      exact ⟨[], rfl, fun e he => by cases he⟩
theorem lst4_split {q f g : Nat → Nat} {d : Nat → Int64} {b : Nat} : ∀ {n : Nat}, b < n → ∃ B, lst4 q f g d n = lst4 q f g d b ++ (q b, f b, g b, d b) :: B ∧ ∀ e ∈ B, ∃ j, j < n ∧ e = (q j, f j, g j, d j) := by
  intro n
  induction n with
  | zero => intro h; omega
  | succ n ih =>
    intro h
    rcases Nat.lt_succ_iff_lt_or_eq.mp h with h1 | h1
    · obtain ⟨B, e1, e2⟩ := ih h1
      refine ⟨B ++ [(q n, f n, g n, d n)], by simp only [lst4]; rw [e1]; simp, fun e he => ?_⟩
      rcases List.mem_append.mp he with h2 | h2
      · obtain ⟨j, h3, h4⟩ := e2 e h2
        exact ⟨j, by omega, h4⟩
      · exact ⟨n, by omega, List.mem_singleton.mp h2⟩
    · subst h1
      exact ⟨[], rfl, fun e he => by cases he⟩
theorem bst_A {f g : Nat → Nat} {d : Nat → Int64} {n h b : Nat} {day : Int64} (q : BST f d n h day b) : BLS (lst f g d n) h day (f b, g b, d b) := by
  obtain ⟨B, e1, e2⟩ := lst_split (f := f) (g := g) (d := d) q.1
  refine ⟨_, B, e1, q.2.1, q.2.2.1, fun a ha h1 h2 => ?_, fun a ha h1 h2 => ?_⟩
  · obtain ⟨j, h3, rfl⟩ := lst_mem.mp ha
    exact q.2.2.2.2 j h3 h1 h2
  · obtain ⟨j, h3, rfl⟩ := e2 a ha
    exact q.2.2.2.1 j h3 h1 h2
theorem bst_M {μ : SM} {h b : Nat} {day : Int64} (hh : h ≤ 60) (q : BST (lf3 μ) (m_ld μ) (m_ln μ) h day b) : BLS (l3 μ) h day (m_lf μ b, m_lt μ b, m_ld μ b) := by
  obtain ⟨B, e1, e2⟩ := lst4_split (q := m_ls μ) (f := m_lf μ) (g := m_lt μ) (d := m_ld μ) q.1
  obtain ⟨s3, sf⟩ := lf3_3 hh q.2.1
  refine ⟨((lst4 (m_ls μ) (m_lf μ) (m_lt μ) (m_ld μ) b).filter is3).map (fun q => q.2), (B.filter is3).map (fun q => q.2), ?_, sf, q.2.2.1, fun a ha h1 h2 => ?_, fun a ha h1 h2 => ?_⟩
  · unfold l3
    rw [e1, List.filter_append, List.map_append, List.filter_cons, if_pos (by simp [is3, s3])]
    rfl
  · simp only [List.mem_map, List.mem_filter, lst4_mem] at ha
    obtain ⟨e, ⟨⟨j, h3, rfl⟩, h4⟩, rfl⟩ := ha
    have h5 : m_ls μ j = 3 := by simpa [is3] using h4
    exact q.2.2.2.2 j h3 (by unfold lf3; rw [if_pos h5]; exact h1) h2
  · simp only [List.mem_map, List.mem_filter] at ha
    obtain ⟨e, ⟨h6, h4⟩, rfl⟩ := ha
    obtain ⟨j, h3, rfl⟩ := e2 e h6
    have h5 : m_ls μ j = 3 := by simpa [is3] using h4
    exact q.2.2.2.1 j h3 (by unfold lf3; rw [if_pos h5]; exact h1) h2
/-- k steps on a list -/
def CHL (Ls : List (Nat × Nat × Int64)) (day : Int64) : Nat → Nat → Nat → Prop
  | 0, x, v => x = v
  | k + 1, x, v => ∃ w, CHL Ls day k x w ∧ ∃ p, BLS Ls w day p ∧ v = p.2.1
theorem CHL_u {Ls : List (Nat × Nat × Int64)} {day : Int64} {x : Nat} : ∀ {k v v' : Nat}, CHL Ls day k x v → CHL Ls day k x v' → v = v' := by
  intro k
  induction k with
  | zero => intro v v' h h'; exact h.symm.trans h'
  | succ k ih =>
    rintro v v' ⟨w, h1, p, h2, rfl⟩ ⟨w', h1', p', h2', rfl⟩
    have e := ih h1 h1'
    subst e
    rw [BLS_u h2 h2']
theorem CHL_mid {Ls : List (Nat × Nat × Int64)} {day : Int64} {x k : Nat} : ∀ {k' v' : Nat}, k < k' → CHL Ls day k' x v' → ∃ w p, CHL Ls day k x w ∧ BLS Ls w day p := by
  intro k'
  induction k' with
  | zero => intro v' h; omega
  | succ k' ih =>
    rintro v' h ⟨w, h1, p, h2, rfl⟩
    rcases Nat.lt_succ_iff_lt_or_eq.mp h with h3 | h3
    · exact ih h3 h1
    · rw [h3]; exact ⟨w, p, h1, h2⟩
theorem frm_A {f g : Nat → Nat} {d : Nat → Int64} {n x : Nat} {day : Int64} : ∀ {k v : Nat}, FRM f g d n day k x v → CHL (lst f g d n) day k x v := by
  intro k
  induction k with
  | zero => intro v h; exact h
  | succ k ih =>
    rintro v ⟨w, h1, b, h2, rfl⟩
    exact ⟨w, ih h1, _, bst_A h2, rfl⟩
theorem frm_M {μ : SM} {x : Nat} {day : Int64} (hx : x ≤ 60) (hl : ∀ j, m_lt μ j ≤ 60) {rk : Nat → Nat} (hrk : ∀ i, i < m_ln μ → m_ls μ i = 3 → rk (m_lt μ i) < rk (m_lf μ i)) : ∀ {k v : Nat}, FRM (lf3 μ) (m_lt μ) (m_ld μ) (m_ln μ) day k x v → CHL (l3 μ) day k x v ∧ v ≤ 60 ∧ rk v + k ≤ rk x := by
  intro k
  induction k with
  | zero => intro v h; rw [← show x = v from h]; exact ⟨rfl, hx, Nat.le_refl _⟩
  | succ k ih =>
    rintro v ⟨w, h1, b, h2, rfl⟩
    obtain ⟨c1, c2, c3⟩ := ih h1
    obtain ⟨s3, sf⟩ := lf3_3 c2 h2.2.1
    have h4 := hrk b h2.1 s3
    rw [sf] at h4
    exact ⟨⟨w, c1, _, bst_M c2 h2, rfl⟩, hl b, by omega⟩
theorem nob_A {f g : Nat → Nat} {d : Nat → Int64} {n h : Nat} {day : Int64} (q : NOB f d n h day) : ∀ p, ¬ BLS (lst f g d n) h day p := fun p ⟨A, B, e, h1, h2, _⟩ => by
  have hp : p ∈ lst f g d n := by rw [e]; simp
  obtain ⟨j, h3, rfl⟩ := lst_mem.mp hp
  exact q j h3 ⟨h1, h2⟩
theorem nob_M {μ : SM} {h : Nat} {day : Int64} (q : NOB (lf3 μ) (m_ld μ) (m_ln μ) h day) : ∀ p, ¬ BLS (l3 μ) h day p := fun p ⟨A, B, e, h1, h2, _⟩ => by
  have hp : p ∈ l3 μ := by rw [e]; simp
  obtain ⟨j, h3, h4, rfl⟩ := l3_mem.mp hp
  exact q j h3 ⟨by unfold lf3; rw [if_pos h4]; exact h1, h2⟩
theorem rkM_59 {μ : SM} (hA : ACY μ) {x : Nat} (h1 : 1 ≤ x) (h2 : x ≤ 60) : rkM μ x ≤ 59 := by
  have hno : ¬ rchB μ x x = true := fun h => by
    obtain ⟨n, w⟩ := rchB_of h
    exact hA n x w
  have h3 := cntP_more (P := rchB μ x) (Q := fun _ => true) (fun _ _ => rfl) hno rfl (n := 60) h1 h2
  have h4 := cntP_le (fun _ => true) 60
  unfold rkM
  omega
theorem form_eq {cl : Nat} {σ : SA} {μ : SM} {x k v k' v' : Nat} {day : Int64} (hI : INV cl σ μ) (x1 : 1 ≤ x) (x2 : x ≤ 60) (fA : FRM (a_lf σ) (a_lt σ) (a_ld σ) (a_lc σ) day k x v) (eA : k = 60 ∨ NOB (a_lf σ) (a_ld σ) (a_lc σ) v day) (fM : FRM (lf3 μ) (m_lt μ) (m_ld μ) (m_ln μ) day k' x v') (eM : NOB (lf3 μ) (m_ld μ) (m_ln μ) v' day) : v = v' := by
  obtain ⟨h1, h2, hGA, hGM, hGL, hVE, hVS, hAC, hT, hH, hR, hW, hK⟩ := hI
  have cA := frm_A fA
  obtain ⟨cM, _, hr⟩ := frm_M x2 hGM.2.2.2.2.2.2.2.2.2.1 (rkM_lt hVE hGM hAC) fM
  have h59 := rkM_59 hAC x1 x2
  rw [hK.2] at cA
  rcases Nat.lt_trichotomy k k' with h | h | h
  · rcases eA with eA | eA
    · omega
    · obtain ⟨w, p, a1, a2⟩ := CHL_mid h cM
      rw [CHL_u a1 cA] at a2
      rw [← hK.2] at a2
      exact absurd a2 (nob_A eA p)
  · subst h
    exact CHL_u cA cM
  · obtain ⟨w, p, a1, a2⟩ := CHL_mid h cA
    rw [CHL_u a1 cM] at a2
    exact absurd a2 (nob_M eM p)
theorem tie_form0 {cl : Nat} {σ : SA} {μ μ2 : SM} {x rA rM : Int32} {d : Int64} (hI : INV cl σ μ) (qA : pA_form σ x d rA) (qM : pM_form μ x d rM μ2) : INV (cl + 1) σ μ2 ∧ rA = rM := by
  obtain ⟨rfl, qM⟩ := qM
  refine ⟨inv_skip hI, ?_⟩
  have hI0 := hI
  obtain ⟨h1, h2, hGA, hGM, hGL, hVE, hVS, hAC, hT, hH, hR, hW, hK⟩ := hI
  obtain ⟨e1, e2, e3, e4, e5⟩ := hH
  have hhn : a_hn σ ≤ 60 := hGA.2.2.2.2.2.2.2.2.1
  rcases qA with ⟨a1, rfl⟩ | ⟨j, j1, j2, j3, rfl, k, v, k1, k2, rfl, k4, k5⟩
  · rcases qM with ⟨_, rfl⟩ | ⟨i, i1, i2, i3, i4, _⟩
    · rfl
    · exact absurd ⟨i, i1, by omega, by rw [e3]; exact i3, i4⟩ a1
  · rcases qM with ⟨b1, _⟩ | ⟨i, i1, i2, i3, i4, k', v', m1, m2, rfl, m4, m5⟩
    · exact absurd ⟨j, j1, by omega, by rw [← e3]; exact j3, rfl⟩ b1
    · have h9 := nIu i4 (by omega) (by omega)
      subst h9
      rw [form_eq hI0 j1 (by omega) k4 k5 m4 m5]
theorem tie_shown0 {cl : Nat} {σ : SA} {μ μ2 : SM} {x rA rM : Int32} {d : Int64} (hI : INV cl σ μ) (qA : pA_shown σ x d rA) (qM : pM_shown μ x d rM μ2) : INV (cl + 1) σ μ2 ∧ rA = rM := by
  obtain ⟨rfl, qM⟩ := qM
  refine ⟨inv_skip hI, ?_⟩
  have hI0 := hI
  obtain ⟨h1, h2, hGA, hGM, hGL, hVE, hVS, hAC, hT, hH, hR, hW, hK⟩ := hI
  obtain ⟨e1, e2, e3, e4, e5⟩ := hH
  have hhn : a_hn σ ≤ 60 := hGA.2.2.2.2.2.2.2.2.1
  rcases qA with ⟨a1, rfl⟩ | ⟨j, j1, j2, j3, rfl, v0, v1, v2, k, v, k1, k2, rfl, k4, k5⟩
  · rcases qM with ⟨_, rfl⟩ | ⟨i, i1, i2, i3, i4, _⟩
    · rfl
    · exact absurd ⟨i, i1, by omega, by rw [e3]; exact i3, i4⟩ a1
  · rcases qM with ⟨b1, _⟩ | ⟨i, i1, i2, i3, i4, w0, w1, k', v', m1, m2, rfl, m4, m5⟩
    · exact absurd ⟨j, j1, by omega, by rw [← e3]; exact j3, rfl⟩ b1
    · have h9 := nIu i4 (by omega) (by omega)
      subst h9
      have hu := used_eq hI0 j1 (by omega) v1 v2 w1
      rw [hu] at k4
      have hw : 1 ≤ w0 ∧ w0 ≤ 60 := by
        rcases w1 with ⟨i, c1, _, _, rfl⟩ | ⟨_, rfl⟩
        · have := hVE i c1
          exact ⟨this.2.1, by have := this.2.2.1; omega⟩
        · exact ⟨j1, by omega⟩
      rw [form_eq hI0 hw.1 hw.2 k4 k5 m4 m5]
