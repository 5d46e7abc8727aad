/-- no link goes further than one -/
def DCL (σ : SM) (q ag : Nat) (D : Nat → Nat) : Prop := ∀ i, i < m_ln σ → m_ls σ i = q → D (ebM σ ag i) ≤ D (eaM σ ag i) + 1
theorem DCL_le {σ : SM} {q ag x : Nat} {D : Nat → Nat} (h0 : D x = 0) (hc : DCL σ q ag D) : ∀ {n h : Nat}, WLK σ q ag x n h → D h ≤ n := by
  intro n
  induction n with
  | zero => intro h w; rw [show h = x from w, h0]; exact Nat.le_refl 0
  | succ n ih =>
    intro h w
    obtain ⟨i, h1, h2, h3, h4⟩ := w
    have e1 := hc i h1 h2
    have e2 := ih h4
    rw [h3] at e1
    omega
def HED (σ : SM) : Prop := ∀ i, i < m_ln σ → (1 ≤ m_lf σ i ∧ m_lf σ i ≤ m_hn σ) ∧ (1 ≤ m_lt σ i ∧ m_lt σ i ≤ m_hn σ)
theorem ea_in {σ : SM} (hE : HED σ) {ag i : Nat} (hi : i < m_ln σ) : 1 ≤ eaM σ ag i ∧ eaM σ ag i ≤ m_hn σ := by
  unfold eaM
  split
  · exact (hE i hi).1
  · exact (hE i hi).2
/-- one link back, the distance is one less -/
theorem D_back {σ : SM} {q ag x : Nat} {D : Nat → Nat} (hE : HED σ) (hok : DOK σ q ag x D) (hc : DCL σ q ag D) {h m : Nat} (h1 : 1 ≤ h) (h2 : h ≤ m_hn σ) (hm : D h = m + 1) (h100 : m + 1 < 100) : ∃ i, i < m_ln σ ∧ m_ls σ i = q ∧ ebM σ ag i = h ∧ D (eaM σ ag i) = m := by
  have w := hok.2.2 h h1 h2 (by omega)
  rw [hm] at w
  obtain ⟨i, e1, e2, e3, e4⟩ := w
  refine ⟨i, e1, e2, e3, ?_⟩
  have f1 := DCL_le hok.2.1 hc e4
  have f2 := hc i e1 e2
  rw [e3, hm] at f2
  omega
theorem D_all {σ : SM} {q ag x : Nat} {D : Nat → Nat} (hE : HED σ) (hok : DOK σ q ag x D) (hc : DCL σ q ag D) : ∀ {n h : Nat}, 1 ≤ h → h ≤ m_hn σ → D h = n → n < 100 → ∀ m, m ≤ n → ∃ g, 1 ≤ g ∧ g ≤ m_hn σ ∧ D g = m := by
  intro n
  induction n with
  | zero => intro h h1 h2 hn _ m hm; exact ⟨h, h1, h2, by omega⟩
  | succ n ih =>
    intro h h1 h2 hn h100 m hm
    rcases Nat.lt_or_ge m (n + 1) with hl | hl
    · obtain ⟨i, e1, _, _, e4⟩ := D_back hE hok hc h1 h2 hn (by omega)
      have e5 := ea_in hE (ag := ag) e1
      exact ih e5.1 e5.2 e4 (by omega) m (by omega)
    · exact ⟨h, h1, h2, by omega⟩
theorem cntP_le (P : Nat → Bool) : ∀ n, cntP P n ≤ n := by
  intro n
  induction n with
  | zero => exact Nat.le_refl 0
  | succ n ih => simp only [cntP]; split <;> omega
theorem cntP_mono {P Q : Nat → Bool} (h : ∀ j, P j = true → Q j = true) : ∀ n, cntP P n ≤ cntP Q n := by
  intro n
  induction n with
  | zero => exact Nat.le_refl 0
  | succ n ih =>
    simp only [cntP]
    by_cases e : P (n + 1) = true
    · rw [if_pos e, if_pos (h _ e)]; omega
    · rw [if_neg e]; split <;> omega
theorem cntP_more {P Q : Nat → Bool} (h : ∀ j, P j = true → Q j = true) {b : Nat} (hp : ¬ P b = true) (hq : Q b = true) : ∀ {n}, 1 ≤ b → b ≤ n → cntP P n + 1 ≤ cntP Q n := by
  intro n
  induction n with
  | zero => intro h1 h2; omega
  | succ n ih =>
    intro h1 h2
    simp only [cntP]
    by_cases e : b = n + 1
    · subst e
      rw [if_neg hp, if_pos hq]
      have := cntP_mono h n
      omega
    · have := ih h1 (by omega)
      by_cases e2 : P (n + 1) = true
      · rw [if_pos e2, if_pos (h _ e2)]; omega
      · rw [if_neg e2]; split <;> omega
/-- distances are below the number of headings -/
theorem D_lt {σ : SM} {q ag x : Nat} {D : Nat → Nat} (hE : HED σ) (hok : DOK σ q ag x D) (hc : DCL σ q ag D) {h : Nat} (h1 : 1 ≤ h) (h2 : h ≤ m_hn σ) (h100 : D h < 100) : D h < m_hn σ := by
  have key : ∀ m, m ≤ D h → m + 1 ≤ cntP (fun g => decide (D g ≤ m)) (m_hn σ) := by
    intro m
    induction m with
    | zero =>
      intro _
      obtain ⟨g, g1, g2, g3⟩ := D_all hE hok hc h1 h2 rfl h100 0 (Nat.zero_le _)
      have e0 : ∀ n, cntP (fun _ => false) n = 0 := by
        intro n
        induction n with
        | zero => rfl
        | succ n ih => simp [cntP, ih]
      have := cntP_more (P := fun _ => false) (Q := fun g => decide (D g ≤ 0)) (fun j h => by cases h) (b := g) (by decide) (by rw [g3]; decide) g1 g2
      rw [e0] at this
      omega
    | succ m ih =>
      intro hm
      obtain ⟨g, g1, g2, g3⟩ := D_all hE hok hc h1 h2 rfl h100 (m + 1) hm
      have := cntP_more (P := fun g => decide (D g ≤ m)) (Q := fun g => decide (D g ≤ m + 1)) (fun j h => by simp only [decide_eq_true_eq] at h ⊢; omega) (b := g) (by simp only [decide_eq_true_eq]; omega) (by simp only [decide_eq_true_eq]; omega) g1 g2
      have := ih (by omega)
      omega
  have e1 := key (D h) (Nat.le_refl _)
  have e2 := cntP_le (fun g => decide (D g ≤ D h)) (m_hn σ)
  omega
def nxP (σ : SM) (q : Nat) (D : Nat → Nat) (v h : Nat) : Prop := D h = D v - 1 ∧ ∃ i, i < m_ln σ ∧ isL σ i q v h
def LST (P : Nat → Prop) (n h : Nat) : Prop := 1 ≤ h ∧ h ≤ n ∧ P h ∧ ∀ g, 1 ≤ g → g < h → ¬ P g
def WYS (σ : SM) (q x z : Nat) (D Y : Nat → Nat) : Prop := DOK σ q 1 z D ∧ DCL σ q 1 D ∧ D x ≤ 59 ∧ Y 0 = x ∧ (∀ j, Y j ≤ 60) ∧ ∀ k, k < D x → D (Y k) + k = D x ∧ LST (nxP σ q D (Y k)) (m_hn σ) (Y (k + 1))
theorem wy_s {σ : SM} {q x k v nx : Nat} {D Y : Nat → Nat} (hYs : ∀ j, j + 1 < k → D (Y j) + j = D x ∧ LST (nxP σ q D (Y j)) (m_hn σ) (Y (j + 1))) (hk : 1 ≤ k) (hYk : Y (k - 1) = v) (hkD : k + D v = D x + 1) (_hv0 : 1 ≤ D v) (hnx : LST (nxP σ q D v) (m_hn σ) nx) : ∀ j, j + 1 < k + 1 → D (updN Y k nx j) + j = D x ∧ LST (nxP σ q D (updN Y k nx j)) (m_hn σ) (updN Y k nx (j + 1)) := by
  intro j hj
  rcases Nat.lt_or_ge (j + 1) k with h8 | h8
  · rw [updN_n (by omega), updN_n (by omega)]
    exact hYs j h8
  · have h7 : k = j + 1 := by omega
    subst h7
    have h6 : Y j = v := hYk
    rw [updN_n (by omega), updN_s, h6]
    exact ⟨by omega, hnx⟩
set_option maxRecDepth 100000 in
set_option maxHeartbeats 4000000 in
theorem c_M_ways (l : Launch) (dC : Nat → ClassId) (dI : Nat → Nat → Nat) (a : Nat → Nat) (t : Nat → ClassId) (σ : SM) (sz : Nat) (hG : GM σ) (hL : GL σ) (q x z : Nat) (hq : q < 4) (hx1 : 1 ≤ x) (hx2 : x ≤ m_hn σ) (hz1 : 1 ≤ z) (hz2 : z ≤ m_hn σ) (hE : HED σ) (hw : ∃ n, n < 100 ∧ WLK σ q 1 z n x) : Met l y_M_ways (wS y_M_ways b_M_ways 7 none) (rD 2) (va_Pc [.ref (a 0), .int (nI q), .int (nI x), .int (nI z)] (MB (dC, dI) (yM t) (wM a t σ) sz)) (va_Qv (fun u : SM => ∃ D Y, u = mu_di (mu_wn (mu_wy σ Y) (D x + 1)) D ∧ WYS σ q x z D Y) (fun u => ME (dC, dI) (yM t) (va_A (wM a t σ) sz) (wM a t u)) (va_A (wM a t σ) sz)) 0 0 (va_A (wM a t σ) sz) := by
  refine x_enter (by decide) (Nat.le_of_ble_eq_true rfl) ?_
  intro p e s m below meth c ls hx hb hr hml hT hown hlk hnm hl hB
  obtain ⟨rfl, hP, hK, hN, hD0⟩ := hB
  have hD := hD0.self (sz := s.heap.size)
  generalize hAe : va_A (wM a t σ) s.heap.size = A at hD ⊢
  have hA : ∀ q : Nat, s.heap.size ≤ q → A q := fun q h => by rw [← hAe]; exact Or.inr h
  have hS : va_S A s.heap s.heap [] := va_S.rf
  have hP : va_P (dC, dI) classes (wM a t σ) s.heap := hP
  have hl : lv_has ls 7 [(0, .ref (a 0)), (1, .int (nI q)), (2, .int (nI x)), (3, .int (nI z))] := hl
  have hown : s.vm.findClass R_M = some m.cls := hown
  have hG2 := hG
  obtain ⟨g_sz, g_sd, g_hn, g_kd, g_lv, g_tx, g_zs, g_ln, g_lf, g_lt, g_rn, g_lk, g_wy, g_wn, g_di, g_co⟩ := hG
  refine lv_aload_n hx hb d_M_ways_0 rfl (lv_at hl 0 rfl) ?_
  refine lv_iload_n hx hb d_M_ways_1 rfl (lv_at hl 1 rfl) ?_
  refine lv_iload_n hx hb d_M_ways_2 rfl (lv_at hl 3 rfl) ?_
  refine lv_iconst (v := nI 1) hx hb d_M_ways_3 (by decide) ?_
  refine x_cMv (wl := wM a t) (x_runV ⟨hx, hb, hml, hown, hT⟩ (c_M_measure l dC dI a t σ s.heap.size hG2 hL q z 1 hq hz1 hz2 (by omega) hE) f_M_measure k_M_104 blM (va_recv hK hP (ci := 7) (q0 := 0) rfl rfl) (x_bM hK hP hN hD) hl.1 d_M_ways_4 rfl (lv_room (Nat.le_of_ble_eq_true rfl)) ⟨Nat.le_of_ble_eq_true rfl, Nat.le_of_ble_eq_true rfl⟩ ⟨rfl, rfl⟩ ⟨Nat.le_refl 0, Nat.le_refl 0⟩ rfl) hD hS hA (fun u4 H locs q4 hP hD hS => ?_)
  obtain ⟨D, rfl, hok, hcl⟩ := q4
  have hcl : DCL σ q 1 D := hcl
  have hDx : D x < 100 := by obtain ⟨n, h1, h2⟩ := hw; have := DCL_le hok.2.1 hcl h2; omega
  have hD59 := D_lt hE hok hcl hx1 hx2 hDx
  refine lv_iload_n hx hb d_M_ways_7 rfl (lv_at hl 2 rfl) ?_
  refine lv_istore (lv' := [(4, .int (nI x)), (0, .ref (a 0)), (1, .int (nI q)), (2, .int (nI x)), (3, .int (nI z))]) hx hb d_M_ways_8 hl (by decide) rfl (fun ls hl => ?_)
  refine lv_aload_n hx hb d_M_ways_10 rfl (lv_at hl 1 rfl) ?_
  refine lv_iconst (v := nI 0) hx hb d_M_ways_11 (by decide) ?_
  refine va_put (D := (dC, dI)) (v := .int (nI 0)) (ty := .int) (C := R_M) (T := F_M) (N := 20) hx hb hT i_M ft_M ft_M_ok n_M hown hK hP hD hS 0 rfl rfl 17 (by decide) (hT _ k_M_108) (fun _ h9 => h9) rfl (by decide +kernel) rfl rfl (Nat.le_of_ble_eq_true rfl) d_M_ways_12 (fun H locs hP hD hS => ?_)
  have hP : va_P (dC, dI) classes (wM a t (mu_di (mu_wn σ (0)) (D))) H := hP
  have hD : va_D A (wM a t (mu_di (mu_wn σ (0)) (D))) := hD
  refine lv_aload_n hx hb d_M_ways_15 rfl (lv_at hl 1 rfl) ?_
  refine va_get (D := (dC, dI)) (C := R_M) (T := F_M) (N := 20) hx hb hT i_M hown hK hP 0 rfl rfl 16 (by decide) (hT _ k_M_46) (fun _ h9 => h9) (v := .ref (a 12)) rfl d_M_ways_16 ?_
  refine lv_aload_n hx hb d_M_ways_19 rfl (lv_at hl 1 rfl) ?_
  refine va_get (D := (dC, dI)) (C := R_M) (T := F_M) (N := 20) hx hb hT i_M hown hK hP 0 rfl rfl 17 (by decide) (hT _ k_M_108) (fun _ h9 => h9) (v := .int (nI 0)) rfl d_M_ways_20 ?_
  refine lv_iload hx hb d_M_ways_23 (lv_at hl 0 rfl) ?_
  refine x_iast hx hb hK hP hD hS 12 11 (f := (m_wy σ)) rfl rfl d_M_ways_25 (by omega) (fun H locs hP hD hS => ?_)
  have hP : va_P (dC, dI) classes (wM a t (mu_di (mu_wn (mu_wy σ (updN (m_wy σ) (0) (x))) (0)) (D))) H := hP
  have hD : va_D A (wM a t (mu_di (mu_wn (mu_wy σ (updN (m_wy σ) (0) (x))) (0)) (D))) := hD
  refine lv_aload_n hx hb d_M_ways_26 rfl (lv_at hl 1 rfl) ?_
  refine lv_dup hx hb d_M_ways_27 rfl ?_
  refine va_get (D := (dC, dI)) (C := R_M) (T := F_M) (N := 20) hx hb hT i_M hown hK hP 0 rfl rfl 17 (by decide) (hT _ k_M_108) (fun _ h9 => h9) (v := .int (nI 0)) rfl d_M_ways_28 ?_
  refine lv_iconst (v := nI 1) hx hb d_M_ways_31 (by decide) ?_
  refine x_iadd hx hb d_M_ways_32 ?_
  refine va_put (D := (dC, dI)) (v := .int (nI (0 + 1))) (ty := .int) (C := R_M) (T := F_M) (N := 20) hx hb hT i_M ft_M ft_M_ok n_M hown hK hP hD hS 0 rfl rfl 17 (by decide) (hT _ k_M_108) (fun _ h9 => h9) rfl (by decide +kernel) rfl rfl (Nat.le_of_ble_eq_true rfl) d_M_ways_33 (fun H locs hP hD hS => ?_)
  have hP : va_P (dC, dI) classes (wM a t (mu_di (mu_wn (mu_wy σ (updN (m_wy σ) (0) (x))) (0 + 1)) (D))) H := hP
  have hD : va_D A (wM a t (mu_di (mu_wn (mu_wy σ (updN (m_wy σ) (0) (x))) (0 + 1)) (D))) := hD
  have hloop36 : ∀ (n36 : Nat) (v : Nat) (k : Nat) (Y : Nat → Nat) (H : Heap) (locs : List Loc) (ls : Array Slot), 1 ≤ v → v ≤ m_hn σ → 1 ≤ k → k + D v = D x + 1 → (∀ j, Y j ≤ 60) → Y 0 = x → Y (k - 1) = v → (∀ j, j + 1 < k → D (Y j) + j = D x ∧ LST (nxP σ q D (Y j)) (m_hn σ) (Y (j + 1))) → D v < n36 → va_P (dC, dI) classes (wM a t (mu_di (mu_wn (mu_wy σ (Y)) (k)) (D))) H → va_D A (wM a t (mu_di (mu_wn (mu_wy σ (Y)) (k)) (D))) → va_S A s.heap H locs → lv_has ls 7 [(0, .ref (a 0)), (1, .int (nI q)), (2, .int (nI x)), (3, .int (nI z)), (4, .int (nI v))] → W p l e (rD 2) s m ([.ref (a 0), .int (nI q), .int (nI x), .int (nI z)] : List Value).toArray below meth c H locs 0 0 (MQ below (va_Qv (fun u : SM => ∃ D Y, u = mu_di (mu_wn (mu_wy σ Y) (D x + 1)) D ∧ WYS σ q x z D Y) (fun u => ME (dC, dI) (yM t) A (wM a t u)) A) ([.ref (a 0), .int (nI q), .int (nI x), .int (nI z)] : List Value).toArray s 0 0 A) (F0 m 36 ls []) := by
    intro n36
    induction n36 with
    | zero => intro v k Y H locs ls _ _ _ _ _ _ _ _ h9; exact absurd h9 (Nat.not_lt_zero _)
    | succ n36 ih36 =>
      intro v k Y H locs ls hv1 hv2 hk1 hkD hY hY0 hYk hYs hmu36 hP hD hS hl
      refine lv_iload hx hb d_M_ways_36 (lv_at hl 4 rfl) ?_
      refine lv_iload_n hx hb d_M_ways_38 rfl (lv_at hl 3 rfl) ?_
      refine x_icmp_eq (tgt := 130) hx hb d_M_ways_39 (by decide) (fun c39 => ?_) (fun c39 => ?_)
      · exact x_mv (wl := wM a t) (mu_di (mu_wn (mu_wy σ (Y)) (k)) (D)) hx hb hr hlk hK hP hD hS d_M_ways_130 ⟨D, Y, by rw [show D x + 1 = k by rw [show v = z by omega, hok.2.1] at hkD; omega], hok, hcl, by omega, hY0, hY, fun j hj => hYs j (by rw [show v = z by omega, hok.2.1] at hkD; omega)⟩
      · have hDv : D v < 100 := by omega
        have hv0 : 1 ≤ D v := by
          rcases Nat.eq_zero_or_pos (D v) with h9 | h9
          · have h8 := hok.2.2 v hv1 hv2 hDv; rw [h9] at h8; exact absurd (show v = z from h8) c39
          · exact h9
        refine lv_iconst (v := nI 0) hx hb d_M_ways_42 (by decide) ?_
        refine lv_istore (lv' := [(5, .int (nI 0)), (0, .ref (a 0)), (1, .int (nI q)), (2, .int (nI x)), (3, .int (nI z)), (4, .int (nI v))]) hx hb d_M_ways_43 hl (by decide) rfl (fun ls hl => ?_)
        refine lv_aload_n hx hb d_M_ways_45 rfl (lv_at hl 1 rfl) ?_
        refine va_get (D := (dC, dI)) (C := R_M) (T := F_M) (N := 20) hx hb hT i_M hown hK hP 0 rfl rfl 3 (by decide) (hT _ k_M_66) (fun _ h9 => h9) (v := .int (nI (m_hn σ))) rfl d_M_ways_46 ?_
        refine lv_istore (lv' := [(6, .int (nI (m_hn σ))), (5, .int (nI 0)), (0, .ref (a 0)), (1, .int (nI q)), (2, .int (nI x)), (3, .int (nI z)), (4, .int (nI v))]) hx hb d_M_ways_49 hl (by decide) rfl (fun ls hl => ?_)
        have hloop51 : ∀ (n51 : Nat) (h : Nat) (nx : Nat) (H : Heap) (locs : List Loc) (ls : Array Slot), h ≤ m_hn σ → ((nx = 0 ∧ ∀ g, h < g → g ≤ m_hn σ → ¬ nxP σ q D v g) ∨ (h < nx ∧ nx ≤ m_hn σ ∧ nxP σ q D v nx ∧ ∀ g, h < g → g < nx → ¬ nxP σ q D v g)) → h < n51 → va_P (dC, dI) classes (wM a t (mu_di (mu_wn (mu_wy σ (Y)) (k)) (D))) H → va_D A (wM a t (mu_di (mu_wn (mu_wy σ (Y)) (k)) (D))) → va_S A s.heap H locs → lv_has ls 7 [(0, .ref (a 0)), (1, .int (nI q)), (2, .int (nI x)), (3, .int (nI z)), (4, .int (nI v)), (5, .int (nI nx)), (6, .int (nI h))] → W p l e (rD 2) s m ([.ref (a 0), .int (nI q), .int (nI x), .int (nI z)] : List Value).toArray below meth c H locs 0 0 (MQ below (va_Qv (fun u : SM => ∃ D Y, u = mu_di (mu_wn (mu_wy σ Y) (D x + 1)) D ∧ WYS σ q x z D Y) (fun u => ME (dC, dI) (yM t) A (wM a t u)) A) ([.ref (a 0), .int (nI q), .int (nI x), .int (nI z)] : List Value).toArray s 0 0 A) (F0 m 51 ls []) := by
          intro n51
          induction n51 with
          | zero => intro h nx H locs ls _ _ h9; exact absurd h9 (Nat.not_lt_zero _)
          | succ n51 ih51 =>
            intro h nx H locs ls hh hnx hmu51 hP hD hS hl
            refine lv_iload hx hb d_M_ways_51 (lv_at hl 6 rfl) ?_
            refine x_if_le (tgt := 102) hx hb d_M_ways_53 (by decide) (fun c53 => ?_) (fun c53 => ?_)
            · have hnx : LST (nxP σ q D v) (m_hn σ) nx := by
                obtain rfl : h = 0 := by omega
                rcases hnx with ⟨_, h2⟩ | ⟨h1, h2, h3, h4⟩
                · obtain ⟨i, e1, e2, e3, e4⟩ := D_back hE hok hcl hv1 hv2 (show D v = (D v - 1) + 1 by omega) (by omega)
                  have e5 := ea_in hE (ag := 1) e1
                  exact absurd ⟨e4, i, e1, e2, Or.inr e3, Or.inr rfl⟩ (h2 _ e5.1 e5.2)
                · exact ⟨h1, h2, h3, fun g9 h5 h6 => h4 g9 h5 h6⟩
              have hnx9 := hnx.1
              have hnx8 := hnx.2.1
              have hnx7 := hnx.2.2.1.1
              refine lv_iload hx hb d_M_ways_102 (lv_at hl 5 rfl) ?_
              refine lv_istore (lv' := [(4, .int (nI nx)), (0, .ref (a 0)), (1, .int (nI q)), (2, .int (nI x)), (3, .int (nI z)), (5, .int (nI nx)), (6, .int (nI h))]) hx hb d_M_ways_104 hl (by decide) rfl (fun ls hl => ?_)
              refine lv_aload_n hx hb d_M_ways_106 rfl (lv_at hl 1 rfl) ?_
              refine va_get (D := (dC, dI)) (C := R_M) (T := F_M) (N := 20) hx hb hT i_M hown hK hP 0 rfl rfl 16 (by decide) (hT _ k_M_46) (fun _ h9 => h9) (v := .ref (a 12)) rfl d_M_ways_107 ?_
              refine lv_aload_n hx hb d_M_ways_110 rfl (lv_at hl 1 rfl) ?_
              refine va_get (D := (dC, dI)) (C := R_M) (T := F_M) (N := 20) hx hb hT i_M hown hK hP 0 rfl rfl 17 (by decide) (hT _ k_M_108) (fun _ h9 => h9) (v := .int (nI k)) rfl d_M_ways_111 ?_
              refine lv_iload hx hb d_M_ways_114 (lv_at hl 0 rfl) ?_
              refine x_iast hx hb hK hP hD hS 12 11 (f := Y) rfl rfl d_M_ways_116 (by omega) (fun H locs hP hD hS => ?_)
              have hP : va_P (dC, dI) classes (wM a t (mu_di (mu_wn (mu_wy σ (updN Y (k) (nx))) (k)) (D))) H := hP
              have hD : va_D A (wM a t (mu_di (mu_wn (mu_wy σ (updN Y (k) (nx))) (k)) (D))) := hD
              refine lv_aload_n hx hb d_M_ways_117 rfl (lv_at hl 1 rfl) ?_
              refine lv_dup hx hb d_M_ways_118 rfl ?_
              refine va_get (D := (dC, dI)) (C := R_M) (T := F_M) (N := 20) hx hb hT i_M hown hK hP 0 rfl rfl 17 (by decide) (hT _ k_M_108) (fun _ h9 => h9) (v := .int (nI k)) rfl d_M_ways_119 ?_
              refine lv_iconst (v := nI 1) hx hb d_M_ways_122 (by decide) ?_
              refine x_iadd hx hb d_M_ways_123 ?_
              refine va_put (D := (dC, dI)) (v := .int (nI (k + 1))) (ty := .int) (C := R_M) (T := F_M) (N := 20) hx hb hT i_M ft_M ft_M_ok n_M hown hK hP hD hS 0 rfl rfl 17 (by decide) (hT _ k_M_108) (fun _ h9 => h9) rfl (by decide +kernel) rfl rfl (Nat.le_of_ble_eq_true rfl) d_M_ways_124 (fun H locs hP hD hS => ?_)
              have hP : va_P (dC, dI) classes (wM a t (mu_di (mu_wn (mu_wy σ (updN Y (k) (nx))) (k + 1)) (D))) H := hP
              have hD : va_D A (wM a t (mu_di (mu_wn (mu_wy σ (updN Y (k) (nx))) (k + 1)) (D))) := hD
              refine lv_goto (tgt := 36) hx hb d_M_ways_127 (by decide) ?_
              exact ih36 nx (k + 1) _ H locs ls hnx.1 hnx.2.1 (by omega) (by have := hnx.2.2.1.1; omega) (updN_le hY (by have := hnx.2.1; omega)) (by rw [updN_n (by omega)]; exact hY0) (by rw [show k + 1 - 1 = k by omega, updN_s]) (wy_s hYs hk1 hYk hkD hv0 hnx) (by omega) hP hD hS (lv_sub hl [1, 2, 3, 4, 0] rfl)
            · obtain ⟨h', rfl⟩ : ∃ h', h = h' + 1 := ⟨h - 1, by omega⟩
              have e1 := hok.1 (h' + 1)
              have e2 := hok.1 v
              refine lv_aload_n hx hb d_M_ways_56 rfl (lv_at hl 0 rfl) ?_
              refine va_get (D := (dC, dI)) (C := R_M) (T := F_M) (N := 20) hx hb hT i_M hown hK hP 0 rfl rfl 18 (by decide) (hT _ k_M_49) (fun _ h9 => h9) (v := .ref (a 13)) rfl d_M_ways_57 ?_
              refine lv_iload hx hb d_M_ways_60 (lv_at hl 6 rfl) ?_
              refine x_iald hx hb hK hP 13 12 (f := D) rfl rfl d_M_ways_62 (by omega) ?_
              refine lv_aload_n hx hb d_M_ways_63 rfl (lv_at hl 0 rfl) ?_
              refine va_get (D := (dC, dI)) (C := R_M) (T := F_M) (N := 20) hx hb hT i_M hown hK hP 0 rfl rfl 18 (by decide) (hT _ k_M_49) (fun _ h9 => h9) (v := .ref (a 13)) rfl d_M_ways_64 ?_
              refine lv_iload hx hb d_M_ways_67 (lv_at hl 4 rfl) ?_
              refine x_iald hx hb hK hP 13 12 (f := D) rfl rfl d_M_ways_69 (by omega) ?_
              refine lv_iconst (v := nI 1) hx hb d_M_ways_70 (by decide) ?_
              refine x_isub hx hb d_M_ways_71 ?_
              refine x_icmp_ne (tgt := 92) hx hb d_M_ways_72 (by decide) (fun c72 => ?_) (fun c72 => ?_)
              · refine lv_iload hx hb d_M_ways_92 (lv_at hl 5 rfl) ?_
                refine lv_istore (lv' := [(5, .int (nI nx)), (0, .ref (a 0)), (1, .int (nI q)), (2, .int (nI x)), (3, .int (nI z)), (4, .int (nI v)), (6, .int (nI (h' + 1)))]) hx hb d_M_ways_94 hl (by decide) rfl (fun ls hl => ?_)
                refine x_idec (lv' := [(6, .int (nI h')), (5, .int (nI nx)), (0, .ref (a 0)), (1, .int (nI q)), (2, .int (nI x)), (3, .int (nI z)), (4, .int (nI v))]) hx hb d_M_ways_96 hl (k := 6) rfl (by decide) rfl (fun ls hl => ?_)
                refine lv_goto (tgt := 51) hx hb d_M_ways_99 (by decide) ?_
                exact ih51 h' _ H locs ls (by omega) (by rcases hnx with ⟨h1, h2⟩ | ⟨h1, h2, h3, h4⟩; exact Or.inl ⟨h1, fun g9 h5 h6 => by rcases Nat.lt_or_ge g9 (h' + 2) with h8 | h8; rw [show g9 = h' + 1 by omega]; exact (fun h7 => by first | exact c72 h7.1 | exact hqq h7.2); exact h2 g9 (by omega) h6⟩; exact Or.inr ⟨by omega, h2, h3, fun g9 h5 h6 => by rcases Nat.lt_or_ge g9 (h' + 2) with h8 | h8; rw [show g9 = h' + 1 by omega]; exact (fun h7 => by first | exact c72 h7.1 | exact hqq h7.2); exact h4 g9 (by omega) h6⟩) (by omega) hP hD hS (lv_sub hl [2, 3, 4, 5, 6, 1, 0] rfl)
              · refine lv_aload_n hx hb d_M_ways_75 rfl (lv_at hl 0 rfl) ?_
                refine lv_iload_n hx hb d_M_ways_76 rfl (lv_at hl 1 rfl) ?_
                refine lv_iload hx hb d_M_ways_77 (lv_at hl 4 rfl) ?_
                refine lv_iload hx hb d_M_ways_79 (lv_at hl 6 rfl) ?_
                refine x_ci (x_runV ⟨hx, hb, hml, hown, hT⟩ (c_M_has l dC dI a t (mu_di (mu_wn (mu_wy σ (Y)) (k)) (D)) (GM_di (GM_wn (GM_wy hG2 hY) (by omega)) hok.1) hL q v (h' + 1) hq (by omega) (by omega)) f_M_has k_M_111 blR (va_recv hK hP (ci := 7) (q0 := 0) rfl rfl) (x_bR hK hP hN) hl.1 d_M_ways_81 rfl (lv_room (Nat.le_of_ble_eq_true rfl)) ⟨Nat.le_of_ble_eq_true rfl, Nat.le_of_ble_eq_true rfl⟩ ⟨rfl, rfl⟩ ⟨Nat.le_refl 0, Nat.le_refl 0⟩ rfl) (fun r81 q81 => ?_)
                rcases q81 with ⟨rfl, hqq⟩ | ⟨rfl, hqq⟩
                · refine x_if_eq (tgt := 92) hx hb d_M_ways_84 (by decide) (fun h => absurd h (by decide)) (fun _ => ?_)
                  refine lv_iload hx hb d_M_ways_87 (lv_at hl 6 rfl) ?_
                  refine lv_goto (tgt := 94) hx hb d_M_ways_89 (by decide) ?_
                  refine lv_istore (lv' := [(5, .int (nI (h' + 1))), (0, .ref (a 0)), (1, .int (nI q)), (2, .int (nI x)), (3, .int (nI z)), (4, .int (nI v)), (6, .int (nI (h' + 1)))]) hx hb d_M_ways_94 hl (by decide) rfl (fun ls hl => ?_)
                  refine x_idec (lv' := [(6, .int (nI h')), (5, .int (nI (h' + 1))), (0, .ref (a 0)), (1, .int (nI q)), (2, .int (nI x)), (3, .int (nI z)), (4, .int (nI v))]) hx hb d_M_ways_96 hl (k := 6) rfl (by decide) rfl (fun ls hl => ?_)
                  refine lv_goto (tgt := 51) hx hb d_M_ways_99 (by decide) ?_
                  exact ih51 h' _ H locs ls (by omega) (Or.inr ⟨by omega, by omega, ⟨by omega, hqq⟩, fun g9 h1 h2 => by omega⟩) (by omega) hP hD hS (lv_sub hl [2, 3, 4, 5, 6, 1, 0] rfl)
                · refine x_if_eq (tgt := 92) hx hb d_M_ways_84 (by decide) (fun _ => ?_) (fun h => absurd h (by decide))
                  refine lv_iload hx hb d_M_ways_92 (lv_at hl 5 rfl) ?_
                  refine lv_istore (lv' := [(5, .int (nI nx)), (0, .ref (a 0)), (1, .int (nI q)), (2, .int (nI x)), (3, .int (nI z)), (4, .int (nI v)), (6, .int (nI (h' + 1)))]) hx hb d_M_ways_94 hl (by decide) rfl (fun ls hl => ?_)
                  refine x_idec (lv' := [(6, .int (nI h')), (5, .int (nI nx)), (0, .ref (a 0)), (1, .int (nI q)), (2, .int (nI x)), (3, .int (nI z)), (4, .int (nI v))]) hx hb d_M_ways_96 hl (k := 6) rfl (by decide) rfl (fun ls hl => ?_)
                  refine lv_goto (tgt := 51) hx hb d_M_ways_99 (by decide) ?_
                  exact ih51 h' _ H locs ls (by omega) (by rcases hnx with ⟨h1, h2⟩ | ⟨h1, h2, h3, h4⟩; exact Or.inl ⟨h1, fun g9 h5 h6 => by rcases Nat.lt_or_ge g9 (h' + 2) with h8 | h8; rw [show g9 = h' + 1 by omega]; exact (fun h7 => by first | exact c72 h7.1 | exact hqq h7.2); exact h2 g9 (by omega) h6⟩; exact Or.inr ⟨by omega, h2, h3, fun g9 h5 h6 => by rcases Nat.lt_or_ge g9 (h' + 2) with h8 | h8; rw [show g9 = h' + 1 by omega]; exact (fun h7 => by first | exact c72 h7.1 | exact hqq h7.2); exact h4 g9 (by omega) h6⟩) (by omega) hP hD hS (lv_sub hl [2, 3, 4, 5, 6, 1, 0] rfl)
        exact hloop51 _ (m_hn σ) 0 _ _ ls (Nat.le_refl _) (Or.inl ⟨rfl, fun g9 h1 h2 => by omega⟩) (Nat.lt_succ_self _) hP hD hS (lv_sub hl [2, 3, 4, 5, 6, 1, 0] rfl)
  exact hloop36 _ x 1 _ _ _ ls hx1 hx2 (by omega) (by omega) (updN_le g_wy (by omega)) updN_s updN_s (fun j hj => by omega) (Nat.lt_succ_self _) hP hD hS (lv_sub hl [1, 2, 3, 4, 0] rfl)

