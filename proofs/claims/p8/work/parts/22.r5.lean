/-- the links as a list -/
def lst4 (q f g : Nat → Nat) (d : Nat → Int64) : Nat → List (Nat × Nat × Nat × Int64)
  | 0 => []
  | n + 1 => lst4 q f g d n ++ [(q n, f n, g n, d n)]
theorem lst4_congr {q f g q' f' g' : Nat → Nat} {d d' : Nat → Int64} : ∀ {n : Nat}, (∀ j, j < n → q j = q' j ∧ f j = f' j ∧ g j = g' j ∧ d j = d' j) → lst4 q f g d n = lst4 q' f' g' d' n := by
  intro n
  induction n with
  | zero => intro _; rfl
  | succ n ih =>
    intro h
    obtain ⟨h0, h1, h2, h3⟩ := h n (Nat.lt_succ_self n)
    simp only [lst4]
    rw [ih (fun j hj => h j (Nat.lt_succ_of_lt hj)), h0, h1, h2, h3]
def keep4 (h : Nat) (q : Nat × Nat × Nat × Int64) : Bool := decide (q.2.1 ≠ h) && decide (q.2.2.1 ≠ h)
def mkS (q f g : Nat → Nat) (h n : Nat) : Nat → Nat := fun j => if j < n ∧ (f j = h ∨ g j = h) then 4294967295 else q j
theorem mkS_0 (q f g : Nat → Nat) (h : Nat) : mkS q f g h 0 = q := by
  funext j
  unfold mkS
  rw [if_neg (by omega)]
theorem mkS_y {q f g : Nat → Nat} {h n : Nat} (e : f n = h ∨ g n = h) : updN (mkS q f g h n) n 4294967295 = mkS q f g h (n + 1) := by
  funext j
  unfold updN mkS
  by_cases e1 : j = n
  · subst e1; rw [if_pos rfl, if_pos ⟨by omega, e⟩]
  · rw [if_neg e1]
    by_cases e2 : j < n ∧ (f j = h ∨ g j = h)
    · rw [if_pos e2, if_pos ⟨by omega, e2.2⟩]
    · rw [if_neg e2, if_neg (fun z => e2 ⟨by omega, z.2⟩)]
theorem mkS_n {q f g : Nat → Nat} {h n : Nat} (e : ¬ (f n = h ∨ g n = h)) : updN (mkS q f g h n) n (mkS q f g h n n) = mkS q f g h (n + 1) := by
  rw [updN_self]
  funext j
  unfold mkS
  by_cases e1 : j = n
  · subst e1; rw [if_neg (by omega), if_neg (fun z => e z.2)]
  · by_cases e2 : j < n ∧ (f j = h ∨ g j = h)
    · rw [if_pos e2, if_pos ⟨by omega, e2.2⟩]
    · rw [if_neg e2, if_neg (fun z => e2 ⟨by omega, z.2⟩)]
theorem l4_keep {q f g S F G : Nat → Nat} {d E : Nat → Int64} {h i k : Nat} (hl : lst4 S F G E k = (lst4 q f g d i).filter (keep4 h)) (hk : k ≤ i) (hr : S i = q i ∧ F i = f i ∧ G i = g i ∧ E i = d i) (h1 : ¬ (f i = h ∨ g i = h)) : lst4 (updN S k (S i)) (updN F k (F i)) (updN G k (G i)) (vp_updL E k (E i)) (k + 1) = (lst4 q f g d (i + 1)).filter (keep4 h) := by
  simp only [lst4, List.filter_append]
  rw [← hl, updN_s, updN_s, updN_s, updL_s, hr.1, hr.2.1, hr.2.2.1, hr.2.2.2]
  have e : lst4 (updN S k (q i)) (updN F k (f i)) (updN G k (g i)) (vp_updL E k (d i)) k = lst4 S F G E k := lst4_congr (fun j hj => ⟨updN_n (by omega), updN_n (by omega), updN_n (by omega), updL_n (by omega)⟩)
  rw [e]
  have h2 : ¬ f i = h := fun z => h1 (Or.inl z)
  have h3 : ¬ g i = h := fun z => h1 (Or.inr z)
  simp [keep4, h2, h3]
theorem l4_drop {q f g S F G : Nat → Nat} {d E : Nat → Int64} {h i k : Nat} (hl : lst4 S F G E k = (lst4 q f g d i).filter (keep4 h)) (h1 : f i = h ∨ g i = h) : lst4 S F G E k = (lst4 q f g d (i + 1)).filter (keep4 h) := by
  simp only [lst4, List.filter_append]
  rw [← hl]
  rcases h1 with h1 | h1 <;> simp [keep4, h1]
theorem nI_max : nI 4294967295 = -1 := by decide
def DLM (σ : SM) (x : Int32) (r : Int32) (u : SM) : Prop := (¬ (∃ j, 1 ≤ j ∧ j ≤ m_hn σ ∧ m_lv σ j = 1 ∧ x = nI j) ∧ r = nI 0 ∧ u = σ) ∨ ∃ j, 1 ≤ j ∧ j ≤ m_hn σ ∧ m_lv σ j = 1 ∧ x = nI j ∧ ((0 < cntN (m_lk σ) j (m_rn σ) ∧ r = -nI (cntN (m_lk σ) j (m_rn σ)) ∧ u = σ) ∨ (cntN (m_lk σ) j (m_rn σ) = 0 ∧ r = nI 1 ∧ ∃ (S F G : Nat → Nat) (E : Nat → Int64) (k : Nat), u = mu_ld (mu_lt (mu_lf (mu_ls (mu_ln (mu_lv σ (updN (m_lv σ) j 0)) k) S) F) G) E ∧ k ≤ m_ln σ ∧ (∀ j, F j ≤ 60) ∧ (∀ j, G j ≤ 60) ∧ lst4 S F G E k = (lst4 (m_ls σ) (m_lf σ) (m_lt σ) (m_ld σ) (m_ln σ)).filter (keep4 j)))
set_option maxRecDepth 100000 in
set_option maxHeartbeats 4000000 in
theorem c_M_delete (l : Launch) (dC : Nat → ClassId) (dI : Nat → Nat → Nat) (a : Nat → Nat) (t : Nat → ClassId) (σ : SM) (sz : Nat) (hG : GM σ) (hL : GL σ) (x : Int32) : Met l y_M_delete (wS y_M_delete b_M_delete 5 (some .int)) (rD 1) (va_Pc [.ref (a 0), .int x] (MB (dC, dI) (yM t) (wM a t σ) sz)) (va_Qi (fun (r : Int32) (u : SM) => DLM σ x r u) (fun u => ME (dC, dI) (yM t) (va_A (wM a t σ) sz) (wM a t u)) (va_A (wM a t σ) sz)) 0 0 (va_A (wM a t σ) sz) := by
  refine x_enter (by decide) (Nat.le_of_ble_eq_true rfl) ?_
  intro p e s m below meth c ls hx hb hr hml hT hown hlk hnm hl hB
  obtain ⟨rfl, hP, hK, hN, hD0⟩ := hB
  have hD := hD0.self (sz := s.heap.size)
  generalize hAe : va_A (wM a t σ) s.heap.size = A at hD ⊢
  have hA : ∀ q : Nat, s.heap.size ≤ q → A q := fun q h => by rw [← hAe]; exact Or.inr h
  have hS : va_S A s.heap s.heap [] := va_S.rf
  have hP : va_P (dC, dI) classes (wM a t σ) s.heap := hP
  have hl : lv_has ls 5 [(0, .ref (a 0)), (1, .int x)] := hl
  have hown : s.vm.findClass R_M = some m.cls := hown
  have hG2 := hG
  obtain ⟨g_sz, g_sd, g_hn, g_kd, g_lv, g_tx, g_zs, g_ln, g_lf, g_lt, g_rn, g_lk, g_wy, g_wn, g_di, g_co⟩ := hG
  refine lv_aload_n hx hb d_M_delete_0 rfl (lv_at hl 0 rfl) ?_
  refine lv_iconst (v := nI 0) hx hb d_M_delete_1 (by decide) ?_
  refine va_put (D := (dC, dI)) (v := .int (nI 0)) (ty := .int) (C := R_M) (T := F_M) (N := 20) hx hb hT i_M ft_M ft_M_ok n_M hown hK hP hD hS 0 rfl rfl 0 (by decide) (hT _ k_M_52) (fun _ h9 => h9) rfl (by decide +kernel) rfl rfl (Nat.le_of_ble_eq_true rfl) d_M_delete_2 (fun H locs hP hD hS => ?_)
  have hP : va_P (dC, dI) classes (wM a t σ) H := hP
  have hD : va_D A (wM a t σ) := hD
  refine lv_aload_n hx hb d_M_delete_5 rfl (lv_at hl 0 rfl) ?_
  refine lv_iload_n hx hb d_M_delete_6 rfl (lv_at hl 1 rfl) ?_
  refine x_ci (x_runV ⟨hx, hb, hml, hown, hT⟩ (c_M_isLive l dC dI a t σ hG2 x) f_M_isLive k_M_91 blR (va_recv hK hP (ci := 7) (q0 := 0) rfl rfl) (x_bR hK hP hN) hl.1 d_M_delete_7 rfl (lv_room (Nat.le_of_ble_eq_true rfl)) ⟨Nat.le_of_ble_eq_true rfl, Nat.le_of_ble_eq_true rfl⟩ ⟨rfl, rfl⟩ ⟨Nat.le_refl 0, Nat.le_refl 0⟩ rfl) (fun r7 q7 => ?_)
  rcases q7 with ⟨rfl, j, hj1, hj2, hj3, rfl⟩ | ⟨rfl, hnj⟩
  · refine x_if_ne (tgt := 15) hx hb d_M_delete_10 (by decide) (fun _ => ?_) (fun h => absurd h (by decide))
    refine lv_aload_n hx hb d_M_delete_15 rfl (lv_at hl 0 rfl) ?_
    refine lv_iload_n hx hb d_M_delete_16 rfl (lv_at hl 1 rfl) ?_
    refine x_ci (x_runV ⟨hx, hb, hml, hown, hT⟩ (c_M_linkedTo l dC dI a t σ hG2 j (by omega)) f_M_linkedTo k_M_94 blR (va_recv hK hP (ci := 7) (q0 := 0) rfl rfl) (x_bR hK hP hN) hl.1 d_M_delete_17 rfl (lv_room (Nat.le_of_ble_eq_true rfl)) ⟨Nat.le_of_ble_eq_true rfl, Nat.le_of_ble_eq_true rfl⟩ ⟨rfl, rfl⟩ ⟨Nat.le_refl 0, Nat.le_refl 0⟩ rfl) (fun r17 q17 => ?_)
    subst q17
    have hcn := cntN_le (m_lk σ) j (m_rn σ)
    refine lv_istore_n (lv' := [(2, .int (nI (cntN (m_lk σ) j (m_rn σ)))), (0, .ref (a 0)), (1, .int (nI j))]) hx hb d_M_delete_20 rfl hl (by decide) rfl (fun ls hl => ?_)
    refine lv_iload_n hx hb d_M_delete_21 rfl (lv_at hl 0 rfl) ?_
    refine x_if_le (tgt := 28) hx hb d_M_delete_22 (by decide) (fun c22 => ?_) (fun c22 => ?_)
    · refine lv_aload_n hx hb d_M_delete_28 rfl (lv_at hl 1 rfl) ?_
      refine va_get (D := (dC, dI)) (C := R_M) (T := F_M) (N := 20) hx hb hT i_M hown hK hP 0 rfl rfl 5 (by decide) (hT _ k_M_17) (fun _ h9 => h9) (v := .ref (a 3)) rfl d_M_delete_29 ?_
      refine lv_iload_n hx hb d_M_delete_32 rfl (lv_at hl 2 rfl) ?_
      refine lv_iconst (v := nI 0) hx hb d_M_delete_33 (by decide) ?_
      refine x_zast hx hb hK hP hD hS 3 2 (f := (m_lv σ)) rfl rfl d_M_delete_34 (by omega) (fun H locs hP hD hS => ?_)
      have hP : va_P (dC, dI) classes (wM a t (mu_lv σ (updN (m_lv σ) (j) (0)))) H := hP
      have hD : va_D A (wM a t (mu_lv σ (updN (m_lv σ) (j) (0)))) := hD
      have e0 : wM a t (mu_lv σ (updN (m_lv σ) j 0)) = wM a t (mu_ls (mu_lv σ (updN (m_lv σ) j 0)) (mkS (m_ls σ) (m_lf σ) (m_lt σ) j 0)) := by rw [mkS_0]; rfl
      rw [e0] at hP hD
      refine lv_iconst (v := nI 0) hx hb d_M_delete_35 (by decide) ?_
      refine lv_istore_n (lv' := [(3, .int (nI 0)), (2, .int (nI (cntN (m_lk σ) j (m_rn σ)))), (0, .ref (a 0)), (1, .int (nI j))]) hx hb d_M_delete_36 rfl hl (by decide) rfl (fun ls hl => ?_)
      have hloop37 : ∀ (n37 : Nat) (i : Nat) (H : Heap) (locs : List Loc) (ls : Array Slot), i ≤ m_ln σ → m_ln σ + 1 - i < n37 → va_P (dC, dI) classes (wM a t (mu_ls (mu_lv σ (updN (m_lv σ) j 0)) (mkS (m_ls σ) (m_lf σ) (m_lt σ) j i))) H → va_D A (wM a t (mu_ls (mu_lv σ (updN (m_lv σ) j 0)) (mkS (m_ls σ) (m_lf σ) (m_lt σ) j i))) → va_S A s.heap H locs → lv_has ls 5 [(0, .ref (a 0)), (1, .int (nI j)), (2, .int (nI (cntN (m_lk σ) j (m_rn σ)))), (3, .int (nI i))] → W p l e (rD 1) s m ([.ref (a 0), .int (nI j)] : List Value).toArray below meth c H locs 0 0 (MQ below (va_Qi (fun (r : Int32) (u : SM) => DLM σ (nI j) r u) (fun u => ME (dC, dI) (yM t) A (wM a t u)) A) ([.ref (a 0), .int (nI j)] : List Value).toArray s 0 0 A) (F0 m 37 ls []) := by
        intro n37
        induction n37 with
        | zero => intro i H locs ls _ h9; exact absurd h9 (Nat.not_lt_zero _)
        | succ n37 ih37 =>
          intro i H locs ls hi hmu37 hP hD hS hl
          refine lv_iload_n hx hb d_M_delete_37 rfl (lv_at hl 3 rfl) ?_
          refine lv_aload_n hx hb d_M_delete_38 rfl (lv_at hl 0 rfl) ?_
          refine va_get (D := (dC, dI)) (C := R_M) (T := F_M) (N := 20) hx hb hT i_M hown hK hP 0 rfl rfl 8 (by decide) (hT _ k_M_97) (fun _ h9 => h9) (v := .int (nI (m_ln σ))) rfl d_M_delete_39 ?_
          refine x_icmp_ge (tgt := 87) hx hb d_M_delete_42 (by decide) (fun c42 => ?_) (fun c42 => ?_)
          · refine lv_iconst (v := nI 0) hx hb d_M_delete_87 (by decide) ?_
            refine lv_istore_n (lv' := [(3, .int (nI 0)), (0, .ref (a 0)), (1, .int (nI j)), (2, .int (nI (cntN (m_lk σ) j (m_rn σ))))]) hx hb d_M_delete_88 rfl hl (by decide) rfl (fun ls hl => ?_)
            refine lv_iconst (v := nI 0) hx hb d_M_delete_89 (by decide) ?_
            refine lv_istore (lv' := [(4, .int (nI 0)), (3, .int (nI 0)), (0, .ref (a 0)), (1, .int (nI j)), (2, .int (nI (cntN (m_lk σ) j (m_rn σ))))]) hx hb d_M_delete_90 hl (by decide) rfl (fun ls hl => ?_)
            have hloop92 : ∀ (n92 : Nat) (i : Nat) (k : Nat) (S : Nat → Nat) (F : Nat → Nat) (G : Nat → Nat) (E : Nat → Int64) (H : Heap) (locs : List Loc) (ls : Array Slot), i ≤ m_ln σ → k ≤ i → (∀ j, F j ≤ 60) → (∀ j, G j ≤ 60) → (∀ j', i ≤ j' → j' < m_ln σ → S j' = mkS (m_ls σ) (m_lf σ) (m_lt σ) j (m_ln σ) j' ∧ F j' = m_lf σ j' ∧ G j' = m_lt σ j' ∧ E j' = m_ld σ j') → lst4 S F G E k = (lst4 (m_ls σ) (m_lf σ) (m_lt σ) (m_ld σ) i).filter (keep4 j) → m_ln σ + 1 - i < n92 → va_P (dC, dI) classes (wM a t (mu_ld (mu_lt (mu_lf (mu_ls (mu_lv σ (updN (m_lv σ) j 0)) (S)) (F)) (G)) (E))) H → va_D A (wM a t (mu_ld (mu_lt (mu_lf (mu_ls (mu_lv σ (updN (m_lv σ) j 0)) (S)) (F)) (G)) (E))) → va_S A s.heap H locs → lv_has ls 5 [(0, .ref (a 0)), (1, .int (nI j)), (2, .int (nI (cntN (m_lk σ) j (m_rn σ)))), (3, .int (nI k)), (4, .int (nI i))] → W p l e (rD 1) s m ([.ref (a 0), .int (nI j)] : List Value).toArray below meth c H locs 0 0 (MQ below (va_Qi (fun (r : Int32) (u : SM) => DLM σ (nI j) r u) (fun u => ME (dC, dI) (yM t) A (wM a t u)) A) ([.ref (a 0), .int (nI j)] : List Value).toArray s 0 0 A) (F0 m 92 ls []) := by
              intro n92
              induction n92 with
              | zero => intro i k S F G E H locs ls _ _ _ _ _ _ h9; exact absurd h9 (Nat.not_lt_zero _)
              | succ n92 ih92 =>
                intro i k S F G E H locs ls hi hk hF hG9 hrest hlst hmu92 hP hD hS hl
                refine lv_iload hx hb d_M_delete_92 (lv_at hl 4 rfl) ?_
                refine lv_aload_n hx hb d_M_delete_94 rfl (lv_at hl 0 rfl) ?_
                refine va_get (D := (dC, dI)) (C := R_M) (T := F_M) (N := 20) hx hb hT i_M hown hK hP 0 rfl rfl 8 (by decide) (hT _ k_M_97) (fun _ h9 => h9) (v := .int (nI (m_ln σ))) rfl d_M_delete_95 ?_
                refine x_icmp_ge (tgt := 173) hx hb d_M_delete_98 (by decide) (fun c98 => ?_) (fun c98 => ?_)
                · refine lv_aload_n hx hb d_M_delete_173 rfl (lv_at hl 0 rfl) ?_
                  refine lv_iload_n hx hb d_M_delete_174 rfl (lv_at hl 3 rfl) ?_
                  refine va_put (D := (dC, dI)) (v := .int (nI k)) (ty := .int) (C := R_M) (T := F_M) (N := 20) hx hb hT i_M ft_M ft_M_ok n_M hown hK hP hD hS 0 rfl rfl 8 (by decide) (hT _ k_M_97) (fun _ h9 => h9) rfl (by decide +kernel) rfl rfl (Nat.le_of_ble_eq_true rfl) d_M_delete_175 (fun H locs hP hD hS => ?_)
                  have hP : va_P (dC, dI) classes (wM a t (mu_ld (mu_lt (mu_lf (mu_ls (mu_ln (mu_lv σ (updN (m_lv σ) j 0)) (k)) (S)) (F)) (G)) (E))) H := hP
                  have hD : va_D A (wM a t (mu_ld (mu_lt (mu_lf (mu_ls (mu_ln (mu_lv σ (updN (m_lv σ) j 0)) (k)) (S)) (F)) (G)) (E))) := hD
                  refine lv_iconst (v := nI 1) hx hb d_M_delete_178 (by decide) ?_
                  exact x_mi (wl := wM a t) (mu_ld (mu_lt (mu_lf (mu_ls (mu_ln (mu_lv σ (updN (m_lv σ) j 0)) (k)) (S)) (F)) (G)) (E)) hx hb hr hlk hK hP hD hS d_M_delete_179 (Or.inr ⟨j, hj1, hj2, hj3, rfl, Or.inr ⟨by omega, rfl, S, F, G, E, k, rfl, by omega, hF, hG9, by rw [show m_ln σ = i by omega]; exact hlst⟩⟩)
                · refine lv_aload_n hx hb d_M_delete_101 rfl (lv_at hl 0 rfl) ?_
                  refine va_get (D := (dC, dI)) (C := R_M) (T := F_M) (N := 20) hx hb hT i_M hown hK hP 0 rfl rfl 9 (by decide) (hT _ k_M_27) (fun _ h9 => h9) (v := .ref (a 6)) rfl d_M_delete_102 ?_
                  refine lv_iload hx hb d_M_delete_105 (lv_at hl 4 rfl) ?_
                  refine x_iald hx hb hK hP 6 5 (f := S) rfl rfl d_M_delete_107 (by omega) ?_
                  refine lv_iconst (v := -1) hx hb d_M_delete_108 (by decide) ?_
                  have hri := hrest i (Nat.le_refl i) (by omega)
                  have hls := hL i (by omega)
                  refine lv_icmp_eq (tgt := 167) hx hb d_M_delete_109 (by decide) (fun c109 => ?_) (fun c109 => ?_)
                  · have hyes : m_lf σ i = j ∨ m_lt σ i = j := by
                      rcases Classical.em (m_lf σ i = j ∨ m_lt σ i = j) with h9 | h9
                      · exact h9
                      · have h8 := hri.1; unfold mkS at h8; rw [if_neg (fun z => h9 z.2)] at h8; rw [h8] at c109; exact absurd c109 (nI_m1 (by omega))
                    refine x_iinc (lv' := [(4, .int (nI (i + 1))), (0, .ref (a 0)), (1, .int (nI j)), (2, .int (nI (cntN (m_lk σ) j (m_rn σ)))), (3, .int (nI k))]) hx hb d_M_delete_167 hl (k := 4) rfl (by decide) rfl (fun ls hl => ?_)
                    refine lv_goto (tgt := 92) hx hb d_M_delete_170 (by decide) ?_
                    exact ih92 (i + 1) k S F G E H locs ls (by omega) (by omega) hF hG9 (fun j' hj h9 => hrest j' (by omega) h9) (l4_drop hlst hyes) (by omega) hP hD hS (lv_sub hl [1, 2, 3, 4, 0] rfl)
                  · have hne : ¬ (m_lf σ i = j ∨ m_lt σ i = j) := fun h9 => c109 (by have h8 := hri.1; unfold mkS at h8; rw [if_pos ⟨by omega, h9⟩] at h8; rw [h8]; exact nI_max)
                    have hSi : S i = m_ls σ i := by have h8 := hri.1; unfold mkS at h8; rw [if_neg (fun z => hne z.2)] at h8; exact h8
                    refine lv_aload_n hx hb d_M_delete_112 rfl (lv_at hl 0 rfl) ?_
                    refine va_get (D := (dC, dI)) (C := R_M) (T := F_M) (N := 20) hx hb hT i_M hown hK hP 0 rfl rfl 9 (by decide) (hT _ k_M_27) (fun _ h9 => h9) (v := .ref (a 6)) rfl d_M_delete_113 ?_
                    refine lv_iload_n hx hb d_M_delete_116 rfl (lv_at hl 3 rfl) ?_
                    refine lv_aload_n hx hb d_M_delete_117 rfl (lv_at hl 0 rfl) ?_
                    refine va_get (D := (dC, dI)) (C := R_M) (T := F_M) (N := 20) hx hb hT i_M hown hK hP 0 rfl rfl 9 (by decide) (hT _ k_M_27) (fun _ h9 => h9) (v := .ref (a 6)) rfl d_M_delete_118 ?_
                    refine lv_iload hx hb d_M_delete_121 (lv_at hl 4 rfl) ?_
                    refine x_iald hx hb hK hP 6 5 (f := S) rfl rfl d_M_delete_123 (by omega) ?_
                    refine x_iast hx hb hK hP hD hS 6 5 (f := S) rfl rfl d_M_delete_124 (by omega) (fun H locs hP hD hS => ?_)
                    have hP : va_P (dC, dI) classes (wM a t (mu_ld (mu_lt (mu_lf (mu_ls (mu_lv σ (updN (m_lv σ) j 0)) (updN S (k) (S i))) (F)) (G)) (E))) H := hP
                    have hD : va_D A (wM a t (mu_ld (mu_lt (mu_lf (mu_ls (mu_lv σ (updN (m_lv σ) j 0)) (updN S (k) (S i))) (F)) (G)) (E))) := hD
                    refine lv_aload_n hx hb d_M_delete_125 rfl (lv_at hl 0 rfl) ?_
                    refine va_get (D := (dC, dI)) (C := R_M) (T := F_M) (N := 20) hx hb hT i_M hown hK hP 0 rfl rfl 10 (by decide) (hT _ k_M_30) (fun _ h9 => h9) (v := .ref (a 7)) rfl d_M_delete_126 ?_
                    refine lv_iload_n hx hb d_M_delete_129 rfl (lv_at hl 3 rfl) ?_
                    refine lv_aload_n hx hb d_M_delete_130 rfl (lv_at hl 0 rfl) ?_
                    refine va_get (D := (dC, dI)) (C := R_M) (T := F_M) (N := 20) hx hb hT i_M hown hK hP 0 rfl rfl 10 (by decide) (hT _ k_M_30) (fun _ h9 => h9) (v := .ref (a 7)) rfl d_M_delete_131 ?_
                    refine lv_iload hx hb d_M_delete_134 (lv_at hl 4 rfl) ?_
                    refine x_iald hx hb hK hP 7 6 (f := F) rfl rfl d_M_delete_136 (by omega) ?_
                    refine x_iast hx hb hK hP hD hS 7 6 (f := F) rfl rfl d_M_delete_137 (by omega) (fun H locs hP hD hS => ?_)
                    have hP : va_P (dC, dI) classes (wM a t (mu_ld (mu_lt (mu_lf (mu_ls (mu_lv σ (updN (m_lv σ) j 0)) (updN S (k) (S i))) (updN F (k) (F i))) (G)) (E))) H := hP
                    have hD : va_D A (wM a t (mu_ld (mu_lt (mu_lf (mu_ls (mu_lv σ (updN (m_lv σ) j 0)) (updN S (k) (S i))) (updN F (k) (F i))) (G)) (E))) := hD
                    refine lv_aload_n hx hb d_M_delete_138 rfl (lv_at hl 0 rfl) ?_
                    refine va_get (D := (dC, dI)) (C := R_M) (T := F_M) (N := 20) hx hb hT i_M hown hK hP 0 rfl rfl 11 (by decide) (hT _ k_M_33) (fun _ h9 => h9) (v := .ref (a 8)) rfl d_M_delete_139 ?_
                    refine lv_iload_n hx hb d_M_delete_142 rfl (lv_at hl 3 rfl) ?_
                    refine lv_aload_n hx hb d_M_delete_143 rfl (lv_at hl 0 rfl) ?_
                    refine va_get (D := (dC, dI)) (C := R_M) (T := F_M) (N := 20) hx hb hT i_M hown hK hP 0 rfl rfl 11 (by decide) (hT _ k_M_33) (fun _ h9 => h9) (v := .ref (a 8)) rfl d_M_delete_144 ?_
                    refine lv_iload hx hb d_M_delete_147 (lv_at hl 4 rfl) ?_
                    refine x_iald hx hb hK hP 8 7 (f := G) rfl rfl d_M_delete_149 (by omega) ?_
                    refine x_iast hx hb hK hP hD hS 8 7 (f := G) rfl rfl d_M_delete_150 (by omega) (fun H locs hP hD hS => ?_)
                    have hP : va_P (dC, dI) classes (wM a t (mu_ld (mu_lt (mu_lf (mu_ls (mu_lv σ (updN (m_lv σ) j 0)) (updN S (k) (S i))) (updN F (k) (F i))) (updN G (k) (G i))) (E))) H := hP
                    have hD : va_D A (wM a t (mu_ld (mu_lt (mu_lf (mu_ls (mu_lv σ (updN (m_lv σ) j 0)) (updN S (k) (S i))) (updN F (k) (F i))) (updN G (k) (G i))) (E))) := hD
                    refine lv_aload_n hx hb d_M_delete_151 rfl (lv_at hl 0 rfl) ?_
                    refine va_get (D := (dC, dI)) (C := R_M) (T := F_M) (N := 20) hx hb hT i_M hown hK hP 0 rfl rfl 12 (by decide) (hT _ k_M_36) (fun _ h9 => h9) (v := .ref (a 9)) rfl d_M_delete_152 ?_
                    refine lv_iload_n hx hb d_M_delete_155 rfl (lv_at hl 3 rfl) ?_
                    refine lv_aload_n hx hb d_M_delete_156 rfl (lv_at hl 0 rfl) ?_
                    refine va_get (D := (dC, dI)) (C := R_M) (T := F_M) (N := 20) hx hb hT i_M hown hK hP 0 rfl rfl 12 (by decide) (hT _ k_M_36) (fun _ h9 => h9) (v := .ref (a 9)) rfl d_M_delete_157 ?_
                    refine lv_iload hx hb d_M_delete_160 (lv_at hl 4 rfl) ?_
                    refine x_lald hx hb hK hP 9 8 (f := E) rfl rfl d_M_delete_162 (by omega) ?_
                    refine x_last hx hb hK hP hD hS 9 8 (f := E) rfl rfl d_M_delete_163 (by omega) (fun H locs hP hD hS => ?_)
                    have hP : va_P (dC, dI) classes (wM a t (mu_ld (mu_lt (mu_lf (mu_ls (mu_lv σ (updN (m_lv σ) j 0)) (updN S (k) (S i))) (updN F (k) (F i))) (updN G (k) (G i))) (vp_updL E (k) (E i)))) H := hP
                    have hD : va_D A (wM a t (mu_ld (mu_lt (mu_lf (mu_ls (mu_lv σ (updN (m_lv σ) j 0)) (updN S (k) (S i))) (updN F (k) (F i))) (updN G (k) (G i))) (vp_updL E (k) (E i)))) := hD
                    refine x_iinc (lv' := [(3, .int (nI (k + 1))), (0, .ref (a 0)), (1, .int (nI j)), (2, .int (nI (cntN (m_lk σ) j (m_rn σ)))), (4, .int (nI i))]) hx hb d_M_delete_164 hl (k := 3) rfl (by decide) rfl (fun ls hl => ?_)
                    refine x_iinc (lv' := [(4, .int (nI (i + 1))), (3, .int (nI (k + 1))), (0, .ref (a 0)), (1, .int (nI j)), (2, .int (nI (cntN (m_lk σ) j (m_rn σ))))]) hx hb d_M_delete_167 hl (k := 4) rfl (by decide) rfl (fun ls hl => ?_)
                    refine lv_goto (tgt := 92) hx hb d_M_delete_170 (by decide) ?_
                    exact ih92 (i + 1) (k + 1) _ _ _ _ H locs ls (by omega) (by omega) (updN_le hF (hF i)) (updN_le hG9 (hG9 i)) (fun j' hj h9 => by rw [updN_n (by omega), updN_n (by omega), updN_n (by omega), updL_n (by omega)]; exact hrest j' (by omega) h9) (l4_keep hlst hk ⟨hSi, hri.2⟩ hne) (by omega) hP hD hS (lv_sub hl [2, 3, 4, 1, 0] rfl)
            exact hloop92 _ 0 0 (mkS (m_ls σ) (m_lf σ) (m_lt σ) j i) (m_lf σ) (m_lt σ) (m_ld σ) _ _ ls (by omega) (by omega) g_lf g_lt (fun j' _ _ => ⟨by rw [show m_ln σ = i by omega], rfl, rfl, rfl⟩) rfl (Nat.lt_succ_self _) hP hD hS (lv_sub hl [2, 3, 4, 1, 0] rfl)
          · refine lv_aload_n hx hb d_M_delete_45 rfl (lv_at hl 0 rfl) ?_
            refine va_get (D := (dC, dI)) (C := R_M) (T := F_M) (N := 20) hx hb hT i_M hown hK hP 0 rfl rfl 9 (by decide) (hT _ k_M_27) (fun _ h9 => h9) (v := .ref (a 6)) rfl d_M_delete_46 ?_
            refine lv_iload_n hx hb d_M_delete_49 rfl (lv_at hl 3 rfl) ?_
            refine lv_aload_n hx hb d_M_delete_50 rfl (lv_at hl 0 rfl) ?_
            refine va_get (D := (dC, dI)) (C := R_M) (T := F_M) (N := 20) hx hb hT i_M hown hK hP 0 rfl rfl 10 (by decide) (hT _ k_M_30) (fun _ h9 => h9) (v := .ref (a 7)) rfl d_M_delete_51 ?_
            refine lv_iload_n hx hb d_M_delete_54 rfl (lv_at hl 3 rfl) ?_
            refine x_iald hx hb hK hP 7 6 (f := (m_lf σ)) rfl rfl d_M_delete_55 (by omega) ?_
            refine lv_iload_n hx hb d_M_delete_56 rfl (lv_at hl 1 rfl) ?_
            have e1 := g_lf i
            have e2 := g_lt i
            refine x_icmp_eq (tgt := 70) hx hb d_M_delete_57 (by decide) (fun c57 => ?_) (fun c57 => ?_)
            · refine lv_iconst (v := nI 4294967295) hx hb d_M_delete_70 (by decide) ?_
              refine lv_goto (tgt := 80) hx hb d_M_delete_71 (by decide) ?_
              refine x_iast hx hb hK hP hD hS 6 5 (f := (mkS (m_ls σ) (m_lf σ) (m_lt σ) j i)) rfl rfl d_M_delete_80 (by omega) (fun H locs hP hD hS => ?_)
              have hP : va_P (dC, dI) classes (wM a t (mu_ls (mu_lv σ (updN (m_lv σ) j 0)) (updN (mkS (m_ls σ) (m_lf σ) (m_lt σ) j i) (i) (4294967295)))) H := hP
              have hD : va_D A (wM a t (mu_ls (mu_lv σ (updN (m_lv σ) j 0)) (updN (mkS (m_ls σ) (m_lf σ) (m_lt σ) j i) (i) (4294967295)))) := hD
              rw [mkS_y (by first | exact Or.inl (by assumption) | exact Or.inr (by assumption))] at hP hD
              refine x_iinc (lv' := [(3, .int (nI (i + 1))), (0, .ref (a 0)), (1, .int (nI j)), (2, .int (nI (cntN (m_lk σ) j (m_rn σ))))]) hx hb d_M_delete_81 hl (k := 3) rfl (by decide) rfl (fun ls hl => ?_)
              refine lv_goto (tgt := 37) hx hb d_M_delete_84 (by decide) ?_
              exact ih37 (i + 1) H locs ls (by omega) (by omega) hP hD hS (lv_sub hl [1, 2, 3, 0] rfl)
            · refine lv_aload_n hx hb d_M_delete_60 rfl (lv_at hl 0 rfl) ?_
              refine va_get (D := (dC, dI)) (C := R_M) (T := F_M) (N := 20) hx hb hT i_M hown hK hP 0 rfl rfl 11 (by decide) (hT _ k_M_33) (fun _ h9 => h9) (v := .ref (a 8)) rfl d_M_delete_61 ?_
              refine lv_iload_n hx hb d_M_delete_64 rfl (lv_at hl 3 rfl) ?_
              refine x_iald hx hb hK hP 8 7 (f := (m_lt σ)) rfl rfl d_M_delete_65 (by omega) ?_
              refine lv_iload_n hx hb d_M_delete_66 rfl (lv_at hl 1 rfl) ?_
              refine x_icmp_ne (tgt := 74) hx hb d_M_delete_67 (by decide) (fun c67 => ?_) (fun c67 => ?_)
              · refine lv_aload_n hx hb d_M_delete_74 rfl (lv_at hl 0 rfl) ?_
                refine va_get (D := (dC, dI)) (C := R_M) (T := F_M) (N := 20) hx hb hT i_M hown hK hP 0 rfl rfl 9 (by decide) (hT _ k_M_27) (fun _ h9 => h9) (v := .ref (a 6)) rfl d_M_delete_75 ?_
                refine lv_iload_n hx hb d_M_delete_78 rfl (lv_at hl 3 rfl) ?_
                refine x_iald hx hb hK hP 6 5 (f := (mkS (m_ls σ) (m_lf σ) (m_lt σ) j i)) rfl rfl d_M_delete_79 (by omega) ?_
                refine x_iast hx hb hK hP hD hS 6 5 (f := (mkS (m_ls σ) (m_lf σ) (m_lt σ) j i)) rfl rfl d_M_delete_80 (by omega) (fun H locs hP hD hS => ?_)
                have hP : va_P (dC, dI) classes (wM a t (mu_ls (mu_lv σ (updN (m_lv σ) j 0)) (updN (mkS (m_ls σ) (m_lf σ) (m_lt σ) j i) (i) ((mkS (m_ls σ) (m_lf σ) (m_lt σ) j i) i)))) H := hP
                have hD : va_D A (wM a t (mu_ls (mu_lv σ (updN (m_lv σ) j 0)) (updN (mkS (m_ls σ) (m_lf σ) (m_lt σ) j i) (i) ((mkS (m_ls σ) (m_lf σ) (m_lt σ) j i) i)))) := hD
                rw [mkS_n (show ¬ (m_lf σ i = j ∨ m_lt σ i = j) by omega)] at hP hD
                refine x_iinc (lv' := [(3, .int (nI (i + 1))), (0, .ref (a 0)), (1, .int (nI j)), (2, .int (nI (cntN (m_lk σ) j (m_rn σ))))]) hx hb d_M_delete_81 hl (k := 3) rfl (by decide) rfl (fun ls hl => ?_)
                refine lv_goto (tgt := 37) hx hb d_M_delete_84 (by decide) ?_
                exact ih37 (i + 1) H locs ls (by omega) (by omega) hP hD hS (lv_sub hl [1, 2, 3, 0] rfl)
              · refine lv_iconst (v := nI 4294967295) hx hb d_M_delete_70 (by decide) ?_
                refine lv_goto (tgt := 80) hx hb d_M_delete_71 (by decide) ?_
                refine x_iast hx hb hK hP hD hS 6 5 (f := (mkS (m_ls σ) (m_lf σ) (m_lt σ) j i)) rfl rfl d_M_delete_80 (by omega) (fun H locs hP hD hS => ?_)
                have hP : va_P (dC, dI) classes (wM a t (mu_ls (mu_lv σ (updN (m_lv σ) j 0)) (updN (mkS (m_ls σ) (m_lf σ) (m_lt σ) j i) (i) (4294967295)))) H := hP
                have hD : va_D A (wM a t (mu_ls (mu_lv σ (updN (m_lv σ) j 0)) (updN (mkS (m_ls σ) (m_lf σ) (m_lt σ) j i) (i) (4294967295)))) := hD
                rw [mkS_y (by first | exact Or.inl (by assumption) | exact Or.inr (by assumption))] at hP hD
                refine x_iinc (lv' := [(3, .int (nI (i + 1))), (0, .ref (a 0)), (1, .int (nI j)), (2, .int (nI (cntN (m_lk σ) j (m_rn σ))))]) hx hb d_M_delete_81 hl (k := 3) rfl (by decide) rfl (fun ls hl => ?_)
                refine lv_goto (tgt := 37) hx hb d_M_delete_84 (by decide) ?_
                exact ih37 (i + 1) H locs ls (by omega) (by omega) hP hD hS (lv_sub hl [1, 2, 3, 0] rfl)
      exact hloop37 _ 0 _ _ ls (by omega) (Nat.lt_succ_self _) hP hD hS (lv_sub hl [2, 3, 1, 0] rfl)
    · refine lv_iload_n hx hb d_M_delete_25 rfl (lv_at hl 0 rfl) ?_
      refine lv_ineg hx hb d_M_delete_26 ?_
      exact x_mi (wl := wM a t) σ hx hb hr hlk hK hP hD hS d_M_delete_27 (Or.inr ⟨j, hj1, hj2, hj3, rfl, Or.inl ⟨by omega, rfl, rfl⟩⟩)
  · refine x_if_ne (tgt := 15) hx hb d_M_delete_10 (by decide) (fun h => absurd h (by decide)) (fun _ => ?_)
    refine lv_iconst (v := nI 0) hx hb d_M_delete_13 (by decide) ?_
    exact x_mi (wl := wM a t) σ hx hb hr hlk hK hP hD hS d_M_delete_14 (Or.inl ⟨hnj, rfl, rfl⟩)

def eaM (σ : SM) (ag i : Nat) : Nat := if ag = 0 then m_lf σ i else m_lt σ i
def ebM (σ : SM) (ag i : Nat) : Nat := if ag = 0 then m_lt σ i else m_lf σ i
/-- a way of n links of the sort (against them, if ag is 1) -/
def WLK (σ : SM) (q ag x : Nat) : Nat → Nat → Prop
  | 0, h => h = x
  | n + 1, h => ∃ i, i < m_ln σ ∧ m_ls σ i = q ∧ ebM σ ag i = h ∧ WLK σ q ag x n (eaM σ ag i)
def smD (f : Nat → Nat) : Nat → Nat
  | 0 => 0
  | n + 1 => smD f n + f (n + 1)
theorem smD_out {f : Nat → Nat} {b v : Nat} : ∀ {n : Nat}, n < b → smD (updN f b v) n = smD f n := by
  intro n
  induction n with
  | zero => intro _; rfl
  | succ n ih =>
    intro h
    simp only [smD]
    rw [ih (by omega), updN_n (by omega)]
theorem smD_upd {f : Nat → Nat} {b v : Nat} : ∀ {n : Nat}, 1 ≤ b → b ≤ n → smD (updN f b v) n + f b = smD f n + v := by
  intro n
  induction n with
  | zero => intro h1 h2; omega
  | succ n ih =>
    intro h1 h2
    simp only [smD]
    by_cases e : b = n + 1
    · subst e
      rw [smD_out (by omega), updN_s]
      omega
    · have := ih h1 (by omega)
      rw [updN_n (by omega)]
      omega
def DOK (σ : SM) (q ag x : Nat) (D : Nat → Nat) : Prop := (∀ j, D j ≤ 100) ∧ D x = 0 ∧ ∀ h, 1 ≤ h → h ≤ m_hn σ → D h < 100 → WLK σ q ag x (D h) h
theorem DOK_put {σ : SM} {q ag x : Nat} {D : Nat → Nat} {i A B : Nat} (h : DOK σ q ag x D) (hi : i < m_ln σ) (hq : m_ls σ i = q) (eA : eaM σ ag i = A) (eB : ebM σ ag i = B) (hA : 1 ≤ A ∧ A ≤ m_hn σ) (hl : D A + 1 < D B) : DOK σ q ag x (updN D B (D A + 1)) := by
  have hB := h.1 B
  refine ⟨updN_le h.1 (by omega), ?_, fun g h1 h2 h3 => ?_⟩
  · rw [updN_n (fun z => by rw [← z, h.2.1] at hl; omega)]; exact h.2.1
  · by_cases e : g = B
    · subst e
      rw [updN_s]
      exact ⟨i, hi, hq, eB, by rw [eA]; exact h.2.2 A hA.1 hA.2 (by omega)⟩
    · rw [updN_n e] at h3 ⊢
      exact h.2.2 g h1 h2 h3
theorem ini_s {D : Nat → Nat} {k x v : Nat} (hD : ∀ j, 1 ≤ j → j ≤ k → D j = if j = x then 0 else 100) (hv : v = if k + 1 = x then 0 else 100) : ∀ j, 1 ≤ j → j ≤ k + 1 → updN D (k + 1) v j = if j = x then 0 else 100 := by
  intro j h1 h2
  by_cases h : j = k + 1
  · rw [h, updN_s]; exact hv
  · rw [updN_n h]; exact hD j h1 (by omega)
set_option maxRecDepth 100000 in
set_option maxHeartbeats 4000000 in
theorem c_M_measure (l : Launch) (dC : Nat → ClassId) (dI : Nat → Nat → Nat) (a : Nat → Nat) (t : Nat → ClassId) (σ : SM) (sz : Nat) (hG : GM σ) (hL : GL σ) (q x ag : Nat) (hq : q < 4) (hx1 : 1 ≤ x) (hx2 : x ≤ m_hn σ) (hag : ag ≤ 1) (hE : ∀ i, i < m_ln σ → (1 ≤ m_lf σ i ∧ m_lf σ i ≤ m_hn σ) ∧ (1 ≤ m_lt σ i ∧ m_lt σ i ≤ m_hn σ)) : Met l y_M_measure (wS y_M_measure b_M_measure 8 none) (rD 0) (va_Pc [.ref (a 0), .int (nI q), .int (nI x), .int (nI ag)] (MB (dC, dI) (yM t) (wM a t σ) sz)) (va_Qv (fun u : SM => ∃ D : Nat → Nat, u = mu_di σ D ∧ DOK σ q ag x D ∧ ∀ i, i < m_ln σ → m_ls σ i = q → D (ebM σ ag i) ≤ D (eaM σ ag i) + 1) (fun u => ME (dC, dI) (yM t) (va_A (wM a t σ) sz) (wM a t u)) (va_A (wM a t σ) sz)) 0 0 (va_A (wM a t σ) sz) := by
  refine x_enter (by decide) (Nat.le_of_ble_eq_true rfl) ?_
  intro p e s m below meth c ls hx hb hr hml hT hown hlk hnm hl hB
  obtain ⟨rfl, hP, hK, hN, hD0⟩ := hB
  have hD := hD0.self (sz := s.heap.size)
  generalize hAe : va_A (wM a t σ) s.heap.size = A at hD ⊢
  have hA : ∀ q : Nat, s.heap.size ≤ q → A q := fun q h => by rw [← hAe]; exact Or.inr h
  have hS : va_S A s.heap s.heap [] := va_S.rf
  have hP : va_P (dC, dI) classes (wM a t σ) s.heap := hP
  have hl : lv_has ls 8 [(0, .ref (a 0)), (1, .int (nI q)), (2, .int (nI x)), (3, .int (nI ag))] := hl
  have hown : s.vm.findClass R_M = some m.cls := hown
  have hG2 := hG
  obtain ⟨g_sz, g_sd, g_hn, g_kd, g_lv, g_tx, g_zs, g_ln, g_lf, g_lt, g_rn, g_lk, g_wy, g_wn, g_di, g_co⟩ := hG
  refine lv_iconst (v := nI 1) hx hb d_M_measure_0 (by decide) ?_
  refine lv_istore (lv' := [(4, .int (nI 1)), (0, .ref (a 0)), (1, .int (nI q)), (2, .int (nI x)), (3, .int (nI ag))]) hx hb d_M_measure_1 hl (by decide) rfl (fun ls hl => ?_)
  have hloop3 : ∀ (n3 : Nat) (k : Nat) (D : Nat → Nat) (H : Heap) (locs : List Loc) (ls : Array Slot), k ≤ m_hn σ → (∀ j, D j ≤ 100) → (∀ j, 1 ≤ j → j ≤ k → D j = if j = x then 0 else 100) → m_hn σ + 1 - k < n3 → va_P (dC, dI) classes (wM a t (mu_di σ (D))) H → va_D A (wM a t (mu_di σ (D))) → va_S A s.heap H locs → lv_has ls 8 [(0, .ref (a 0)), (1, .int (nI q)), (2, .int (nI x)), (3, .int (nI ag)), (4, .int (nI (k + 1)))] → W p l e (rD 0) s m ([.ref (a 0), .int (nI q), .int (nI x), .int (nI ag)] : List Value).toArray below meth c H locs 0 0 (MQ below (va_Qv (fun u : SM => ∃ D : Nat → Nat, u = mu_di σ D ∧ DOK σ q ag x D ∧ ∀ i, i < m_ln σ → m_ls σ i = q → D (ebM σ ag i) ≤ D (eaM σ ag i) + 1) (fun u => ME (dC, dI) (yM t) A (wM a t u)) A) ([.ref (a 0), .int (nI q), .int (nI x), .int (nI ag)] : List Value).toArray s 0 0 A) (F0 m 3 ls []) := by
    intro n3
    induction n3 with
    | zero => intro k D H locs ls _ _ _ h9; exact absurd h9 (Nat.not_lt_zero _)
    | succ n3 ih3 =>
      intro k D H locs ls hk hD1 hD2 hmu3 hP hD hS hl
      refine lv_iload hx hb d_M_measure_3 (lv_at hl 4 rfl) ?_
      refine lv_aload_n hx hb d_M_measure_5 rfl (lv_at hl 0 rfl) ?_
      refine va_get (D := (dC, dI)) (C := R_M) (T := F_M) (N := 20) hx hb hT i_M hown hK hP 0 rfl rfl 3 (by decide) (hT _ k_M_66) (fun _ h9 => h9) (v := .int (nI (m_hn σ))) rfl d_M_measure_6 ?_
      refine x_icmp_gt (tgt := 37) hx hb d_M_measure_9 (by decide) (fun c9 => ?_) (fun c9 => ?_)
      · refine lv_iconst (v := nI 1) hx hb d_M_measure_37 (by decide) ?_
        refine lv_istore (lv' := [(4, .int (nI 1)), (0, .ref (a 0)), (1, .int (nI q)), (2, .int (nI x)), (3, .int (nI ag))]) hx hb d_M_measure_38 hl (by decide) rfl (fun ls hl => ?_)
        have hloop40 : ∀ (n40 : Nat) (ee : Nat) (D : Nat → Nat) (H : Heap) (locs : List Loc) (ls : Array Slot), ee ≤ 1 → DOK σ q ag x D → (ee = 0 → ∀ i, i < m_ln σ → m_ls σ i = q → D (ebM σ ag i) ≤ D (eaM σ ag i) + 1) → 2 * smD D (m_hn σ) + ee < n40 → va_P (dC, dI) classes (wM a t (mu_di σ (D))) H → va_D A (wM a t (mu_di σ (D))) → va_S A s.heap H locs → lv_has ls 8 [(0, .ref (a 0)), (1, .int (nI q)), (2, .int (nI x)), (3, .int (nI ag)), (4, .int (nI ee))] → W p l e (rD 0) s m ([.ref (a 0), .int (nI q), .int (nI x), .int (nI ag)] : List Value).toArray below meth c H locs 0 0 (MQ below (va_Qv (fun u : SM => ∃ D : Nat → Nat, u = mu_di σ D ∧ DOK σ q ag x D ∧ ∀ i, i < m_ln σ → m_ls σ i = q → D (ebM σ ag i) ≤ D (eaM σ ag i) + 1) (fun u => ME (dC, dI) (yM t) A (wM a t u)) A) ([.ref (a 0), .int (nI q), .int (nI x), .int (nI ag)] : List Value).toArray s 0 0 A) (F0 m 40 ls []) := by
          intro n40
          induction n40 with
          | zero => intro ee D H locs ls _ _ _ h9; exact absurd h9 (Nat.not_lt_zero _)
          | succ n40 ih40 =>
            intro ee D H locs ls he hok hfin hmu40 hP hD hS hl
            refine lv_iload hx hb d_M_measure_40 (lv_at hl 4 rfl) ?_
            refine x_if_eq (tgt := 164) hx hb d_M_measure_42 (by decide) (fun c42 => ?_) (fun c42 => ?_)
            · exact x_mv (wl := wM a t) (mu_di σ (D)) hx hb hr hlk hK hP hD hS d_M_measure_164 ⟨D, rfl, hok, hfin (by omega)⟩
            · refine lv_iconst (v := nI 0) hx hb d_M_measure_45 (by decide) ?_
              refine lv_istore (lv' := [(4, .int (nI 0)), (0, .ref (a 0)), (1, .int (nI q)), (2, .int (nI x)), (3, .int (nI ag))]) hx hb d_M_measure_46 hl (by decide) rfl (fun ls hl => ?_)
              refine lv_iconst (v := nI 0) hx hb d_M_measure_48 (by decide) ?_
              refine lv_istore (lv' := [(5, .int (nI 0)), (4, .int (nI 0)), (0, .ref (a 0)), (1, .int (nI q)), (2, .int (nI x)), (3, .int (nI ag))]) hx hb d_M_measure_49 hl (by decide) rfl (fun ls hl => ?_)
              have hloop51 : ∀ (n51 : Nat) (i : Nat) (e2 : Nat) (D2 : Nat → Nat) (H : Heap) (locs : List Loc) (ls : Array Slot), i ≤ m_ln σ → e2 ≤ 1 → smD D2 (m_hn σ) + e2 ≤ smD D (m_hn σ) → DOK σ q ag x D2 → (e2 = 0 → ∀ i9, i9 < i → m_ls σ i9 = q → D2 (ebM σ ag i9) ≤ D2 (eaM σ ag i9) + 1) → m_ln σ + 1 - i < n51 → va_P (dC, dI) classes (wM a t (mu_di σ (D2))) H → va_D A (wM a t (mu_di σ (D2))) → va_S A s.heap H locs → lv_has ls 8 [(0, .ref (a 0)), (1, .int (nI q)), (2, .int (nI x)), (3, .int (nI ag)), (4, .int (nI e2)), (5, .int (nI i))] → W p l e (rD 0) s m ([.ref (a 0), .int (nI q), .int (nI x), .int (nI ag)] : List Value).toArray below meth c H locs 0 0 (MQ below (va_Qv (fun u : SM => ∃ D : Nat → Nat, u = mu_di σ D ∧ DOK σ q ag x D ∧ ∀ i, i < m_ln σ → m_ls σ i = q → D (ebM σ ag i) ≤ D (eaM σ ag i) + 1) (fun u => ME (dC, dI) (yM t) A (wM a t u)) A) ([.ref (a 0), .int (nI q), .int (nI x), .int (nI ag)] : List Value).toArray s 0 0 A) (F0 m 51 ls []) := by
                intro n51
                induction n51 with
                | zero => intro i e2 D2 H locs ls _ _ _ _ _ h9; exact absurd h9 (Nat.not_lt_zero _)
                | succ n51 ih51 =>
                  intro i e2 D2 H locs ls hi he2 hs2 hok2 hf2 hmu51 hP hD hS hl
                  refine lv_iload hx hb d_M_measure_51 (lv_at hl 5 rfl) ?_
                  refine lv_aload_n hx hb d_M_measure_53 rfl (lv_at hl 0 rfl) ?_
                  refine va_get (D := (dC, dI)) (C := R_M) (T := F_M) (N := 20) hx hb hT i_M hown hK hP 0 rfl rfl 8 (by decide) (hT _ k_M_97) (fun _ h9 => h9) (v := .int (nI (m_ln σ))) rfl d_M_measure_54 ?_
                  refine x_icmp_ge (tgt := 161) hx hb d_M_measure_57 (by decide) (fun c57 => ?_) (fun c57 => ?_)
                  · refine lv_goto (tgt := 40) hx hb d_M_measure_161 (by decide) ?_
                    exact ih40 e2 D2 H locs ls he2 hok2 (fun h9 i9 h8 => hf2 h9 i9 (by omega)) (by omega) hP hD hS (lv_sub hl [0, 1, 2, 3, 4] rfl)
                  · refine lv_aload_n hx hb d_M_measure_60 rfl (lv_at hl 0 rfl) ?_
                    refine va_get (D := (dC, dI)) (C := R_M) (T := F_M) (N := 20) hx hb hT i_M hown hK hP 0 rfl rfl 9 (by decide) (hT _ k_M_27) (fun _ h9 => h9) (v := .ref (a 6)) rfl d_M_measure_61 ?_
                    refine lv_iload hx hb d_M_measure_64 (lv_at hl 5 rfl) ?_
                    refine x_iald hx hb hK hP 6 5 (f := (m_ls σ)) rfl rfl d_M_measure_66 (by omega) ?_
                    refine lv_iload_n hx hb d_M_measure_67 rfl (lv_at hl 1 rfl) ?_
                    have e1 := hL i (by omega)
                    have e3 := hE i (by omega)
                    have e4 := hok2.1 (m_lf σ i)
                    have e5 := hok2.1 (m_lt σ i)
                    refine x_icmp_ne (tgt := 155) hx hb d_M_measure_68 (by decide) (fun c68 => ?_) (fun c68 => ?_)
                    · refine x_iinc (lv' := [(5, .int (nI (i + 1))), (0, .ref (a 0)), (1, .int (nI q)), (2, .int (nI x)), (3, .int (nI ag)), (4, .int (nI e2))]) hx hb d_M_measure_155 hl (k := 5) rfl (by decide) rfl (fun ls hl => ?_)
                      refine lv_goto (tgt := 51) hx hb d_M_measure_158 (by decide) ?_
                      exact ih51 (i + 1) e2 D2 H locs ls (by omega) he2 hs2 hok2 (fun h9 i9 h8 h7 => by rcases Nat.lt_succ_iff_lt_or_eq.mp h8 with h6 | h6; exact hf2 h9 i9 h6 h7; rw [h6] at h7 ⊢; first | exact absurd h7 c68 | (unfold eaM ebM; first | (rw [if_pos (by omega), if_pos (by omega)]; omega) | (rw [if_neg (by omega), if_neg (by omega)]; omega))) (by omega) hP hD hS (lv_sub hl [1, 2, 3, 4, 5, 0] rfl)
                    · refine lv_iload_n hx hb d_M_measure_71 rfl (lv_at hl 3 rfl) ?_
                      refine x_if_eq (tgt := 85) hx hb d_M_measure_72 (by decide) (fun c72 => ?_) (fun c72 => ?_)
                      · refine lv_aload_n hx hb d_M_measure_85 rfl (lv_at hl 0 rfl) ?_
                        refine va_get (D := (dC, dI)) (C := R_M) (T := F_M) (N := 20) hx hb hT i_M hown hK hP 0 rfl rfl 10 (by decide) (hT _ k_M_30) (fun _ h9 => h9) (v := .ref (a 7)) rfl d_M_measure_86 ?_
                        refine lv_iload hx hb d_M_measure_89 (lv_at hl 5 rfl) ?_
                        refine x_iald hx hb hK hP 7 6 (f := (m_lf σ)) rfl rfl d_M_measure_91 (by omega) ?_
                        refine lv_istore (lv' := [(6, .int (nI ((m_lf σ) i))), (0, .ref (a 0)), (1, .int (nI q)), (2, .int (nI x)), (3, .int (nI ag)), (4, .int (nI e2)), (5, .int (nI i))]) hx hb d_M_measure_92 hl (by decide) rfl (fun ls hl => ?_)
                        refine lv_iload_n hx hb d_M_measure_94 rfl (lv_at hl 4 rfl) ?_
                        refine x_if_eq (tgt := 108) hx hb d_M_measure_95 (by decide) (fun c95 => ?_) (fun c95 => ?_)
                        · refine lv_aload_n hx hb d_M_measure_108 rfl (lv_at hl 1 rfl) ?_
                          refine va_get (D := (dC, dI)) (C := R_M) (T := F_M) (N := 20) hx hb hT i_M hown hK hP 0 rfl rfl 11 (by decide) (hT _ k_M_33) (fun _ h9 => h9) (v := .ref (a 8)) rfl d_M_measure_109 ?_
                          refine lv_iload hx hb d_M_measure_112 (lv_at hl 6 rfl) ?_
                          refine x_iald hx hb hK hP 8 7 (f := (m_lt σ)) rfl rfl d_M_measure_114 (by omega) ?_
                          refine lv_istore (lv' := [(7, .int (nI ((m_lt σ) i))), (6, .int (nI ((m_lf σ) i))), (0, .ref (a 0)), (1, .int (nI q)), (2, .int (nI x)), (3, .int (nI ag)), (4, .int (nI e2)), (5, .int (nI i))]) hx hb d_M_measure_115 hl (by decide) rfl (fun ls hl => ?_)
                          refine lv_aload_n hx hb d_M_measure_117 rfl (lv_at hl 2 rfl) ?_
                          refine va_get (D := (dC, dI)) (C := R_M) (T := F_M) (N := 20) hx hb hT i_M hown hK hP 0 rfl rfl 18 (by decide) (hT _ k_M_49) (fun _ h9 => h9) (v := .ref (a 13)) rfl d_M_measure_118 ?_
                          refine lv_iload hx hb d_M_measure_121 (lv_at hl 1 rfl) ?_
                          refine x_iald hx hb hK hP 13 12 (f := D2) rfl rfl d_M_measure_123 (by omega) ?_
                          refine lv_iconst (v := nI 1) hx hb d_M_measure_124 (by decide) ?_
                          refine x_iadd hx hb d_M_measure_125 ?_
                          refine lv_aload_n hx hb d_M_measure_126 rfl (lv_at hl 2 rfl) ?_
                          refine va_get (D := (dC, dI)) (C := R_M) (T := F_M) (N := 20) hx hb hT i_M hown hK hP 0 rfl rfl 18 (by decide) (hT _ k_M_49) (fun _ h9 => h9) (v := .ref (a 13)) rfl d_M_measure_127 ?_
                          refine lv_iload hx hb d_M_measure_130 (lv_at hl 0 rfl) ?_
                          refine x_iald hx hb hK hP 13 12 (f := D2) rfl rfl d_M_measure_132 (by omega) ?_
                          refine x_icmp_ge (tgt := 155) hx hb d_M_measure_133 (by decide) (fun c133 => ?_) (fun c133 => ?_)
                          · refine x_iinc (lv' := [(5, .int (nI (i + 1))), (7, .int (nI ((m_lt σ) i))), (6, .int (nI ((m_lf σ) i))), (0, .ref (a 0)), (1, .int (nI q)), (2, .int (nI x)), (3, .int (nI ag)), (4, .int (nI e2))]) hx hb d_M_measure_155 hl (k := 7) rfl (by decide) rfl (fun ls hl => ?_)
                            refine lv_goto (tgt := 51) hx hb d_M_measure_158 (by decide) ?_
                            exact ih51 (i + 1) e2 D2 H locs ls (by omega) he2 hs2 hok2 (fun h9 i9 h8 h7 => by rcases Nat.lt_succ_iff_lt_or_eq.mp h8 with h6 | h6; exact hf2 h9 i9 h6 h7; rw [h6] at h7 ⊢; first | exact absurd h7 c68 | (unfold eaM ebM; first | (rw [if_pos (by omega), if_pos (by omega)]; omega) | (rw [if_neg (by omega), if_neg (by omega)]; omega))) (by omega) hP hD hS (lv_sub hl [3, 4, 5, 6, 7, 0] rfl)
                          · refine lv_aload_n hx hb d_M_measure_136 rfl (lv_at hl 2 rfl) ?_
                            refine va_get (D := (dC, dI)) (C := R_M) (T := F_M) (N := 20) hx hb hT i_M hown hK hP 0 rfl rfl 18 (by decide) (hT _ k_M_49) (fun _ h9 => h9) (v := .ref (a 13)) rfl d_M_measure_137 ?_
                            refine lv_iload hx hb d_M_measure_140 (lv_at hl 0 rfl) ?_
                            refine lv_aload_n hx hb d_M_measure_142 rfl (lv_at hl 2 rfl) ?_
                            refine va_get (D := (dC, dI)) (C := R_M) (T := F_M) (N := 20) hx hb hT i_M hown hK hP 0 rfl rfl 18 (by decide) (hT _ k_M_49) (fun _ h9 => h9) (v := .ref (a 13)) rfl d_M_measure_143 ?_
                            refine lv_iload hx hb d_M_measure_146 (lv_at hl 1 rfl) ?_
                            refine x_iald hx hb hK hP 13 12 (f := D2) rfl rfl d_M_measure_148 (by omega) ?_
                            refine lv_iconst (v := nI 1) hx hb d_M_measure_149 (by decide) ?_
                            refine x_iadd hx hb d_M_measure_150 ?_
                            refine x_iast hx hb hK hP hD hS 13 12 (f := D2) rfl rfl d_M_measure_151 (by omega) (fun H locs hP hD hS => ?_)
                            have hP : va_P (dC, dI) classes (wM a t (mu_di σ (updN D2 ((m_lt σ) i) ((D2 ((m_lf σ) i)) + 1)))) H := hP
                            have hD : va_D A (wM a t (mu_di σ (updN D2 ((m_lt σ) i) ((D2 ((m_lf σ) i)) + 1)))) := hD
                            have hok3 : DOK σ q ag x (updN D2 ((m_lt σ) i) (D2 ((m_lf σ) i) + 1)) := by first | (exfalso; omega) | exact DOK_put hok2 (by omega) (by assumption) (by unfold eaM; first | rw [if_pos (by omega)] | rw [if_neg (by omega)]) (by unfold ebM; first | rw [if_pos (by omega)] | rw [if_neg (by omega)]) (by omega) (by omega)
                            have hsm := smD_upd (f := D2) (b := (m_lt σ) i) (v := D2 ((m_lf σ) i) + 1) (n := m_hn σ) (by omega) (by omega)
                            refine lv_iconst (v := nI 1) hx hb d_M_measure_152 (by decide) ?_
                            refine lv_istore (lv' := [(4, .int (nI 1)), (7, .int (nI ((m_lt σ) i))), (6, .int (nI ((m_lf σ) i))), (0, .ref (a 0)), (1, .int (nI q)), (2, .int (nI x)), (3, .int (nI ag)), (5, .int (nI i))]) hx hb d_M_measure_153 hl (by decide) rfl (fun ls hl => ?_)
                            refine x_iinc (lv' := [(5, .int (nI (i + 1))), (4, .int (nI 1)), (7, .int (nI ((m_lt σ) i))), (6, .int (nI ((m_lf σ) i))), (0, .ref (a 0)), (1, .int (nI q)), (2, .int (nI x)), (3, .int (nI ag))]) hx hb d_M_measure_155 hl (k := 7) rfl (by decide) rfl (fun ls hl => ?_)
                            refine lv_goto (tgt := 51) hx hb d_M_measure_158 (by decide) ?_
                            exact ih51 (i + 1) 1 _ H locs ls (by omega) (by omega) (by omega) hok3 (fun h9 => absurd h9 (by decide)) (by omega) hP hD hS (lv_sub hl [4, 5, 6, 7, 1, 0] rfl)
                        · refine lv_aload_n hx hb d_M_measure_98 rfl (lv_at hl 1 rfl) ?_
                          refine va_get (D := (dC, dI)) (C := R_M) (T := F_M) (N := 20) hx hb hT i_M hown hK hP 0 rfl rfl 10 (by decide) (hT _ k_M_30) (fun _ h9 => h9) (v := .ref (a 7)) rfl d_M_measure_99 ?_
                          refine lv_iload hx hb d_M_measure_102 (lv_at hl 6 rfl) ?_
                          refine x_iald hx hb hK hP 7 6 (f := (m_lf σ)) rfl rfl d_M_measure_104 (by omega) ?_
                          refine lv_goto (tgt := 115) hx hb d_M_measure_105 (by decide) ?_
                          refine lv_istore (lv' := [(7, .int (nI ((m_lf σ) i))), (6, .int (nI ((m_lf σ) i))), (0, .ref (a 0)), (1, .int (nI q)), (2, .int (nI x)), (3, .int (nI ag)), (4, .int (nI e2)), (5, .int (nI i))]) hx hb d_M_measure_115 hl (by decide) rfl (fun ls hl => ?_)
                          refine lv_aload_n hx hb d_M_measure_117 rfl (lv_at hl 2 rfl) ?_
                          refine va_get (D := (dC, dI)) (C := R_M) (T := F_M) (N := 20) hx hb hT i_M hown hK hP 0 rfl rfl 18 (by decide) (hT _ k_M_49) (fun _ h9 => h9) (v := .ref (a 13)) rfl d_M_measure_118 ?_
                          refine lv_iload hx hb d_M_measure_121 (lv_at hl 1 rfl) ?_
                          refine x_iald hx hb hK hP 13 12 (f := D2) rfl rfl d_M_measure_123 (by omega) ?_
                          refine lv_iconst (v := nI 1) hx hb d_M_measure_124 (by decide) ?_
                          refine x_iadd hx hb d_M_measure_125 ?_
                          refine lv_aload_n hx hb d_M_measure_126 rfl (lv_at hl 2 rfl) ?_
                          refine va_get (D := (dC, dI)) (C := R_M) (T := F_M) (N := 20) hx hb hT i_M hown hK hP 0 rfl rfl 18 (by decide) (hT _ k_M_49) (fun _ h9 => h9) (v := .ref (a 13)) rfl d_M_measure_127 ?_
                          refine lv_iload hx hb d_M_measure_130 (lv_at hl 0 rfl) ?_
                          refine x_iald hx hb hK hP 13 12 (f := D2) rfl rfl d_M_measure_132 (by omega) ?_
                          refine x_icmp_ge (tgt := 155) hx hb d_M_measure_133 (by decide) (fun c133 => ?_) (fun c133 => ?_)
                          · refine x_iinc (lv' := [(5, .int (nI (i + 1))), (7, .int (nI ((m_lf σ) i))), (6, .int (nI ((m_lf σ) i))), (0, .ref (a 0)), (1, .int (nI q)), (2, .int (nI x)), (3, .int (nI ag)), (4, .int (nI e2))]) hx hb d_M_measure_155 hl (k := 7) rfl (by decide) rfl (fun ls hl => ?_)
                            refine lv_goto (tgt := 51) hx hb d_M_measure_158 (by decide) ?_
                            exact ih51 (i + 1) e2 D2 H locs ls (by omega) he2 hs2 hok2 (fun h9 i9 h8 h7 => by rcases Nat.lt_succ_iff_lt_or_eq.mp h8 with h6 | h6; exact hf2 h9 i9 h6 h7; rw [h6] at h7 ⊢; first | exact absurd h7 c68 | (unfold eaM ebM; first | (rw [if_pos (by omega), if_pos (by omega)]; omega) | (rw [if_neg (by omega), if_neg (by omega)]; omega))) (by omega) hP hD hS (lv_sub hl [3, 4, 5, 6, 7, 0] rfl)
                          · refine lv_aload_n hx hb d_M_measure_136 rfl (lv_at hl 2 rfl) ?_
                            refine va_get (D := (dC, dI)) (C := R_M) (T := F_M) (N := 20) hx hb hT i_M hown hK hP 0 rfl rfl 18 (by decide) (hT _ k_M_49) (fun _ h9 => h9) (v := .ref (a 13)) rfl d_M_measure_137 ?_
                            refine lv_iload hx hb d_M_measure_140 (lv_at hl 0 rfl) ?_
                            refine lv_aload_n hx hb d_M_measure_142 rfl (lv_at hl 2 rfl) ?_
                            refine va_get (D := (dC, dI)) (C := R_M) (T := F_M) (N := 20) hx hb hT i_M hown hK hP 0 rfl rfl 18 (by decide) (hT _ k_M_49) (fun _ h9 => h9) (v := .ref (a 13)) rfl d_M_measure_143 ?_
                            refine lv_iload hx hb d_M_measure_146 (lv_at hl 1 rfl) ?_
                            refine x_iald hx hb hK hP 13 12 (f := D2) rfl rfl d_M_measure_148 (by omega) ?_
                            refine lv_iconst (v := nI 1) hx hb d_M_measure_149 (by decide) ?_
                            refine x_iadd hx hb d_M_measure_150 ?_
                            refine x_iast hx hb hK hP hD hS 13 12 (f := D2) rfl rfl d_M_measure_151 (by omega) (fun H locs hP hD hS => ?_)
                            have hP : va_P (dC, dI) classes (wM a t (mu_di σ (updN D2 ((m_lf σ) i) ((D2 ((m_lf σ) i)) + 1)))) H := hP
                            have hD : va_D A (wM a t (mu_di σ (updN D2 ((m_lf σ) i) ((D2 ((m_lf σ) i)) + 1)))) := hD
                            have hok3 : DOK σ q ag x (updN D2 ((m_lf σ) i) (D2 ((m_lf σ) i) + 1)) := by first | (exfalso; omega) | exact DOK_put hok2 (by omega) (by assumption) (by unfold eaM; first | rw [if_pos (by omega)] | rw [if_neg (by omega)]) (by unfold ebM; first | rw [if_pos (by omega)] | rw [if_neg (by omega)]) (by omega) (by omega)
                            have hsm := smD_upd (f := D2) (b := (m_lf σ) i) (v := D2 ((m_lf σ) i) + 1) (n := m_hn σ) (by omega) (by omega)
                            refine lv_iconst (v := nI 1) hx hb d_M_measure_152 (by decide) ?_
                            refine lv_istore (lv' := [(4, .int (nI 1)), (7, .int (nI ((m_lf σ) i))), (6, .int (nI ((m_lf σ) i))), (0, .ref (a 0)), (1, .int (nI q)), (2, .int (nI x)), (3, .int (nI ag)), (5, .int (nI i))]) hx hb d_M_measure_153 hl (by decide) rfl (fun ls hl => ?_)
                            refine x_iinc (lv' := [(5, .int (nI (i + 1))), (4, .int (nI 1)), (7, .int (nI ((m_lf σ) i))), (6, .int (nI ((m_lf σ) i))), (0, .ref (a 0)), (1, .int (nI q)), (2, .int (nI x)), (3, .int (nI ag))]) hx hb d_M_measure_155 hl (k := 7) rfl (by decide) rfl (fun ls hl => ?_)
                            refine lv_goto (tgt := 51) hx hb d_M_measure_158 (by decide) ?_
                            exact ih51 (i + 1) 1 _ H locs ls (by omega) (by omega) (by omega) hok3 (fun h9 => absurd h9 (by decide)) (by omega) hP hD hS (lv_sub hl [4, 5, 6, 7, 1, 0] rfl)
                      · refine lv_aload_n hx hb d_M_measure_75 rfl (lv_at hl 0 rfl) ?_
                        refine va_get (D := (dC, dI)) (C := R_M) (T := F_M) (N := 20) hx hb hT i_M hown hK hP 0 rfl rfl 11 (by decide) (hT _ k_M_33) (fun _ h9 => h9) (v := .ref (a 8)) rfl d_M_measure_76 ?_
                        refine lv_iload hx hb d_M_measure_79 (lv_at hl 5 rfl) ?_
                        refine x_iald hx hb hK hP 8 7 (f := (m_lt σ)) rfl rfl d_M_measure_81 (by omega) ?_
                        refine lv_goto (tgt := 92) hx hb d_M_measure_82 (by decide) ?_
                        refine lv_istore (lv' := [(6, .int (nI ((m_lt σ) i))), (0, .ref (a 0)), (1, .int (nI q)), (2, .int (nI x)), (3, .int (nI ag)), (4, .int (nI e2)), (5, .int (nI i))]) hx hb d_M_measure_92 hl (by decide) rfl (fun ls hl => ?_)
                        refine lv_iload_n hx hb d_M_measure_94 rfl (lv_at hl 4 rfl) ?_
                        refine x_if_eq (tgt := 108) hx hb d_M_measure_95 (by decide) (fun c95 => ?_) (fun c95 => ?_)
                        · refine lv_aload_n hx hb d_M_measure_108 rfl (lv_at hl 1 rfl) ?_
                          refine va_get (D := (dC, dI)) (C := R_M) (T := F_M) (N := 20) hx hb hT i_M hown hK hP 0 rfl rfl 11 (by decide) (hT _ k_M_33) (fun _ h9 => h9) (v := .ref (a 8)) rfl d_M_measure_109 ?_
                          refine lv_iload hx hb d_M_measure_112 (lv_at hl 6 rfl) ?_
                          refine x_iald hx hb hK hP 8 7 (f := (m_lt σ)) rfl rfl d_M_measure_114 (by omega) ?_
                          refine lv_istore (lv' := [(7, .int (nI ((m_lt σ) i))), (6, .int (nI ((m_lt σ) i))), (0, .ref (a 0)), (1, .int (nI q)), (2, .int (nI x)), (3, .int (nI ag)), (4, .int (nI e2)), (5, .int (nI i))]) hx hb d_M_measure_115 hl (by decide) rfl (fun ls hl => ?_)
                          refine lv_aload_n hx hb d_M_measure_117 rfl (lv_at hl 2 rfl) ?_
                          refine va_get (D := (dC, dI)) (C := R_M) (T := F_M) (N := 20) hx hb hT i_M hown hK hP 0 rfl rfl 18 (by decide) (hT _ k_M_49) (fun _ h9 => h9) (v := .ref (a 13)) rfl d_M_measure_118 ?_
                          refine lv_iload hx hb d_M_measure_121 (lv_at hl 1 rfl) ?_
                          refine x_iald hx hb hK hP 13 12 (f := D2) rfl rfl d_M_measure_123 (by omega) ?_
                          refine lv_iconst (v := nI 1) hx hb d_M_measure_124 (by decide) ?_
                          refine x_iadd hx hb d_M_measure_125 ?_
                          refine lv_aload_n hx hb d_M_measure_126 rfl (lv_at hl 2 rfl) ?_
                          refine va_get (D := (dC, dI)) (C := R_M) (T := F_M) (N := 20) hx hb hT i_M hown hK hP 0 rfl rfl 18 (by decide) (hT _ k_M_49) (fun _ h9 => h9) (v := .ref (a 13)) rfl d_M_measure_127 ?_
                          refine lv_iload hx hb d_M_measure_130 (lv_at hl 0 rfl) ?_
                          refine x_iald hx hb hK hP 13 12 (f := D2) rfl rfl d_M_measure_132 (by omega) ?_
                          refine x_icmp_ge (tgt := 155) hx hb d_M_measure_133 (by decide) (fun c133 => ?_) (fun c133 => ?_)
                          · refine x_iinc (lv' := [(5, .int (nI (i + 1))), (7, .int (nI ((m_lt σ) i))), (6, .int (nI ((m_lt σ) i))), (0, .ref (a 0)), (1, .int (nI q)), (2, .int (nI x)), (3, .int (nI ag)), (4, .int (nI e2))]) hx hb d_M_measure_155 hl (k := 7) rfl (by decide) rfl (fun ls hl => ?_)
                            refine lv_goto (tgt := 51) hx hb d_M_measure_158 (by decide) ?_
                            exact ih51 (i + 1) e2 D2 H locs ls (by omega) he2 hs2 hok2 (fun h9 i9 h8 h7 => by rcases Nat.lt_succ_iff_lt_or_eq.mp h8 with h6 | h6; exact hf2 h9 i9 h6 h7; rw [h6] at h7 ⊢; first | exact absurd h7 c68 | (unfold eaM ebM; first | (rw [if_pos (by omega), if_pos (by omega)]; omega) | (rw [if_neg (by omega), if_neg (by omega)]; omega))) (by omega) hP hD hS (lv_sub hl [3, 4, 5, 6, 7, 0] rfl)
                          · refine lv_aload_n hx hb d_M_measure_136 rfl (lv_at hl 2 rfl) ?_
                            refine va_get (D := (dC, dI)) (C := R_M) (T := F_M) (N := 20) hx hb hT i_M hown hK hP 0 rfl rfl 18 (by decide) (hT _ k_M_49) (fun _ h9 => h9) (v := .ref (a 13)) rfl d_M_measure_137 ?_
                            refine lv_iload hx hb d_M_measure_140 (lv_at hl 0 rfl) ?_
                            refine lv_aload_n hx hb d_M_measure_142 rfl (lv_at hl 2 rfl) ?_
                            refine va_get (D := (dC, dI)) (C := R_M) (T := F_M) (N := 20) hx hb hT i_M hown hK hP 0 rfl rfl 18 (by decide) (hT _ k_M_49) (fun _ h9 => h9) (v := .ref (a 13)) rfl d_M_measure_143 ?_
                            refine lv_iload hx hb d_M_measure_146 (lv_at hl 1 rfl) ?_
                            refine x_iald hx hb hK hP 13 12 (f := D2) rfl rfl d_M_measure_148 (by omega) ?_
                            refine lv_iconst (v := nI 1) hx hb d_M_measure_149 (by decide) ?_
                            refine x_iadd hx hb d_M_measure_150 ?_
                            refine x_iast hx hb hK hP hD hS 13 12 (f := D2) rfl rfl d_M_measure_151 (by omega) (fun H locs hP hD hS => ?_)
                            have hP : va_P (dC, dI) classes (wM a t (mu_di σ (updN D2 ((m_lt σ) i) ((D2 ((m_lt σ) i)) + 1)))) H := hP
                            have hD : va_D A (wM a t (mu_di σ (updN D2 ((m_lt σ) i) ((D2 ((m_lt σ) i)) + 1)))) := hD
                            have hok3 : DOK σ q ag x (updN D2 ((m_lt σ) i) (D2 ((m_lt σ) i) + 1)) := by first | (exfalso; omega) | exact DOK_put hok2 (by omega) (by assumption) (by unfold eaM; first | rw [if_pos (by omega)] | rw [if_neg (by omega)]) (by unfold ebM; first | rw [if_pos (by omega)] | rw [if_neg (by omega)]) (by omega) (by omega)
                            have hsm := smD_upd (f := D2) (b := (m_lt σ) i) (v := D2 ((m_lt σ) i) + 1) (n := m_hn σ) (by omega) (by omega)
                            refine lv_iconst (v := nI 1) hx hb d_M_measure_152 (by decide) ?_
                            refine lv_istore (lv' := [(4, .int (nI 1)), (7, .int (nI ((m_lt σ) i))), (6, .int (nI ((m_lt σ) i))), (0, .ref (a 0)), (1, .int (nI q)), (2, .int (nI x)), (3, .int (nI ag)), (5, .int (nI i))]) hx hb d_M_measure_153 hl (by decide) rfl (fun ls hl => ?_)
                            refine x_iinc (lv' := [(5, .int (nI (i + 1))), (4, .int (nI 1)), (7, .int (nI ((m_lt σ) i))), (6, .int (nI ((m_lt σ) i))), (0, .ref (a 0)), (1, .int (nI q)), (2, .int (nI x)), (3, .int (nI ag))]) hx hb d_M_measure_155 hl (k := 7) rfl (by decide) rfl (fun ls hl => ?_)
                            refine lv_goto (tgt := 51) hx hb d_M_measure_158 (by decide) ?_
                            exact ih51 (i + 1) 1 _ H locs ls (by omega) (by omega) (by omega) hok3 (fun h9 => absurd h9 (by decide)) (by omega) hP hD hS (lv_sub hl [4, 5, 6, 7, 1, 0] rfl)
                        · refine lv_aload_n hx hb d_M_measure_98 rfl (lv_at hl 1 rfl) ?_
                          refine va_get (D := (dC, dI)) (C := R_M) (T := F_M) (N := 20) hx hb hT i_M hown hK hP 0 rfl rfl 10 (by decide) (hT _ k_M_30) (fun _ h9 => h9) (v := .ref (a 7)) rfl d_M_measure_99 ?_
                          refine lv_iload hx hb d_M_measure_102 (lv_at hl 6 rfl) ?_
                          refine x_iald hx hb hK hP 7 6 (f := (m_lf σ)) rfl rfl d_M_measure_104 (by omega) ?_
                          refine lv_goto (tgt := 115) hx hb d_M_measure_105 (by decide) ?_
                          refine lv_istore (lv' := [(7, .int (nI ((m_lf σ) i))), (6, .int (nI ((m_lt σ) i))), (0, .ref (a 0)), (1, .int (nI q)), (2, .int (nI x)), (3, .int (nI ag)), (4, .int (nI e2)), (5, .int (nI i))]) hx hb d_M_measure_115 hl (by decide) rfl (fun ls hl => ?_)
                          refine lv_aload_n hx hb d_M_measure_117 rfl (lv_at hl 2 rfl) ?_
                          refine va_get (D := (dC, dI)) (C := R_M) (T := F_M) (N := 20) hx hb hT i_M hown hK hP 0 rfl rfl 18 (by decide) (hT _ k_M_49) (fun _ h9 => h9) (v := .ref (a 13)) rfl d_M_measure_118 ?_
                          refine lv_iload hx hb d_M_measure_121 (lv_at hl 1 rfl) ?_
                          refine x_iald hx hb hK hP 13 12 (f := D2) rfl rfl d_M_measure_123 (by omega) ?_
                          refine lv_iconst (v := nI 1) hx hb d_M_measure_124 (by decide) ?_
                          refine x_iadd hx hb d_M_measure_125 ?_
                          refine lv_aload_n hx hb d_M_measure_126 rfl (lv_at hl 2 rfl) ?_
                          refine va_get (D := (dC, dI)) (C := R_M) (T := F_M) (N := 20) hx hb hT i_M hown hK hP 0 rfl rfl 18 (by decide) (hT _ k_M_49) (fun _ h9 => h9) (v := .ref (a 13)) rfl d_M_measure_127 ?_
                          refine lv_iload hx hb d_M_measure_130 (lv_at hl 0 rfl) ?_
                          refine x_iald hx hb hK hP 13 12 (f := D2) rfl rfl d_M_measure_132 (by omega) ?_
                          refine x_icmp_ge (tgt := 155) hx hb d_M_measure_133 (by decide) (fun c133 => ?_) (fun c133 => ?_)
                          · refine x_iinc (lv' := [(5, .int (nI (i + 1))), (7, .int (nI ((m_lf σ) i))), (6, .int (nI ((m_lt σ) i))), (0, .ref (a 0)), (1, .int (nI q)), (2, .int (nI x)), (3, .int (nI ag)), (4, .int (nI e2))]) hx hb d_M_measure_155 hl (k := 7) rfl (by decide) rfl (fun ls hl => ?_)
                            refine lv_goto (tgt := 51) hx hb d_M_measure_158 (by decide) ?_
                            exact ih51 (i + 1) e2 D2 H locs ls (by omega) he2 hs2 hok2 (fun h9 i9 h8 h7 => by rcases Nat.lt_succ_iff_lt_or_eq.mp h8 with h6 | h6; exact hf2 h9 i9 h6 h7; rw [h6] at h7 ⊢; first | exact absurd h7 c68 | (unfold eaM ebM; first | (rw [if_pos (by omega), if_pos (by omega)]; omega) | (rw [if_neg (by omega), if_neg (by omega)]; omega))) (by omega) hP hD hS (lv_sub hl [3, 4, 5, 6, 7, 0] rfl)
                          · refine lv_aload_n hx hb d_M_measure_136 rfl (lv_at hl 2 rfl) ?_
                            refine va_get (D := (dC, dI)) (C := R_M) (T := F_M) (N := 20) hx hb hT i_M hown hK hP 0 rfl rfl 18 (by decide) (hT _ k_M_49) (fun _ h9 => h9) (v := .ref (a 13)) rfl d_M_measure_137 ?_
                            refine lv_iload hx hb d_M_measure_140 (lv_at hl 0 rfl) ?_
                            refine lv_aload_n hx hb d_M_measure_142 rfl (lv_at hl 2 rfl) ?_
                            refine va_get (D := (dC, dI)) (C := R_M) (T := F_M) (N := 20) hx hb hT i_M hown hK hP 0 rfl rfl 18 (by decide) (hT _ k_M_49) (fun _ h9 => h9) (v := .ref (a 13)) rfl d_M_measure_143 ?_
                            refine lv_iload hx hb d_M_measure_146 (lv_at hl 1 rfl) ?_
                            refine x_iald hx hb hK hP 13 12 (f := D2) rfl rfl d_M_measure_148 (by omega) ?_
                            refine lv_iconst (v := nI 1) hx hb d_M_measure_149 (by decide) ?_
                            refine x_iadd hx hb d_M_measure_150 ?_
                            refine x_iast hx hb hK hP hD hS 13 12 (f := D2) rfl rfl d_M_measure_151 (by omega) (fun H locs hP hD hS => ?_)
                            have hP : va_P (dC, dI) classes (wM a t (mu_di σ (updN D2 ((m_lf σ) i) ((D2 ((m_lt σ) i)) + 1)))) H := hP
                            have hD : va_D A (wM a t (mu_di σ (updN D2 ((m_lf σ) i) ((D2 ((m_lt σ) i)) + 1)))) := hD
                            have hok3 : DOK σ q ag x (updN D2 ((m_lf σ) i) (D2 ((m_lt σ) i) + 1)) := by first | (exfalso; omega) | exact DOK_put hok2 (by omega) (by assumption) (by unfold eaM; first | rw [if_pos (by omega)] | rw [if_neg (by omega)]) (by unfold ebM; first | rw [if_pos (by omega)] | rw [if_neg (by omega)]) (by omega) (by omega)
                            have hsm := smD_upd (f := D2) (b := (m_lf σ) i) (v := D2 ((m_lt σ) i) + 1) (n := m_hn σ) (by omega) (by omega)
                            refine lv_iconst (v := nI 1) hx hb d_M_measure_152 (by decide) ?_
                            refine lv_istore (lv' := [(4, .int (nI 1)), (7, .int (nI ((m_lf σ) i))), (6, .int (nI ((m_lt σ) i))), (0, .ref (a 0)), (1, .int (nI q)), (2, .int (nI x)), (3, .int (nI ag)), (5, .int (nI i))]) hx hb d_M_measure_153 hl (by decide) rfl (fun ls hl => ?_)
                            refine x_iinc (lv' := [(5, .int (nI (i + 1))), (4, .int (nI 1)), (7, .int (nI ((m_lf σ) i))), (6, .int (nI ((m_lt σ) i))), (0, .ref (a 0)), (1, .int (nI q)), (2, .int (nI x)), (3, .int (nI ag))]) hx hb d_M_measure_155 hl (k := 7) rfl (by decide) rfl (fun ls hl => ?_)
                            refine lv_goto (tgt := 51) hx hb d_M_measure_158 (by decide) ?_
                            exact ih51 (i + 1) 1 _ H locs ls (by omega) (by omega) (by omega) hok3 (fun h9 => absurd h9 (by decide)) (by omega) hP hD hS (lv_sub hl [4, 5, 6, 7, 1, 0] rfl)
              exact hloop51 _ 0 0 D _ _ ls (by omega) (by omega) (by omega) hok (fun _ i9 h9 => absurd h9 (Nat.not_lt_zero _)) (Nat.lt_succ_self _) hP hD hS (lv_sub hl [2, 3, 4, 5, 1, 0] rfl)
        exact hloop40 _ 1 D _ _ ls (by omega) ⟨hD1, by rw [hD2 x hx1 (by omega), if_pos rfl], fun g9 h1 h2 h3 => by rw [hD2 g9 h1 (by omega)] at h3 ⊢; by_cases h9 : g9 = x; rw [if_pos h9]; exact h9; rw [if_neg h9] at h3; omega⟩ (fun h9 => absurd h9 (by decide)) (Nat.lt_succ_self _) hP hD hS (lv_sub hl [1, 2, 3, 4, 0] rfl)
      · refine lv_aload_n hx hb d_M_measure_12 rfl (lv_at hl 0 rfl) ?_
        refine va_get (D := (dC, dI)) (C := R_M) (T := F_M) (N := 20) hx hb hT i_M hown hK hP 0 rfl rfl 18 (by decide) (hT _ k_M_49) (fun _ h9 => h9) (v := .ref (a 13)) rfl d_M_measure_13 ?_
        refine lv_iload hx hb d_M_measure_16 (lv_at hl 4 rfl) ?_
        refine lv_iload hx hb d_M_measure_18 (lv_at hl 4 rfl) ?_
        refine lv_iload_n hx hb d_M_measure_20 rfl (lv_at hl 2 rfl) ?_
        refine x_icmp_ne (tgt := 28) hx hb d_M_measure_21 (by decide) (fun c21 => ?_) (fun c21 => ?_)
        · refine lv_bipush (v := nI 100) hx hb d_M_measure_28 (by decide) ?_
          refine x_iast hx hb hK hP hD hS 13 12 (f := D) rfl rfl d_M_measure_30 (by omega) (fun H locs hP hD hS => ?_)
          have hP : va_P (dC, dI) classes (wM a t (mu_di σ (updN D (k + 1) (100)))) H := hP
          have hD : va_D A (wM a t (mu_di σ (updN D (k + 1) (100)))) := hD
          refine x_iinc (lv' := [(4, .int (nI ((k + 1) + 1))), (0, .ref (a 0)), (1, .int (nI q)), (2, .int (nI x)), (3, .int (nI ag))]) hx hb d_M_measure_31 hl (k := 4) rfl (by decide) rfl (fun ls hl => ?_)
          refine lv_goto (tgt := 3) hx hb d_M_measure_34 (by decide) ?_
          exact ih3 (k + 1) _ H locs ls (by omega) (updN_le hD1 (by omega)) (ini_s hD2 (by first | rw [if_pos (by omega)] | rw [if_neg (by omega)])) (by omega) hP hD hS (lv_sub hl [1, 2, 3, 4, 0] rfl)
        · refine lv_iconst (v := nI 0) hx hb d_M_measure_24 (by decide) ?_
          refine lv_goto (tgt := 30) hx hb d_M_measure_25 (by decide) ?_
          refine x_iast hx hb hK hP hD hS 13 12 (f := D) rfl rfl d_M_measure_30 (by omega) (fun H locs hP hD hS => ?_)
          have hP : va_P (dC, dI) classes (wM a t (mu_di σ (updN D (k + 1) (0)))) H := hP
          have hD : va_D A (wM a t (mu_di σ (updN D (k + 1) (0)))) := hD
          refine x_iinc (lv' := [(4, .int (nI ((k + 1) + 1))), (0, .ref (a 0)), (1, .int (nI q)), (2, .int (nI x)), (3, .int (nI ag))]) hx hb d_M_measure_31 hl (k := 4) rfl (by decide) rfl (fun ls hl => ?_)
          refine lv_goto (tgt := 3) hx hb d_M_measure_34 (by decide) ?_
          exact ih3 (k + 1) _ H locs ls (by omega) (updN_le hD1 (by omega)) (ini_s hD2 (by first | rw [if_pos (by omega)] | rw [if_neg (by omega)])) (by omega) hP hD hS (lv_sub hl [1, 2, 3, 4, 0] rfl)
  exact hloop3 _ 0 (m_di σ) _ _ ls (by omega) g_di (fun j h1 h2 => by omega) (Nat.lt_succ_self _) hP hD hS (lv_sub hl [1, 2, 3, 4, 0] rfl)

