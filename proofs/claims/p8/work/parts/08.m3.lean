theorem updN_lt {f : Nat → Nat} {b k x : Nat} (h : ∀ j, f j < b) (hx : x < b) : ∀ j, updN f k x j < b := fun j => by unfold updN; split; exact hx; exact h j
theorem updN_le {f : Nat → Nat} {b k x : Nat} (h : ∀ j, f j ≤ b) (hx : x ≤ b) : ∀ j, updN f k x j ≤ b := fun j => by unfold updN; split; exact hx; exact h j
theorem GA_sg {σ : SA} {f : (Nat → Nat)} (h : GA σ) (hf : ∀ j, f j < 256) : GA (au_sg σ f) := by
  obtain ⟨g_sn, g_sg, g_tn, g_tx, g_kd, g_lv, g_le, g_ln, g_hn, g_lf, g_lt, g_lc, g_rh, g_rn, g_ws, g_wn⟩ := h
  exact ⟨g_sn, hf, g_tn, g_tx, g_kd, g_lv, g_le, g_ln, g_hn, g_lf, g_lt, g_lc, g_rh, g_rn, g_ws, g_wn⟩
theorem GA_sn {σ : SA} {f : Nat} (h : GA σ) (hf : f ≤ 40) : GA (au_sn σ f) := by
  obtain ⟨g_sn, g_sg, g_tn, g_tx, g_kd, g_lv, g_le, g_ln, g_hn, g_lf, g_lt, g_lc, g_rh, g_rn, g_ws, g_wn⟩ := h
  exact ⟨hf, g_sg, g_tn, g_tx, g_kd, g_lv, g_le, g_ln, g_hn, g_lf, g_lt, g_lc, g_rh, g_rn, g_ws, g_wn⟩
theorem GA_tx {σ : SA} {f : (Nat → Nat)} (h : GA σ) (hf : ∀ j, f j < 256) : GA (au_tx σ f) := by
  obtain ⟨g_sn, g_sg, g_tn, g_tx, g_kd, g_lv, g_le, g_ln, g_hn, g_lf, g_lt, g_lc, g_rh, g_rn, g_ws, g_wn⟩ := h
  exact ⟨g_sn, g_sg, g_tn, hf, g_kd, g_lv, g_le, g_ln, g_hn, g_lf, g_lt, g_lc, g_rh, g_rn, g_ws, g_wn⟩
theorem GA_tn {σ : SA} {f : Nat} (h : GA σ) (hf : f ≤ 20) : GA (au_tn σ f) := by
  obtain ⟨g_sn, g_sg, g_tn, g_tx, g_kd, g_lv, g_le, g_ln, g_hn, g_lf, g_lt, g_lc, g_rh, g_rn, g_ws, g_wn⟩ := h
  exact ⟨g_sn, g_sg, hf, g_tx, g_kd, g_lv, g_le, g_ln, g_hn, g_lf, g_lt, g_lc, g_rh, g_rn, g_ws, g_wn⟩
theorem GA_kd {σ : SA} {f : (Nat → Nat)} (h : GA σ) (hf : ∀ j, f j < 4) : GA (au_kd σ f) := by
  obtain ⟨g_sn, g_sg, g_tn, g_tx, g_kd, g_lv, g_le, g_ln, g_hn, g_lf, g_lt, g_lc, g_rh, g_rn, g_ws, g_wn⟩ := h
  exact ⟨g_sn, g_sg, g_tn, g_tx, hf, g_lv, g_le, g_ln, g_hn, g_lf, g_lt, g_lc, g_rh, g_rn, g_ws, g_wn⟩
theorem GA_lv {σ : SA} {f : (Nat → Nat)} (h : GA σ) (hf : ∀ j, f j < 2) : GA (au_lv σ f) := by
  obtain ⟨g_sn, g_sg, g_tn, g_tx, g_kd, g_lv, g_le, g_ln, g_hn, g_lf, g_lt, g_lc, g_rh, g_rn, g_ws, g_wn⟩ := h
  exact ⟨g_sn, g_sg, g_tn, g_tx, g_kd, hf, g_le, g_ln, g_hn, g_lf, g_lt, g_lc, g_rh, g_rn, g_ws, g_wn⟩
theorem GA_le {σ : SA} {f : (Nat → Nat)} (h : GA σ) (hf : ∀ j, f j < 256) : GA (au_le σ f) := by
  obtain ⟨g_sn, g_sg, g_tn, g_tx, g_kd, g_lv, g_le, g_ln, g_hn, g_lf, g_lt, g_lc, g_rh, g_rn, g_ws, g_wn⟩ := h
  exact ⟨g_sn, g_sg, g_tn, g_tx, g_kd, g_lv, hf, g_ln, g_hn, g_lf, g_lt, g_lc, g_rh, g_rn, g_ws, g_wn⟩
theorem GA_ln {σ : SA} {f : (Nat → Nat)} (h : GA σ) (hf : ∀ j, f j ≤ 20) : GA (au_ln σ f) := by
  obtain ⟨g_sn, g_sg, g_tn, g_tx, g_kd, g_lv, g_le, g_ln, g_hn, g_lf, g_lt, g_lc, g_rh, g_rn, g_ws, g_wn⟩ := h
  exact ⟨g_sn, g_sg, g_tn, g_tx, g_kd, g_lv, g_le, hf, g_hn, g_lf, g_lt, g_lc, g_rh, g_rn, g_ws, g_wn⟩
theorem GA_hn {σ : SA} {f : Nat} (h : GA σ) (hf : f ≤ 60) : GA (au_hn σ f) := by
  obtain ⟨g_sn, g_sg, g_tn, g_tx, g_kd, g_lv, g_le, g_ln, g_hn, g_lf, g_lt, g_lc, g_rh, g_rn, g_ws, g_wn⟩ := h
  exact ⟨g_sn, g_sg, g_tn, g_tx, g_kd, g_lv, g_le, g_ln, hf, g_lf, g_lt, g_lc, g_rh, g_rn, g_ws, g_wn⟩
theorem GA_tg {σ : SA} {f : (Nat → Int64)} (h : GA σ) : GA (au_tg σ f) := by
  obtain ⟨g_sn, g_sg, g_tn, g_tx, g_kd, g_lv, g_le, g_ln, g_hn, g_lf, g_lt, g_lc, g_rh, g_rn, g_ws, g_wn⟩ := h
  exact ⟨g_sn, g_sg, g_tn, g_tx, g_kd, g_lv, g_le, g_ln, g_hn, g_lf, g_lt, g_lc, g_rh, g_rn, g_ws, g_wn⟩
theorem GA_lf {σ : SA} {f : (Nat → Nat)} (h : GA σ) (hf : ∀ j, f j ≤ 60) : GA (au_lf σ f) := by
  obtain ⟨g_sn, g_sg, g_tn, g_tx, g_kd, g_lv, g_le, g_ln, g_hn, g_lf, g_lt, g_lc, g_rh, g_rn, g_ws, g_wn⟩ := h
  exact ⟨g_sn, g_sg, g_tn, g_tx, g_kd, g_lv, g_le, g_ln, g_hn, hf, g_lt, g_lc, g_rh, g_rn, g_ws, g_wn⟩
theorem GA_lt {σ : SA} {f : (Nat → Nat)} (h : GA σ) (hf : ∀ j, f j ≤ 60) : GA (au_lt σ f) := by
  obtain ⟨g_sn, g_sg, g_tn, g_tx, g_kd, g_lv, g_le, g_ln, g_hn, g_lf, g_lt, g_lc, g_rh, g_rn, g_ws, g_wn⟩ := h
  exact ⟨g_sn, g_sg, g_tn, g_tx, g_kd, g_lv, g_le, g_ln, g_hn, g_lf, hf, g_lc, g_rh, g_rn, g_ws, g_wn⟩
theorem GA_ld {σ : SA} {f : (Nat → Int64)} (h : GA σ) : GA (au_ld σ f) := by
  obtain ⟨g_sn, g_sg, g_tn, g_tx, g_kd, g_lv, g_le, g_ln, g_hn, g_lf, g_lt, g_lc, g_rh, g_rn, g_ws, g_wn⟩ := h
  exact ⟨g_sn, g_sg, g_tn, g_tx, g_kd, g_lv, g_le, g_ln, g_hn, g_lf, g_lt, g_lc, g_rh, g_rn, g_ws, g_wn⟩
theorem GA_lc {σ : SA} {f : Nat} (h : GA σ) (hf : f ≤ 512) : GA (au_lc σ f) := by
  obtain ⟨g_sn, g_sg, g_tn, g_tx, g_kd, g_lv, g_le, g_ln, g_hn, g_lf, g_lt, g_lc, g_rh, g_rn, g_ws, g_wn⟩ := h
  exact ⟨g_sn, g_sg, g_tn, g_tx, g_kd, g_lv, g_le, g_ln, g_hn, g_lf, g_lt, hf, g_rh, g_rn, g_ws, g_wn⟩
theorem GA_rh {σ : SA} {f : (Nat → Nat)} (h : GA σ) (hf : ∀ j, f j ≤ 60) : GA (au_rh σ f) := by
  obtain ⟨g_sn, g_sg, g_tn, g_tx, g_kd, g_lv, g_le, g_ln, g_hn, g_lf, g_lt, g_lc, g_rh, g_rn, g_ws, g_wn⟩ := h
  exact ⟨g_sn, g_sg, g_tn, g_tx, g_kd, g_lv, g_le, g_ln, g_hn, g_lf, g_lt, g_lc, hf, g_rn, g_ws, g_wn⟩
theorem GA_rd {σ : SA} {f : (Nat → Int64)} (h : GA σ) : GA (au_rd σ f) := by
  obtain ⟨g_sn, g_sg, g_tn, g_tx, g_kd, g_lv, g_le, g_ln, g_hn, g_lf, g_lt, g_lc, g_rh, g_rn, g_ws, g_wn⟩ := h
  exact ⟨g_sn, g_sg, g_tn, g_tx, g_kd, g_lv, g_le, g_ln, g_hn, g_lf, g_lt, g_lc, g_rh, g_rn, g_ws, g_wn⟩
theorem GA_rn {σ : SA} {f : Nat} (h : GA σ) (hf : f ≤ 60) : GA (au_rn σ f) := by
  obtain ⟨g_sn, g_sg, g_tn, g_tx, g_kd, g_lv, g_le, g_ln, g_hn, g_lf, g_lt, g_lc, g_rh, g_rn, g_ws, g_wn⟩ := h
  exact ⟨g_sn, g_sg, g_tn, g_tx, g_kd, g_lv, g_le, g_ln, g_hn, g_lf, g_lt, g_lc, g_rh, hf, g_ws, g_wn⟩
theorem GA_ws {σ : SA} {f : (Nat → Nat)} (h : GA σ) (hf : ∀ j, f j ≤ 60) : GA (au_ws σ f) := by
  obtain ⟨g_sn, g_sg, g_tn, g_tx, g_kd, g_lv, g_le, g_ln, g_hn, g_lf, g_lt, g_lc, g_rh, g_rn, g_ws, g_wn⟩ := h
  exact ⟨g_sn, g_sg, g_tn, g_tx, g_kd, g_lv, g_le, g_ln, g_hn, g_lf, g_lt, g_lc, g_rh, g_rn, hf, g_wn⟩
theorem GA_wn {σ : SA} {f : Nat} (h : GA σ) (hf : f ≤ 60) : GA (au_wn σ f) := by
  obtain ⟨g_sn, g_sg, g_tn, g_tx, g_kd, g_lv, g_le, g_ln, g_hn, g_lf, g_lt, g_lc, g_rh, g_rn, g_ws, g_wn⟩ := h
  exact ⟨g_sn, g_sg, g_tn, g_tx, g_kd, g_lv, g_le, g_ln, g_hn, g_lf, g_lt, g_lc, g_rh, g_rn, g_ws, hf⟩
theorem GA_aw {σ : SA} {f : (Nat → Int64)} (h : GA σ) : GA (au_aw σ f) := by
  obtain ⟨g_sn, g_sg, g_tn, g_tx, g_kd, g_lv, g_le, g_ln, g_hn, g_lf, g_lt, g_lc, g_rh, g_rn, g_ws, g_wn⟩ := h
  exact ⟨g_sn, g_sg, g_tn, g_tx, g_kd, g_lv, g_le, g_ln, g_hn, g_lf, g_lt, g_lc, g_rh, g_rn, g_ws, g_wn⟩
/-- the first of 1 .. n with P, or 0 -/
def FST (P : Nat → Prop) (n : Nat) (r : Int32) : Prop := (∃ h, 1 ≤ h ∧ h ≤ n ∧ P h ∧ (∀ i, 1 ≤ i → i < h → ¬ P i) ∧ r = nI h) ∨ ((∀ i, 1 ≤ i → i ≤ n → ¬ P i) ∧ r = nI 0)
def a_same (σ : SA) (h : Nat) : Prop := sameT (fun i => a_le σ (h * 20 + i)) (a_ln σ h) (a_tx σ) (a_tn σ)
theorem notT_s {P : Nat → Prop} {h : Nat} (hi : ∀ i, 1 ≤ i → i < h → ¬ P i) (hp : ¬ P h) : ∀ i, 1 ≤ i → i < h + 1 → ¬ P i := fun i h1 h2 => by
  rcases Nat.lt_succ_iff_lt_or_eq.mp h2 with h3 | h3
  · exact hi i h1 h3
  · rw [h3]; exact hp
set_option maxRecDepth 100000 in
set_option maxHeartbeats 4000000 in
theorem c_H_firstOfAnyKind (l : Launch) (dC : Nat → ClassId) (dI : Nat → Nat → Nat) (a : Nat → Nat) (t : Nat → ClassId) (σ : SA) (hG : GA σ)  : Met l y_H_firstOfAnyKind (wS y_H_firstOfAnyKind b_H_firstOfAnyKind 3 (some .int)) (rD 2) (va_Pc [.ref (a 5), .ref (a 3)] (RB (dC, dI) (yA t) (wA a t σ))) (vp_Si (fun r => FST (fun h => a_lv σ h = 1 ∧ a_same σ h) (a_hn σ) r)) 0 0 (fun _ => False) := by
  refine x_enter (by decide) (Nat.le_of_ble_eq_true rfl) ?_
  intro p e s m below meth c ls hx hb hr hml hT hown hlk hnm hl hB
  obtain ⟨hP, hK, hN⟩ := hB
  have hl : lv_has ls 3 [(0, .ref (a 5)), (1, .ref (a 3))] := hl
  have hown : s.vm.findClass R_H = some m.cls := hown
  have hG2 := hG
  obtain ⟨g_sn, g_sg, g_tn, g_tx, g_kd, g_lv, g_le, g_ln, g_hn, g_lf, g_lt, g_lc, g_rh, g_rn, g_ws, g_wn⟩ := hG
  refine lv_iconst (v := nI 1) hx hb d_H_firstOfAnyKind_0 (by decide) ?_
  refine lv_istore_n (lv' := [(2, .int (nI 1)), (0, .ref (a 5)), (1, .ref (a 3))]) hx hb d_H_firstOfAnyKind_1 rfl hl (by decide) rfl (fun ls hl => ?_)
  have hloop2 : ∀ (n2 : Nat) (h : Nat) (ls : Array Slot), 1 ≤ h → h ≤ a_hn σ + 1 → (∀ i, 1 ≤ i → i < h → ¬ (fun h => a_lv σ h = 1 ∧ a_same σ h) i) → a_hn σ + 1 - h < n2 → lv_has ls 3 [(0, .ref (a 5)), (1, .ref (a 3)), (2, .int (nI h))] → W p l e (rD 2) s m ([.ref (a 5), .ref (a 3)] : List Value).toArray below meth c s.heap [] 0 0 (MQ below (vp_Si (fun r => FST (fun h => a_lv σ h = 1 ∧ a_same σ h) (a_hn σ) r)) ([.ref (a 5), .ref (a 3)] : List Value).toArray s 0 0 (fun _ => False)) (F0 m 2 ls []) := by
    intro n2
    induction n2 with
    | zero => intro h ls _ _ _ h9; exact absurd h9 (Nat.not_lt_zero _)
    | succ n2 ih2 =>
      intro h ls h1 h2 hinv hmu2 hl
      refine lv_iload_n hx hb d_H_firstOfAnyKind_2 rfl (lv_at hl 2 rfl) ?_
      refine lv_aload_n hx hb d_H_firstOfAnyKind_3 rfl (lv_at hl 0 rfl) ?_
      refine va_get (D := (dC, dI)) (C := R_H) (T := F_H) (N := 5) hx hb hT i_H hown hK hP 5 rfl rfl 4 (by decide) (hT _ k_H_26) (fun _ h9 => h9) (v := .int (nI (a_hn σ))) rfl d_H_firstOfAnyKind_4 ?_
      refine x_icmp_gt (tgt := 36) hx hb d_H_firstOfAnyKind_7 (by decide) (fun c7 => ?_) (fun c7 => ?_)
      · refine lv_iconst (v := nI 0) hx hb d_H_firstOfAnyKind_36 (by decide) ?_
        exact x_ri hx hb hr hlk d_H_firstOfAnyKind_37 (Or.inr ⟨fun i h3 h4 => hinv i h3 (by omega), rfl⟩)
      · refine lv_aload_n hx hb d_H_firstOfAnyKind_10 rfl (lv_at hl 0 rfl) ?_
        refine va_get (D := (dC, dI)) (C := R_H) (T := F_H) (N := 5) hx hb hT i_H hown hK hP 5 rfl rfl 1 (by decide) (hT _ k_H_15) (fun _ h9 => h9) (v := .ref (a 7)) rfl d_H_firstOfAnyKind_11 ?_
        refine lv_iload_n hx hb d_H_firstOfAnyKind_14 rfl (lv_at hl 2 rfl) ?_
        refine x_zald hx hb hK hP 7 3 (f := (a_lv σ)) rfl rfl d_H_firstOfAnyKind_15 (by omega) ?_
        have g1 := g_lv h
        refine x_if_eq (tgt := 30) hx hb d_H_firstOfAnyKind_16 (by decide) (fun c16 => ?_) (fun c16 => ?_)
        · refine x_iinc (lv' := [(2, .int (nI (h + 1))), (0, .ref (a 5)), (1, .ref (a 3))]) hx hb d_H_firstOfAnyKind_30 hl (k := 2) rfl (by decide) rfl (fun ls hl => ?_)
          refine lv_goto (tgt := 2) hx hb d_H_firstOfAnyKind_33 (by decide) ?_
          exact ih2 (h + 1) ls (by omega) (by omega) (notT_s hinv (fun h9 => by first | exact hq h9.2 | omega)) (by omega) (lv_sub hl [1, 2, 0] rfl)
        · refine lv_aload_n hx hb d_H_firstOfAnyKind_19 rfl (lv_at hl 0 rfl) ?_
          refine lv_iload_n hx hb d_H_firstOfAnyKind_20 rfl (lv_at hl 2 rfl) ?_
          refine lv_aload_n hx hb d_H_firstOfAnyKind_21 rfl (lv_at hl 1 rfl) ?_
          refine x_ci (x_runV ⟨hx, hb, hml, hown, hT⟩ (c_H_hasText l dC dI a t σ hG2 h (by omega) (by omega)) f_H_hasText k_H_48 blR (va_recv hK hP (ci := 2) (q0 := 5) rfl rfl) (x_bR hK hP hN) hl.1 d_H_firstOfAnyKind_22 rfl (lv_room (Nat.le_of_ble_eq_true rfl)) ⟨Nat.le_of_ble_eq_true rfl, Nat.le_of_ble_eq_true rfl⟩ ⟨rfl, rfl⟩ ⟨Nat.le_refl 0, Nat.le_refl 0⟩ rfl) (fun r22 q22 => ?_)
          rcases q22 with ⟨rfl, hq⟩ | ⟨rfl, hq⟩
          · refine x_if_eq (tgt := 30) hx hb d_H_firstOfAnyKind_25 (by decide) (fun h => absurd h (by decide)) (fun _ => ?_)
            refine lv_iload_n hx hb d_H_firstOfAnyKind_28 rfl (lv_at hl 2 rfl) ?_
            exact x_ri hx hb hr hlk d_H_firstOfAnyKind_29 (Or.inl ⟨h, by omega, by omega, ⟨by omega, hq⟩, fun i h3 h4 => hinv i h3 h4, rfl⟩)
          · refine x_if_eq (tgt := 30) hx hb d_H_firstOfAnyKind_25 (by decide) (fun _ => ?_) (fun h => absurd h (by decide))
            refine x_iinc (lv' := [(2, .int (nI (h + 1))), (0, .ref (a 5)), (1, .ref (a 3))]) hx hb d_H_firstOfAnyKind_30 hl (k := 2) rfl (by decide) rfl (fun ls hl => ?_)
            refine lv_goto (tgt := 2) hx hb d_H_firstOfAnyKind_33 (by decide) ?_
            exact ih2 (h + 1) ls (by omega) (by omega) (notT_s hinv (fun h9 => by first | exact hq h9.2 | omega)) (by omega) (lv_sub hl [1, 2, 0] rfl)
  exact hloop2 _ 1 ls (by omega) (by omega) (fun i h3 h4 => by omega) (Nat.lt_succ_self _) (lv_sub hl [1, 2, 0] rfl)

set_option maxRecDepth 100000 in
set_option maxHeartbeats 4000000 in
theorem c_H_firstOfKind (l : Launch) (dC : Nat → ClassId) (dI : Nat → Nat → Nat) (a : Nat → Nat) (t : Nat → ClassId) (σ : SA) (hG : GA σ) (kk ex : Nat) (hkk : kk < 4) (hex : ex ≤ 60) : Met l y_H_firstOfKind (wS y_H_firstOfKind b_H_firstOfKind 5 (some .int)) (rD 2) (va_Pc [.ref (a 5), .int (nI kk), .ref (a 3), .int (nI ex)] (RB (dC, dI) (yA t) (wA a t σ))) (vp_Si (fun r => FST (fun h => h ≠ ex ∧ a_lv σ h = 1 ∧ a_kd σ h = kk ∧ a_same σ h) (a_hn σ) r)) 0 0 (fun _ => False) := by
  refine x_enter (by decide) (Nat.le_of_ble_eq_true rfl) ?_
  intro p e s m below meth c ls hx hb hr hml hT hown hlk hnm hl hB
  obtain ⟨hP, hK, hN⟩ := hB
  have hl : lv_has ls 5 [(0, .ref (a 5)), (1, .int (nI kk)), (2, .ref (a 3)), (3, .int (nI ex))] := hl
  have hown : s.vm.findClass R_H = some m.cls := hown
  have hG2 := hG
  obtain ⟨g_sn, g_sg, g_tn, g_tx, g_kd, g_lv, g_le, g_ln, g_hn, g_lf, g_lt, g_lc, g_rh, g_rn, g_ws, g_wn⟩ := hG
  refine lv_iconst (v := nI 1) hx hb d_H_firstOfKind_0 (by decide) ?_
  refine lv_istore (lv' := [(4, .int (nI 1)), (0, .ref (a 5)), (1, .int (nI kk)), (2, .ref (a 3)), (3, .int (nI ex))]) hx hb d_H_firstOfKind_1 hl (by decide) rfl (fun ls hl => ?_)
  have hloop3 : ∀ (n3 : Nat) (h : Nat) (ls : Array Slot), 1 ≤ h → h ≤ a_hn σ + 1 → (∀ i, 1 ≤ i → i < h → ¬ (fun h => h ≠ ex ∧ a_lv σ h = 1 ∧ a_kd σ h = kk ∧ a_same σ h) i) → a_hn σ + 1 - h < n3 → lv_has ls 5 [(0, .ref (a 5)), (1, .int (nI kk)), (2, .ref (a 3)), (3, .int (nI ex)), (4, .int (nI h))] → W p l e (rD 2) s m ([.ref (a 5), .int (nI kk), .ref (a 3), .int (nI ex)] : List Value).toArray below meth c s.heap [] 0 0 (MQ below (vp_Si (fun r => FST (fun h => h ≠ ex ∧ a_lv σ h = 1 ∧ a_kd σ h = kk ∧ a_same σ h) (a_hn σ) r)) ([.ref (a 5), .int (nI kk), .ref (a 3), .int (nI ex)] : List Value).toArray s 0 0 (fun _ => False)) (F0 m 3 ls []) := by
    intro n3
    induction n3 with
    | zero => intro h ls _ _ _ h9; exact absurd h9 (Nat.not_lt_zero _)
    | succ n3 ih3 =>
      intro h ls h1 h2 hinv hmu3 hl
      refine lv_iload hx hb d_H_firstOfKind_3 (lv_at hl 4 rfl) ?_
      refine lv_aload_n hx hb d_H_firstOfKind_5 rfl (lv_at hl 0 rfl) ?_
      refine va_get (D := (dC, dI)) (C := R_H) (T := F_H) (N := 5) hx hb hT i_H hown hK hP 5 rfl rfl 4 (by decide) (hT _ k_H_26) (fun _ h9 => h9) (v := .int (nI (a_hn σ))) rfl d_H_firstOfKind_6 ?_
      refine x_icmp_gt (tgt := 58) hx hb d_H_firstOfKind_9 (by decide) (fun c9 => ?_) (fun c9 => ?_)
      · refine lv_iconst (v := nI 0) hx hb d_H_firstOfKind_58 (by decide) ?_
        exact x_ri hx hb hr hlk d_H_firstOfKind_59 (Or.inr ⟨fun i h3 h4 => hinv i h3 (by omega), rfl⟩)
      · refine lv_iload hx hb d_H_firstOfKind_12 (lv_at hl 4 rfl) ?_
        refine lv_iload_n hx hb d_H_firstOfKind_14 rfl (lv_at hl 3 rfl) ?_
        refine x_icmp_eq (tgt := 52) hx hb d_H_firstOfKind_15 (by decide) (fun c15 => ?_) (fun c15 => ?_)
        · refine x_iinc (lv' := [(4, .int (nI (h + 1))), (0, .ref (a 5)), (1, .int (nI kk)), (2, .ref (a 3)), (3, .int (nI ex))]) hx hb d_H_firstOfKind_52 hl (k := 4) rfl (by decide) rfl (fun ls hl => ?_)
          refine lv_goto (tgt := 3) hx hb d_H_firstOfKind_55 (by decide) ?_
          exact ih3 (h + 1) ls (by omega) (by omega) (notT_s hinv (fun h9 => by first | exact hq h9.2.2.2 | omega)) (by omega) (lv_sub hl [1, 2, 3, 4, 0] rfl)
        · refine lv_aload_n hx hb d_H_firstOfKind_18 rfl (lv_at hl 0 rfl) ?_
          refine va_get (D := (dC, dI)) (C := R_H) (T := F_H) (N := 5) hx hb hT i_H hown hK hP 5 rfl rfl 1 (by decide) (hT _ k_H_15) (fun _ h9 => h9) (v := .ref (a 7)) rfl d_H_firstOfKind_19 ?_
          refine lv_iload hx hb d_H_firstOfKind_22 (lv_at hl 4 rfl) ?_
          refine x_zald hx hb hK hP 7 3 (f := (a_lv σ)) rfl rfl d_H_firstOfKind_24 (by omega) ?_
          have g1 := g_lv h
          refine x_if_eq (tgt := 52) hx hb d_H_firstOfKind_25 (by decide) (fun c25 => ?_) (fun c25 => ?_)
          · refine x_iinc (lv' := [(4, .int (nI (h + 1))), (0, .ref (a 5)), (1, .int (nI kk)), (2, .ref (a 3)), (3, .int (nI ex))]) hx hb d_H_firstOfKind_52 hl (k := 4) rfl (by decide) rfl (fun ls hl => ?_)
            refine lv_goto (tgt := 3) hx hb d_H_firstOfKind_55 (by decide) ?_
            exact ih3 (h + 1) ls (by omega) (by omega) (notT_s hinv (fun h9 => by first | exact hq h9.2.2.2 | omega)) (by omega) (lv_sub hl [1, 2, 3, 4, 0] rfl)
          · refine lv_aload_n hx hb d_H_firstOfKind_28 rfl (lv_at hl 0 rfl) ?_
            refine va_get (D := (dC, dI)) (C := R_H) (T := F_H) (N := 5) hx hb hT i_H hown hK hP 5 rfl rfl 0 (by decide) (hT _ k_H_9) (fun _ h9 => h9) (v := .ref (a 6)) rfl d_H_firstOfKind_29 ?_
            refine lv_iload hx hb d_H_firstOfKind_32 (lv_at hl 4 rfl) ?_
            refine x_iald hx hb hK hP 6 2 (f := (a_kd σ)) rfl rfl d_H_firstOfKind_34 (by omega) ?_
            refine lv_iload_n hx hb d_H_firstOfKind_35 rfl (lv_at hl 1 rfl) ?_
            have g2 := g_kd h
            refine x_icmp_ne (tgt := 52) hx hb d_H_firstOfKind_36 (by decide) (fun c36 => ?_) (fun c36 => ?_)
            · refine x_iinc (lv' := [(4, .int (nI (h + 1))), (0, .ref (a 5)), (1, .int (nI kk)), (2, .ref (a 3)), (3, .int (nI ex))]) hx hb d_H_firstOfKind_52 hl (k := 4) rfl (by decide) rfl (fun ls hl => ?_)
              refine lv_goto (tgt := 3) hx hb d_H_firstOfKind_55 (by decide) ?_
              exact ih3 (h + 1) ls (by omega) (by omega) (notT_s hinv (fun h9 => by first | exact hq h9.2.2.2 | omega)) (by omega) (lv_sub hl [1, 2, 3, 4, 0] rfl)
            · refine lv_aload_n hx hb d_H_firstOfKind_39 rfl (lv_at hl 0 rfl) ?_
              refine lv_iload hx hb d_H_firstOfKind_40 (lv_at hl 4 rfl) ?_
              refine lv_aload_n hx hb d_H_firstOfKind_42 rfl (lv_at hl 2 rfl) ?_
              refine x_ci (x_runV ⟨hx, hb, hml, hown, hT⟩ (c_H_hasText l dC dI a t σ hG2 h (by omega) (by omega)) f_H_hasText k_H_48 blR (va_recv hK hP (ci := 2) (q0 := 5) rfl rfl) (x_bR hK hP hN) hl.1 d_H_firstOfKind_43 rfl (lv_room (Nat.le_of_ble_eq_true rfl)) ⟨Nat.le_of_ble_eq_true rfl, Nat.le_of_ble_eq_true rfl⟩ ⟨rfl, rfl⟩ ⟨Nat.le_refl 0, Nat.le_refl 0⟩ rfl) (fun r43 q43 => ?_)
              rcases q43 with ⟨rfl, hq⟩ | ⟨rfl, hq⟩
              · refine x_if_eq (tgt := 52) hx hb d_H_firstOfKind_46 (by decide) (fun h => absurd h (by decide)) (fun _ => ?_)
                refine lv_iload hx hb d_H_firstOfKind_49 (lv_at hl 4 rfl) ?_
                exact x_ri hx hb hr hlk d_H_firstOfKind_51 (Or.inl ⟨h, by omega, by omega, ⟨by omega, by omega, by omega, hq⟩, fun i h3 h4 => hinv i h3 h4, rfl⟩)
              · refine x_if_eq (tgt := 52) hx hb d_H_firstOfKind_46 (by decide) (fun _ => ?_) (fun h => absurd h (by decide))
                refine x_iinc (lv' := [(4, .int (nI (h + 1))), (0, .ref (a 5)), (1, .int (nI kk)), (2, .ref (a 3)), (3, .int (nI ex))]) hx hb d_H_firstOfKind_52 hl (k := 4) rfl (by decide) rfl (fun ls hl => ?_)
                refine lv_goto (tgt := 3) hx hb d_H_firstOfKind_55 (by decide) ?_
                exact ih3 (h + 1) ls (by omega) (by omega) (notT_s hinv (fun h9 => by first | exact hq h9.2.2.2 | omega)) (by omega) (lv_sub hl [1, 2, 3, 4, 0] rfl)
  exact hloop3 _ 1 ls (by omega) (by omega) (fun i h3 h4 => by omega) (Nat.lt_succ_self _) (lv_sub hl [1, 2, 3, 4, 0] rfl)

set_option maxRecDepth 100000 in
set_option maxHeartbeats 4000000 in
theorem c_T_clear (l : Launch) (dC : Nat → ClassId) (dI : Nat → Nat → Nat) (a : Nat → Nat) (t : Nat → ClassId) (σ : SA) (sz : Nat)  : Met l y_T_clear (wS y_T_clear b_T_clear 1 none) (rD 0) (va_Pc [.ref (a 3)] (MB (dC, dI) (yA t) (wA a t σ) sz)) (va_Qv (fun u : SA => u = au_tn σ 0) (fun u => ME (dC, dI) (yA t) (va_A (wA a t σ) sz) (wA a t u)) (va_A (wA a t σ) sz)) 0 0 (va_A (wA a t σ) sz) := by
  refine x_enter (by decide) (Nat.le_of_ble_eq_true rfl) ?_
  intro p e s m below meth c ls hx hb hr hml hT hown hlk hnm hl hB
  obtain ⟨rfl, hP, hK, hN, hD0⟩ := hB
  have hD := hD0.self (sz := s.heap.size)
  generalize hAe : va_A (wA a t σ) s.heap.size = A at hD ⊢
  have hA : ∀ q : Nat, s.heap.size ≤ q → A q := fun q h => by rw [← hAe]; exact Or.inr h
  have hS : va_S A s.heap s.heap [] := va_S.rf
  have hP : va_P (dC, dI) classes (wA a t σ) s.heap := hP
  have hl : lv_has ls 1 [(0, .ref (a 3))] := hl
  have hown : s.vm.findClass R_T = some m.cls := hown
  refine lv_aload_n hx hb d_T_clear_0 rfl (lv_at hl 0 rfl) ?_
  refine lv_iconst (v := nI 0) hx hb d_T_clear_1 (by decide) ?_
  refine va_put (D := (dC, dI)) (v := .int (nI 0)) (ty := .int) (C := R_T) (T := F_T) (N := 2) hx hb hT i_T ft_T ft_T_ok n_T hown hK hP hD hS 3 rfl rfl 1 (by decide) (hT _ k_T_15) (fun _ h9 => h9) rfl (by decide +kernel) rfl rfl (Nat.le_of_ble_eq_true rfl) d_T_clear_2 (fun H locs hP hD hS => ?_)
  have hP : va_P (dC, dI) classes (wA a t (au_tn σ (0))) H := hP
  have hD : va_D A (wA a t (au_tn σ (0))) := hD
  exact x_mv (wl := wA a t) (au_tn σ (0)) hx hb hr hlk hK hP hD hS d_T_clear_5 rfl

set_option maxRecDepth 100000 in
set_option maxHeartbeats 4000000 in
theorem c_T_add (l : Launch) (dC : Nat → ClassId) (dI : Nat → Nat → Nat) (a : Nat → Nat) (t : Nat → ClassId) (σ : SA) (sz : Nat) (hG : GA σ) (q : Nat) (hq : q < 256) : Met l y_T_add (wS y_T_add b_T_add 2 none) (rD 0) (va_Pc [.ref (a 3), .int (nI q)] (MB (dC, dI) (yA t) (wA a t σ) sz)) (va_Qv (fun u : SA => u = if a_tn σ < 20 then au_tn (au_tx σ (updN (a_tx σ) (a_tn σ) q)) (a_tn σ + 1) else σ) (fun u => ME (dC, dI) (yA t) (va_A (wA a t σ) sz) (wA a t u)) (va_A (wA a t σ) sz)) 0 0 (va_A (wA a t σ) sz) := by
  refine x_enter (by decide) (Nat.le_of_ble_eq_true rfl) ?_
  intro p e s m below meth c ls hx hb hr hml hT hown hlk hnm hl hB
  obtain ⟨rfl, hP, hK, hN, hD0⟩ := hB
  have hD := hD0.self (sz := s.heap.size)
  generalize hAe : va_A (wA a t σ) s.heap.size = A at hD ⊢
  have hA : ∀ q : Nat, s.heap.size ≤ q → A q := fun q h => by rw [← hAe]; exact Or.inr h
  have hS : va_S A s.heap s.heap [] := va_S.rf
  have hP : va_P (dC, dI) classes (wA a t σ) s.heap := hP
  have hl : lv_has ls 2 [(0, .ref (a 3)), (1, .int (nI q))] := hl
  have hown : s.vm.findClass R_T = some m.cls := hown
  have hG2 := hG
  obtain ⟨g_sn, g_sg, g_tn, g_tx, g_kd, g_lv, g_le, g_ln, g_hn, g_lf, g_lt, g_lc, g_rh, g_rn, g_ws, g_wn⟩ := hG
  refine lv_aload_n hx hb d_T_add_0 rfl (lv_at hl 0 rfl) ?_
  refine va_get (D := (dC, dI)) (C := R_T) (T := F_T) (N := 2) hx hb hT i_T hown hK hP 3 rfl rfl 1 (by decide) (hT _ k_T_15) (fun _ h9 => h9) (v := .int (nI (a_tn σ))) rfl d_T_add_1 ?_
  refine lv_bipush (v := nI 20) hx hb d_T_add_4 (by decide) ?_
  refine x_icmp_ge (tgt := 29) hx hb d_T_add_6 (by decide) (fun c6 => ?_) (fun c6 => ?_)
  · exact x_mv (wl := wA a t) σ hx hb hr hlk hK hP hD hS d_T_add_29 (by rw [if_neg (by omega)])
  · refine lv_aload_n hx hb d_T_add_9 rfl (lv_at hl 0 rfl) ?_
    refine va_get (D := (dC, dI)) (C := R_T) (T := F_T) (N := 2) hx hb hT i_T hown hK hP 3 rfl rfl 0 (by decide) (hT _ k_T_9) (fun _ h9 => h9) (v := .ref (a 4)) rfl d_T_add_10 ?_
    refine lv_aload_n hx hb d_T_add_13 rfl (lv_at hl 0 rfl) ?_
    refine va_get (D := (dC, dI)) (C := R_T) (T := F_T) (N := 2) hx hb hT i_T hown hK hP 3 rfl rfl 1 (by decide) (hT _ k_T_15) (fun _ h9 => h9) (v := .int (nI (a_tn σ))) rfl d_T_add_14 ?_
    refine lv_iload_n hx hb d_T_add_17 rfl (lv_at hl 1 rfl) ?_
    refine x_cast hx hb hK hP hD hS 4 1 (f := (a_tx σ)) rfl rfl d_T_add_18 (by omega) (fun H locs hP hD hS => ?_)
    have hP : va_P (dC, dI) classes (wA a t (au_tx σ (updN (a_tx σ) (a_tn σ) (q)))) H := hP
    have hD : va_D A (wA a t (au_tx σ (updN (a_tx σ) (a_tn σ) (q)))) := hD
    refine lv_aload_n hx hb d_T_add_19 rfl (lv_at hl 0 rfl) ?_
    refine lv_dup hx hb d_T_add_20 rfl ?_
    refine va_get (D := (dC, dI)) (C := R_T) (T := F_T) (N := 2) hx hb hT i_T hown hK hP 3 rfl rfl 1 (by decide) (hT _ k_T_15) (fun _ h9 => h9) (v := .int (nI (a_tn σ))) rfl d_T_add_21 ?_
    refine lv_iconst (v := nI 1) hx hb d_T_add_24 (by decide) ?_
    refine x_iadd hx hb d_T_add_25 ?_
    refine va_put (D := (dC, dI)) (v := .int (nI ((a_tn σ) + 1))) (ty := .int) (C := R_T) (T := F_T) (N := 2) hx hb hT i_T ft_T ft_T_ok n_T hown hK hP hD hS 3 rfl rfl 1 (by decide) (hT _ k_T_15) (fun _ h9 => h9) rfl (by decide +kernel) rfl rfl (Nat.le_of_ble_eq_true rfl) d_T_add_26 (fun H locs hP hD hS => ?_)
    have hP : va_P (dC, dI) classes (wA a t (au_tn (au_tx σ (updN (a_tx σ) (a_tn σ) (q))) ((a_tn σ) + 1))) H := hP
    have hD : va_D A (wA a t (au_tn (au_tx σ (updN (a_tx σ) (a_tn σ) (q))) ((a_tn σ) + 1))) := hD
    exact x_mv (wl := wA a t) (au_tn (au_tx σ (updN (a_tx σ) (a_tn σ) (q))) ((a_tn σ) + 1)) hx hb hr hlk hK hP hD hS d_T_add_29 (by rw [if_pos (by omega)])

set_option maxRecDepth 100000 in
set_option maxHeartbeats 4000000 in
theorem c_C_add (l : Launch) (dC : Nat → ClassId) (dI : Nat → Nat → Nat) (a : Nat → Nat) (t : Nat → ClassId) (σ : SA) (sz : Nat) (hG : GA σ) (q : Nat) (hq : q < 256) : Met l y_C_add (wS y_C_add b_C_add 2 none) (rD 0) (va_Pc [.ref (a 1), .int (nI q)] (MB (dC, dI) (yA t) (wA a t σ) sz)) (va_Qv (fun u : SA => u = if a_sn σ < 40 then au_sn (au_sg σ (updN (a_sg σ) (a_sn σ) q)) (a_sn σ + 1) else σ) (fun u => ME (dC, dI) (yA t) (va_A (wA a t σ) sz) (wA a t u)) (va_A (wA a t σ) sz)) 0 0 (va_A (wA a t σ) sz) := by
  refine x_enter (by decide) (Nat.le_of_ble_eq_true rfl) ?_
  intro p e s m below meth c ls hx hb hr hml hT hown hlk hnm hl hB
  obtain ⟨rfl, hP, hK, hN, hD0⟩ := hB
  have hD := hD0.self (sz := s.heap.size)
  generalize hAe : va_A (wA a t σ) s.heap.size = A at hD ⊢
  have hA : ∀ q : Nat, s.heap.size ≤ q → A q := fun q h => by rw [← hAe]; exact Or.inr h
  have hS : va_S A s.heap s.heap [] := va_S.rf
  have hP : va_P (dC, dI) classes (wA a t σ) s.heap := hP
  have hl : lv_has ls 2 [(0, .ref (a 1)), (1, .int (nI q))] := hl
  have hown : s.vm.findClass R_C = some m.cls := hown
  have hG2 := hG
  obtain ⟨g_sn, g_sg, g_tn, g_tx, g_kd, g_lv, g_le, g_ln, g_hn, g_lf, g_lt, g_lc, g_rh, g_rn, g_ws, g_wn⟩ := hG
  refine lv_aload_n hx hb d_C_add_0 rfl (lv_at hl 0 rfl) ?_
  refine va_get (D := (dC, dI)) (C := R_C) (T := F_C) (N := 2) hx hb hT i_C hown hK hP 1 rfl rfl 1 (by decide) (hT _ k_C_15) (fun _ h9 => h9) (v := .int (nI (a_sn σ))) rfl d_C_add_1 ?_
  refine lv_bipush (v := nI 40) hx hb d_C_add_4 (by decide) ?_
  refine x_icmp_ge (tgt := 29) hx hb d_C_add_6 (by decide) (fun c6 => ?_) (fun c6 => ?_)
  · exact x_mv (wl := wA a t) σ hx hb hr hlk hK hP hD hS d_C_add_29 (by rw [if_neg (by omega)])
  · refine lv_aload_n hx hb d_C_add_9 rfl (lv_at hl 0 rfl) ?_
    refine va_get (D := (dC, dI)) (C := R_C) (T := F_C) (N := 2) hx hb hT i_C hown hK hP 1 rfl rfl 0 (by decide) (hT _ k_C_9) (fun _ h9 => h9) (v := .ref (a 2)) rfl d_C_add_10 ?_
    refine lv_aload_n hx hb d_C_add_13 rfl (lv_at hl 0 rfl) ?_
    refine va_get (D := (dC, dI)) (C := R_C) (T := F_C) (N := 2) hx hb hT i_C hown hK hP 1 rfl rfl 1 (by decide) (hT _ k_C_15) (fun _ h9 => h9) (v := .int (nI (a_sn σ))) rfl d_C_add_14 ?_
    refine lv_iload_n hx hb d_C_add_17 rfl (lv_at hl 1 rfl) ?_
    refine x_cast hx hb hK hP hD hS 2 0 (f := (a_sg σ)) rfl rfl d_C_add_18 (by omega) (fun H locs hP hD hS => ?_)
    have hP : va_P (dC, dI) classes (wA a t (au_sg σ (updN (a_sg σ) (a_sn σ) (q)))) H := hP
    have hD : va_D A (wA a t (au_sg σ (updN (a_sg σ) (a_sn σ) (q)))) := hD
    refine lv_aload_n hx hb d_C_add_19 rfl (lv_at hl 0 rfl) ?_
    refine lv_dup hx hb d_C_add_20 rfl ?_
    refine va_get (D := (dC, dI)) (C := R_C) (T := F_C) (N := 2) hx hb hT i_C hown hK hP 1 rfl rfl 1 (by decide) (hT _ k_C_15) (fun _ h9 => h9) (v := .int (nI (a_sn σ))) rfl d_C_add_21 ?_
    refine lv_iconst (v := nI 1) hx hb d_C_add_24 (by decide) ?_
    refine x_iadd hx hb d_C_add_25 ?_
    refine va_put (D := (dC, dI)) (v := .int (nI ((a_sn σ) + 1))) (ty := .int) (C := R_C) (T := F_C) (N := 2) hx hb hT i_C ft_C ft_C_ok n_C hown hK hP hD hS 1 rfl rfl 1 (by decide) (hT _ k_C_15) (fun _ h9 => h9) rfl (by decide +kernel) rfl rfl (Nat.le_of_ble_eq_true rfl) d_C_add_26 (fun H locs hP hD hS => ?_)
    have hP : va_P (dC, dI) classes (wA a t (au_sn (au_sg σ (updN (a_sg σ) (a_sn σ) (q))) ((a_sn σ) + 1))) H := hP
    have hD : va_D A (wA a t (au_sn (au_sg σ (updN (a_sg σ) (a_sn σ) (q))) ((a_sn σ) + 1))) := hD
    exact x_mv (wl := wA a t) (au_sn (au_sg σ (updN (a_sg σ) (a_sn σ) (q))) ((a_sn σ) + 1)) hx hb hr hlk hK hP hD hS d_C_add_29 (by rw [if_pos (by omega)])

set_option maxRecDepth 100000 in
set_option maxHeartbeats 4000000 in
theorem c_H_end (l : Launch) (dC : Nat → ClassId) (dI : Nat → Nat → Nat) (a : Nat → Nat) (t : Nat → ClassId) (σ : SA) (sz : Nat) (hG : GA σ) (j : Nat) (hj1 : 1 ≤ j) (hj2 : j ≤ a_hn σ) : Met l y_H_end (wS y_H_end b_H_end 2 none) (rD 1) (va_Pc [.ref (a 5), .int (nI j)] (MB (dC, dI) (yA t) (wA a t σ) sz)) (va_Qv (fun u : SA => u = au_lv σ (updN (a_lv σ) j 0)) (fun u => ME (dC, dI) (yA t) (va_A (wA a t σ) sz) (wA a t u)) (va_A (wA a t σ) sz)) 0 0 (va_A (wA a t σ) sz) := by
  refine x_enter (by decide) (Nat.le_of_ble_eq_true rfl) ?_
  intro p e s m below meth c ls hx hb hr hml hT hown hlk hnm hl hB
  obtain ⟨rfl, hP, hK, hN, hD0⟩ := hB
  have hD := hD0.self (sz := s.heap.size)
  generalize hAe : va_A (wA a t σ) s.heap.size = A at hD ⊢
  have hA : ∀ q : Nat, s.heap.size ≤ q → A q := fun q h => by rw [← hAe]; exact Or.inr h
  have hS : va_S A s.heap s.heap [] := va_S.rf
  have hP : va_P (dC, dI) classes (wA a t σ) s.heap := hP
  have hl : lv_has ls 2 [(0, .ref (a 5)), (1, .int (nI j))] := hl
  have hown : s.vm.findClass R_H = some m.cls := hown
  have hG2 := hG
  obtain ⟨g_sn, g_sg, g_tn, g_tx, g_kd, g_lv, g_le, g_ln, g_hn, g_lf, g_lt, g_lc, g_rh, g_rn, g_ws, g_wn⟩ := hG
  refine lv_aload_n hx hb d_H_end_0 rfl (lv_at hl 0 rfl) ?_
  refine lv_iload_n hx hb d_H_end_1 rfl (lv_at hl 1 rfl) ?_
  refine x_ci (x_runV ⟨hx, hb, hml, hown, hT⟩ (c_H_isThere l dC dI a t σ hG2 (nI j)) f_H_isThere k_H_30 blR (va_recv hK hP (ci := 2) (q0 := 5) rfl rfl) (x_bR hK hP hN) hl.1 d_H_end_2 rfl (lv_room (Nat.le_of_ble_eq_true rfl)) ⟨Nat.le_of_ble_eq_true rfl, Nat.le_of_ble_eq_true rfl⟩ ⟨rfl, rfl⟩ ⟨Nat.le_refl 0, Nat.le_refl 0⟩ rfl) (fun r2 q2 => ?_)
  obtain ⟨rfl, _⟩ : r2 = nI 1 ∧ True := by
    rcases q2 with ⟨h9, _⟩ | ⟨_, h9⟩
    · exact ⟨h9, trivial⟩
    · exact absurd ⟨j, by omega, by omega, rfl⟩ h9
  refine x_if_eq (tgt := 15) hx hb d_H_end_5 (by decide) (fun h => absurd h (by decide)) (fun _ => ?_)
  refine lv_aload_n hx hb d_H_end_8 rfl (lv_at hl 0 rfl) ?_
  refine va_get (D := (dC, dI)) (C := R_H) (T := F_H) (N := 5) hx hb hT i_H hown hK hP 5 rfl rfl 1 (by decide) (hT _ k_H_15) (fun _ h9 => h9) (v := .ref (a 7)) rfl d_H_end_9 ?_
  refine lv_iload_n hx hb d_H_end_12 rfl (lv_at hl 1 rfl) ?_
  refine lv_iconst (v := nI 0) hx hb d_H_end_13 (by decide) ?_
  refine x_zast hx hb hK hP hD hS 7 3 (f := (a_lv σ)) rfl rfl d_H_end_14 (by omega) (fun H locs hP hD hS => ?_)
  have hP : va_P (dC, dI) classes (wA a t (au_lv σ (updN (a_lv σ) (j) (0)))) H := hP
  have hD : va_D A (wA a t (au_lv σ (updN (a_lv σ) (j) (0)))) := hD
  exact x_mv (wl := wA a t) (au_lv σ (updN (a_lv σ) (j) (0))) hx hb hr hlk hK hP hD hS d_H_end_15 rfl

def cpT (f : Nat → Nat) (b : Nat) (g : Nat → Nat) (n : Nat) : Nat → Nat := fun j => if b ≤ j ∧ j < b + n then g (j - b) else f j
theorem cpT_0 (f : Nat → Nat) (b : Nat) (g : Nat → Nat) : cpT f b g 0 = f := by
  funext j
  unfold cpT
  rw [if_neg (by omega)]
theorem cpT_s (f : Nat → Nat) (b : Nat) (g : Nat → Nat) (n : Nat) : updN (cpT f b g n) (b + n) (g n) = cpT f b g (n + 1) := by
  funext j
  unfold updN cpT
  by_cases h : j = b + n
  · subst h; rw [if_pos rfl, if_pos (by omega)]; congr 1; omega
  · rw [if_neg h]
    by_cases h2 : b ≤ j ∧ j < b + n
    · rw [if_pos h2, if_pos (by omega)]
    · rw [if_neg h2, if_neg (by omega)]
theorem cpT_lt {f g : Nat → Nat} {b n c : Nat} (h : ∀ j, f j < c) (h2 : ∀ j, g j < c) : ∀ j, cpT f b g n j < c := fun j => by unfold cpT; split; exact h2 _; exact h j
set_option maxRecDepth 100000 in
set_option maxHeartbeats 4000000 in
theorem c_H_setText (l : Launch) (dC : Nat → ClassId) (dI : Nat → Nat → Nat) (a : Nat → Nat) (t : Nat → ClassId) (σ : SA) (sz : Nat) (hG : GA σ) (j : Nat) (hj1 : 1 ≤ j) (hj2 : j ≤ a_hn σ) : Met l y_H_setText (wS y_H_setText b_H_setText 4 none) (rD 1) (va_Pc [.ref (a 5), .int (nI j), .ref (a 3)] (MB (dC, dI) (yA t) (wA a t σ) sz)) (va_Qv (fun u : SA => u = au_ln (au_le σ (cpT (a_le σ) (j * 20) (a_tx σ) (a_tn σ))) (updN (a_ln σ) j (a_tn σ))) (fun u => ME (dC, dI) (yA t) (va_A (wA a t σ) sz) (wA a t u)) (va_A (wA a t σ) sz)) 0 0 (va_A (wA a t σ) sz) := by
  refine x_enter (by decide) (Nat.le_of_ble_eq_true rfl) ?_
  intro p e s m below meth c ls hx hb hr hml hT hown hlk hnm hl hB
  obtain ⟨rfl, hP, hK, hN, hD0⟩ := hB
  have hD := hD0.self (sz := s.heap.size)
  generalize hAe : va_A (wA a t σ) s.heap.size = A at hD ⊢
  have hA : ∀ q : Nat, s.heap.size ≤ q → A q := fun q h => by rw [← hAe]; exact Or.inr h
  have hS : va_S A s.heap s.heap [] := va_S.rf
  have hP : va_P (dC, dI) classes (wA a t σ) s.heap := hP
  have hl : lv_has ls 4 [(0, .ref (a 5)), (1, .int (nI j)), (2, .ref (a 3))] := hl
  have hown : s.vm.findClass R_H = some m.cls := hown
  have hG2 := hG
  obtain ⟨g_sn, g_sg, g_tn, g_tx, g_kd, g_lv, g_le, g_ln, g_hn, g_lf, g_lt, g_lc, g_rh, g_rn, g_ws, g_wn⟩ := hG
  refine lv_aload_n hx hb d_H_setText_0 rfl (lv_at hl 0 rfl) ?_
  refine lv_iload_n hx hb d_H_setText_1 rfl (lv_at hl 1 rfl) ?_
  refine x_ci (x_runV ⟨hx, hb, hml, hown, hT⟩ (c_H_isThere l dC dI a t σ hG2 (nI j)) f_H_isThere k_H_30 blR (va_recv hK hP (ci := 2) (q0 := 5) rfl rfl) (x_bR hK hP hN) hl.1 d_H_setText_2 rfl (lv_room (Nat.le_of_ble_eq_true rfl)) ⟨Nat.le_of_ble_eq_true rfl, Nat.le_of_ble_eq_true rfl⟩ ⟨rfl, rfl⟩ ⟨Nat.le_refl 0, Nat.le_refl 0⟩ rfl) (fun r2 q2 => ?_)
  obtain ⟨rfl, _⟩ : r2 = nI 1 ∧ True := by
    rcases q2 with ⟨h9, _⟩ | ⟨_, h9⟩
    · exact ⟨h9, trivial⟩
    · exact absurd ⟨j, by omega, by omega, rfl⟩ h9
  refine x_if_ne (tgt := 9) hx hb d_H_setText_5 (by decide) (fun _ => ?_) (fun h => absurd h (by decide))
  have e0 : wA a t σ = wA a t (au_le σ (cpT (a_le σ) (j * 20) (a_tx σ) 0)) := by rw [cpT_0]; rfl
  rw [e0] at hP hD
  refine lv_iconst (v := nI 0) hx hb d_H_setText_9 (by decide) ?_
  refine lv_istore_n (lv' := [(3, .int (nI 0)), (0, .ref (a 5)), (1, .int (nI j)), (2, .ref (a 3))]) hx hb d_H_setText_10 rfl hl (by decide) rfl (fun ls hl => ?_)
  have hloop11 : ∀ (n11 : Nat) (i : Nat) (H : Heap) (locs : List Loc) (ls : Array Slot), i ≤ a_tn σ → a_tn σ + 1 - i < n11 → va_P (dC, dI) classes (wA a t (au_le σ (cpT (a_le σ) (j * 20) (a_tx σ) i))) H → va_D A (wA a t (au_le σ (cpT (a_le σ) (j * 20) (a_tx σ) i))) → va_S A s.heap H locs → lv_has ls 4 [(0, .ref (a 5)), (1, .int (nI j)), (2, .ref (a 3)), (3, .int (nI i))] → W p l e (rD 1) s m ([.ref (a 5), .int (nI j), .ref (a 3)] : List Value).toArray below meth c H locs 0 0 (MQ below (va_Qv (fun u : SA => u = au_ln (au_le σ (cpT (a_le σ) (j * 20) (a_tx σ) (a_tn σ))) (updN (a_ln σ) j (a_tn σ))) (fun u => ME (dC, dI) (yA t) A (wA a t u)) A) ([.ref (a 5), .int (nI j), .ref (a 3)] : List Value).toArray s 0 0 A) (F0 m 11 ls []) := by
    intro n11
    induction n11 with
    | zero => intro i H locs ls _ h9; exact absurd h9 (Nat.not_lt_zero _)
    | succ n11 ih11 =>
      intro i H locs ls hi hmu11 hP hD hS hl
      refine lv_iload_n hx hb d_H_setText_11 rfl (lv_at hl 3 rfl) ?_
      refine lv_aload_n hx hb d_H_setText_12 rfl (lv_at hl 2 rfl) ?_
      refine va_getN (D := (dC, dI)) (C := R_T) (T := F_T) (N := 2) hx hb hT i_T hown hK hP 3 rfl rfl 1 (by decide) (va_Nw.use rfl (hN _ k_H_42 rfl)) (fun _ h9 => h9) (v := .int (nI (a_tn σ))) rfl d_H_setText_13 ?_
      refine x_icmp_ge (tgt := 42) hx hb d_H_setText_16 (by decide) (fun c16 => ?_) (fun c16 => ?_)
      · refine lv_aload_n hx hb d_H_setText_42 rfl (lv_at hl 0 rfl) ?_
        refine va_get (D := (dC, dI)) (C := R_H) (T := F_H) (N := 5) hx hb hT i_H hown hK hP 5 rfl rfl 3 (by decide) (hT _ k_H_23) (fun _ h9 => h9) (v := .ref (a 9)) rfl d_H_setText_43 ?_
        refine lv_iload_n hx hb d_H_setText_46 rfl (lv_at hl 1 rfl) ?_
        refine lv_aload_n hx hb d_H_setText_47 rfl (lv_at hl 2 rfl) ?_
        refine va_getN (D := (dC, dI)) (C := R_T) (T := F_T) (N := 2) hx hb hT i_T hown hK hP 3 rfl rfl 1 (by decide) (va_Nw.use rfl (hN _ k_H_42 rfl)) (fun _ h9 => h9) (v := .int (nI (a_tn σ))) rfl d_H_setText_48 ?_
        refine x_iast hx hb hK hP hD hS 9 5 (f := (a_ln σ)) rfl rfl d_H_setText_51 (by omega) (fun H locs hP hD hS => ?_)
        have hP : va_P (dC, dI) classes (wA a t (au_ln (au_le σ (cpT (a_le σ) (j * 20) (a_tx σ) i)) (updN (a_ln σ) (j) (a_tn σ)))) H := hP
        have hD : va_D A (wA a t (au_ln (au_le σ (cpT (a_le σ) (j * 20) (a_tx σ) i)) (updN (a_ln σ) (j) (a_tn σ)))) := hD
        exact x_mv (wl := wA a t) (au_ln (au_le σ (cpT (a_le σ) (j * 20) (a_tx σ) i)) (updN (a_ln σ) (j) (a_tn σ))) hx hb hr hlk hK hP hD hS d_H_setText_52 (by rw [show i = a_tn σ by omega])
      · refine lv_aload_n hx hb d_H_setText_19 rfl (lv_at hl 0 rfl) ?_
        refine va_get (D := (dC, dI)) (C := R_H) (T := F_H) (N := 5) hx hb hT i_H hown hK hP 5 rfl rfl 2 (by decide) (hT _ k_H_19) (fun _ h9 => h9) (v := .ref (a 8)) rfl d_H_setText_20 ?_
        refine lv_iload_n hx hb d_H_setText_23 rfl (lv_at hl 1 rfl) ?_
        refine lv_bipush (v := nI 20) hx hb d_H_setText_24 (by decide) ?_
        refine x_imul hx hb d_H_setText_26 ?_
        refine lv_iload_n hx hb d_H_setText_27 rfl (lv_at hl 3 rfl) ?_
        refine x_iadd hx hb d_H_setText_28 ?_
        refine lv_aload_n hx hb d_H_setText_29 rfl (lv_at hl 2 rfl) ?_
        refine va_getN (D := (dC, dI)) (C := R_T) (T := F_T) (N := 2) hx hb hT i_T hown hK hP 3 rfl rfl 0 (by decide) (va_Nw.use rfl (hN _ k_H_47 rfl)) (fun _ h9 => h9) (v := .ref (a 4)) rfl d_H_setText_30 ?_
        refine lv_iload_n hx hb d_H_setText_33 rfl (lv_at hl 3 rfl) ?_
        refine x_cald hx hb hK hP 4 1 (f := (a_tx σ)) rfl rfl d_H_setText_34 (by omega) ?_
        have g9 := g_tx i
        refine x_cast hx hb hK hP hD hS 8 4 (f := (cpT (a_le σ) (j * 20) (a_tx σ) i)) rfl rfl d_H_setText_35 (by omega) (fun H locs hP hD hS => ?_)
        have hP : va_P (dC, dI) classes (wA a t (au_le σ (updN (cpT (a_le σ) (j * 20) (a_tx σ) i) ((j * 20) + i) ((a_tx σ) i)))) H := hP
        have hD : va_D A (wA a t (au_le σ (updN (cpT (a_le σ) (j * 20) (a_tx σ) i) ((j * 20) + i) ((a_tx σ) i)))) := hD
        rw [show updN (cpT (a_le σ) (j * 20) (a_tx σ) i) (j * 20 + i) (a_tx σ i) = cpT (a_le σ) (j * 20) (a_tx σ) (i + 1) from cpT_s _ _ _ _] at hP hD
        refine x_iinc (lv' := [(3, .int (nI (i + 1))), (0, .ref (a 5)), (1, .int (nI j)), (2, .ref (a 3))]) hx hb d_H_setText_36 hl (k := 3) rfl (by decide) rfl (fun ls hl => ?_)
        refine lv_goto (tgt := 11) hx hb d_H_setText_39 (by decide) ?_
        exact ih11 (i + 1) H locs ls (by omega) (by omega) hP hD hS (lv_sub hl [1, 2, 3, 0] rfl)
  exact hloop11 _ 0 _ _ ls (by omega) (Nat.lt_succ_self _) hP hD hS (lv_sub hl [1, 2, 3, 0] rfl)

set_option maxRecDepth 100000 in
set_option maxHeartbeats 4000000 in
theorem c_H_add (l : Launch) (dC : Nat → ClassId) (dI : Nat → Nat → Nat) (a : Nat → Nat) (t : Nat → ClassId) (σ : SA) (sz : Nat) (hG : GA σ) (kk : Nat) (hkk : kk < 4) (hf : a_hn σ < 60) : Met l y_H_add (wS y_H_add b_H_add 3 (some .int)) (rD 2) (va_Pc [.ref (a 5), .int (nI kk), .ref (a 3)] (MB (dC, dI) (yA t) (wA a t σ) sz)) (va_Qi (fun (r : Int32) (u : SA) => r = nI (a_hn σ + 1) ∧ u = au_hn (au_ln (au_le (au_lv (au_kd σ (updN (a_kd σ) (a_hn σ + 1) kk)) (updN (a_lv σ) (a_hn σ + 1) 1)) (cpT (a_le σ) ((a_hn σ + 1) * 20) (a_tx σ) (a_tn σ))) (updN (a_ln σ) (a_hn σ + 1) (a_tn σ))) (a_hn σ + 1)) (fun u => ME (dC, dI) (yA t) (va_A (wA a t σ) sz) (wA a t u)) (va_A (wA a t σ) sz)) 0 0 (va_A (wA a t σ) sz) := by
  refine x_enter (by decide) (Nat.le_of_ble_eq_true rfl) ?_
  intro p e s m below meth c ls hx hb hr hml hT hown hlk hnm hl hB
  obtain ⟨rfl, hP, hK, hN, hD0⟩ := hB
  have hD := hD0.self (sz := s.heap.size)
  generalize hAe : va_A (wA a t σ) s.heap.size = A at hD ⊢
  have hA : ∀ q : Nat, s.heap.size ≤ q → A q := fun q h => by rw [← hAe]; exact Or.inr h
  have hS : va_S A s.heap s.heap [] := va_S.rf
  have hP : va_P (dC, dI) classes (wA a t σ) s.heap := hP
  have hl : lv_has ls 3 [(0, .ref (a 5)), (1, .int (nI kk)), (2, .ref (a 3))] := hl
  have hown : s.vm.findClass R_H = some m.cls := hown
  have hG2 := hG
  obtain ⟨g_sn, g_sg, g_tn, g_tx, g_kd, g_lv, g_le, g_ln, g_hn, g_lf, g_lt, g_lc, g_rh, g_rn, g_ws, g_wn⟩ := hG
  refine lv_aload_n hx hb d_H_add_0 rfl (lv_at hl 0 rfl) ?_
  refine x_ci (x_runV ⟨hx, hb, hml, hown, hT⟩ (c_H_isFull l dC dI a t σ hG2) f_H_isFull k_H_34 blR (va_recv hK hP (ci := 2) (q0 := 5) rfl rfl) (x_bR hK hP hN) hl.1 d_H_add_1 rfl (lv_room (Nat.le_of_ble_eq_true rfl)) ⟨Nat.le_of_ble_eq_true rfl, Nat.le_of_ble_eq_true rfl⟩ ⟨rfl, rfl⟩ ⟨Nat.le_refl 0, Nat.le_refl 0⟩ rfl) (fun r1 q1 => ?_)
  rcases q1 with ⟨_, h9⟩ | ⟨rfl, _⟩
  · exact absurd h9 (by omega)
  refine x_if_eq (tgt := 9) hx hb d_H_add_4 (by decide) (fun _ => ?_) (fun h => absurd h (by decide))
  refine lv_aload_n hx hb d_H_add_9 rfl (lv_at hl 0 rfl) ?_
  refine lv_dup hx hb d_H_add_10 rfl ?_
  refine va_get (D := (dC, dI)) (C := R_H) (T := F_H) (N := 5) hx hb hT i_H hown hK hP 5 rfl rfl 4 (by decide) (hT _ k_H_26) (fun _ h9 => h9) (v := .int (nI (a_hn σ))) rfl d_H_add_11 ?_
  refine lv_iconst (v := nI 1) hx hb d_H_add_14 (by decide) ?_
  refine x_iadd hx hb d_H_add_15 ?_
  refine va_put (D := (dC, dI)) (v := .int (nI ((a_hn σ) + 1))) (ty := .int) (C := R_H) (T := F_H) (N := 5) hx hb hT i_H ft_H ft_H_ok n_H hown hK hP hD hS 5 rfl rfl 4 (by decide) (hT _ k_H_26) (fun _ h9 => h9) rfl (by decide +kernel) rfl rfl (Nat.le_of_ble_eq_true rfl) d_H_add_16 (fun H locs hP hD hS => ?_)
  have hP : va_P (dC, dI) classes (wA a t (au_hn σ ((a_hn σ) + 1))) H := hP
  have hD : va_D A (wA a t (au_hn σ ((a_hn σ) + 1))) := hD
  refine lv_aload_n hx hb d_H_add_19 rfl (lv_at hl 0 rfl) ?_
  refine va_get (D := (dC, dI)) (C := R_H) (T := F_H) (N := 5) hx hb hT i_H hown hK hP 5 rfl rfl 0 (by decide) (hT _ k_H_9) (fun _ h9 => h9) (v := .ref (a 6)) rfl d_H_add_20 ?_
  refine lv_aload_n hx hb d_H_add_23 rfl (lv_at hl 0 rfl) ?_
  refine va_get (D := (dC, dI)) (C := R_H) (T := F_H) (N := 5) hx hb hT i_H hown hK hP 5 rfl rfl 4 (by decide) (hT _ k_H_26) (fun _ h9 => h9) (v := .int (nI ((a_hn σ) + 1))) rfl d_H_add_24 ?_
  refine lv_iload_n hx hb d_H_add_27 rfl (lv_at hl 1 rfl) ?_
  refine x_iast hx hb hK hP hD hS 6 2 (f := (a_kd σ)) rfl rfl d_H_add_28 (by omega) (fun H locs hP hD hS => ?_)
  have hP : va_P (dC, dI) classes (wA a t (au_hn (au_kd σ (updN (a_kd σ) ((a_hn σ) + 1) (kk))) ((a_hn σ) + 1))) H := hP
  have hD : va_D A (wA a t (au_hn (au_kd σ (updN (a_kd σ) ((a_hn σ) + 1) (kk))) ((a_hn σ) + 1))) := hD
  refine lv_aload_n hx hb d_H_add_29 rfl (lv_at hl 0 rfl) ?_
  refine va_get (D := (dC, dI)) (C := R_H) (T := F_H) (N := 5) hx hb hT i_H hown hK hP 5 rfl rfl 1 (by decide) (hT _ k_H_15) (fun _ h9 => h9) (v := .ref (a 7)) rfl d_H_add_30 ?_
  refine lv_aload_n hx hb d_H_add_33 rfl (lv_at hl 0 rfl) ?_
  refine va_get (D := (dC, dI)) (C := R_H) (T := F_H) (N := 5) hx hb hT i_H hown hK hP 5 rfl rfl 4 (by decide) (hT _ k_H_26) (fun _ h9 => h9) (v := .int (nI ((a_hn σ) + 1))) rfl d_H_add_34 ?_
  refine lv_iconst (v := nI 1) hx hb d_H_add_37 (by decide) ?_
  refine x_zast hx hb hK hP hD hS 7 3 (f := (a_lv σ)) rfl rfl d_H_add_38 (by omega) (fun H locs hP hD hS => ?_)
  have hP : va_P (dC, dI) classes (wA a t (au_hn (au_lv (au_kd σ (updN (a_kd σ) ((a_hn σ) + 1) (kk))) (updN (a_lv σ) ((a_hn σ) + 1) (1))) ((a_hn σ) + 1))) H := hP
  have hD : va_D A (wA a t (au_hn (au_lv (au_kd σ (updN (a_kd σ) ((a_hn σ) + 1) (kk))) (updN (a_lv σ) ((a_hn σ) + 1) (1))) ((a_hn σ) + 1))) := hD
  refine lv_aload_n hx hb d_H_add_39 rfl (lv_at hl 0 rfl) ?_
  refine lv_aload_n hx hb d_H_add_40 rfl (lv_at hl 0 rfl) ?_
  refine va_get (D := (dC, dI)) (C := R_H) (T := F_H) (N := 5) hx hb hT i_H hown hK hP 5 rfl rfl 4 (by decide) (hT _ k_H_26) (fun _ h9 => h9) (v := .int (nI ((a_hn σ) + 1))) rfl d_H_add_41 ?_
  refine lv_aload_n hx hb d_H_add_44 rfl (lv_at hl 2 rfl) ?_
  refine x_cMv (wl := wA a t) (x_runV ⟨hx, hb, hml, hown, hT⟩ (c_H_setText l dC dI a t (au_hn (au_lv (au_kd σ (updN (a_kd σ) ((a_hn σ) + 1) (kk))) (updN (a_lv σ) ((a_hn σ) + 1) (1))) ((a_hn σ) + 1)) H.size (GA_hn (GA_lv (GA_kd hG2 (updN_lt g_kd hkk)) (updN_lt g_lv (by decide))) (by omega)) (a_hn σ + 1) (by omega) (Nat.le_refl _)) f_H_setText k_H_38 blM (va_recv hK hP (ci := 2) (q0 := 5) rfl rfl) (x_bM hK hP hN hD) hl.1 d_H_add_45 rfl (lv_room (Nat.le_of_ble_eq_true rfl)) ⟨Nat.le_of_ble_eq_true rfl, Nat.le_of_ble_eq_true rfl⟩ ⟨rfl, rfl⟩ ⟨Nat.le_refl 0, Nat.le_refl 0⟩ rfl) hD hS hA (fun u45 H locs q45 hP hD hS => ?_)
  subst q45
  have hP : va_P (dC, dI) classes (wA a t (au_hn (au_ln (au_le (au_lv (au_kd σ (updN (a_kd σ) (a_hn σ + 1) kk)) (updN (a_lv σ) (a_hn σ + 1) 1)) (cpT (a_le σ) ((a_hn σ + 1) * 20) (a_tx σ) (a_tn σ))) (updN (a_ln σ) (a_hn σ + 1) (a_tn σ))) (a_hn σ + 1))) H := hP
  have hD : va_D A (wA a t (au_hn (au_ln (au_le (au_lv (au_kd σ (updN (a_kd σ) (a_hn σ + 1) kk)) (updN (a_lv σ) (a_hn σ + 1) 1)) (cpT (a_le σ) ((a_hn σ + 1) * 20) (a_tx σ) (a_tn σ))) (updN (a_ln σ) (a_hn σ + 1) (a_tn σ))) (a_hn σ + 1))) := hD
  refine lv_aload_n hx hb d_H_add_48 rfl (lv_at hl 0 rfl) ?_
  refine va_get (D := (dC, dI)) (C := R_H) (T := F_H) (N := 5) hx hb hT i_H hown hK hP 5 rfl rfl 4 (by decide) (hT _ k_H_26) (fun _ h9 => h9) (v := .int (nI (a_hn σ + 1))) rfl d_H_add_49 ?_
  exact x_mi (wl := wA a t) (au_hn (au_ln (au_le (au_lv (au_kd σ (updN (a_kd σ) (a_hn σ + 1) kk)) (updN (a_lv σ) (a_hn σ + 1) 1)) (cpT (a_le σ) ((a_hn σ + 1) * 20) (a_tx σ) (a_tn σ))) (updN (a_ln σ) (a_hn σ + 1) (a_tn σ))) (a_hn σ + 1)) hx hb hr hlk hK hP hD hS d_H_add_52 ⟨rfl, rfl⟩

