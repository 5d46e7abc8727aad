def clrT (tg : Nat → Int64) (h q f : Nat) : Int64 := if f = h then 0 else tg (q * 61 + f) &&& (sg h ^^^ (-1))
theorem b6_0and (x : Int64) : 0 &&& x = 0 := b6_ext (fun j _ => by rw [b6_and, b6_0]; rfl)
theorem rm_step {tg T2 : Nat → Int64} {h q f : Nat} (hT : ∀ q' f', q' < 4 → 1 ≤ f' → f' ≤ 60 → T2 (q' * 61 + f') = if q' < q ∨ (q' = q ∧ f' < f) then clrT tg h q' f' else if q' = q ∧ f' = h then 0 else tg (q' * 61 + f')) (h1 : 1 ≤ f) (h2 : f ≤ 60) (hq : q < 4) : ∀ q' f', q' < 4 → 1 ≤ f' → f' ≤ 60 → vp_updL T2 (q * 61 + f) (T2 (q * 61 + f) &&& (sg h ^^^ (-1))) (q' * 61 + f') = if q' < q ∨ (q' = q ∧ f' < f + 1) then clrT tg h q' f' else if q' = q ∧ f' = h then 0 else tg (q' * 61 + f') := by
  intro q' f' a1 a2 a3
  by_cases e : q' = q ∧ f' = f
  · obtain ⟨rfl, rfl⟩ := e
    rw [updL_s, if_pos (by omega), hT q' f' a1 a2 a3, if_neg (by omega)]
    unfold clrT
    by_cases e2 : f' = h
    · rw [if_pos ⟨rfl, e2⟩, if_pos e2]; exact b6_0and _
    · rw [if_neg (fun z => e2 z.2), if_neg e2]
  · rw [updL_n (by omega), hT q' f' a1 a2 a3]
    by_cases e2 : q' < q ∨ (q' = q ∧ f' < f)
    · rw [if_pos e2, if_pos (by omega)]
    · rw [if_neg e2, if_neg (show ¬ (q' < q ∨ q' = q ∧ f' < f + 1) by omega)]
theorem rm_start {tg T : Nat → Int64} {h q : Nat} (hT : ∀ q' f', q' < 4 → 1 ≤ f' → f' ≤ 60 → T (q' * 61 + f') = if q' < q then clrT tg h q' f' else tg (q' * 61 + f')) (h1 : 1 ≤ h) (h2 : h ≤ 60) (hq : q < 4) : ∀ q' f', q' < 4 → 1 ≤ f' → f' ≤ 60 → vp_updL T (q * 61 + h) 0 (q' * 61 + f') = if q' < q ∨ (q' = q ∧ f' < 1) then clrT tg h q' f' else if q' = q ∧ f' = h then 0 else tg (q' * 61 + f') := by
  intro q' f' a1 a2 a3
  by_cases e : q' = q ∧ f' = h
  · obtain ⟨rfl, rfl⟩ := e
    rw [updL_s, if_neg (by omega), if_pos ⟨rfl, rfl⟩]
  · rw [updL_n (by omega), hT q' f' a1 a2 a3]
    by_cases e2 : q' < q
    · rw [if_pos e2, if_pos (by omega)]
    · rw [if_neg e2, if_neg (by omega), if_neg e]
theorem rm_end {tg T : Nat → Int64} {h q f : Nat} (hT : ∀ q' f', q' < 4 → 1 ≤ f' → f' ≤ 60 → T (q' * 61 + f') = if q' < q ∨ (q' = q ∧ f' < f) then clrT tg h q' f' else if q' = q ∧ f' = h then 0 else tg (q' * 61 + f')) (hf : 60 < f) : ∀ q' f', q' < 4 → 1 ≤ f' → f' ≤ 60 → T (q' * 61 + f') = if q' < q + 1 then clrT tg h q' f' else tg (q' * 61 + f') := by
  intro q' f' a1 a2 a3
  rw [hT q' f' a1 a2 a3]
  by_cases e2 : q' < q + 1
  · rw [if_pos e2, if_pos (by omega)]
  · rw [if_neg e2, if_neg (by omega), if_neg (by omega)]
set_option maxRecDepth 100000 in
set_option maxHeartbeats 4000000 in
theorem c_K_removeAllOf (l : Launch) (dC : Nat → ClassId) (dI : Nat → Nat → Nat) (a : Nat → Nat) (t : Nat → ClassId) (σ : SA) (sz : Nat) (hG : GA σ) (h : Nat) (h1 : 1 ≤ h) (hh : h ≤ 60) : Met l y_K_removeAllOf (wS y_K_removeAllOf b_K_removeAllOf 4 none) (rD 2) (va_Pc [.ref (a 10), .int (nI h)] (MB (dC, dI) (yA t) (wA a t σ) sz)) (va_Qv (fun u : SA => ∃ (T : Nat → Int64) (F G : Nat → Nat) (E : Nat → Int64) (k : Nat), u = au_lc (au_ld (au_lt (au_lf (au_tg σ T) F) G) E) k ∧ k ≤ a_lc σ ∧ (∀ j, F j ≤ 60) ∧ (∀ j, G j ≤ 60) ∧ lst F G E k = (lst (a_lf σ) (a_lt σ) (a_ld σ) (a_lc σ)).filter (keepL h) ∧ ∀ q f, q < 4 → 1 ≤ f → f ≤ 60 → T (q * 61 + f) = clrT (a_tg σ) h q f) (fun u => ME (dC, dI) (yA t) (va_A (wA a t σ) sz) (wA a t u)) (va_A (wA a t σ) sz)) 0 0 (va_A (wA a t σ) sz) := by
  refine x_enter (by decide) (Nat.le_of_ble_eq_true rfl) ?_
  intro p e s m below meth c ls hx hb hr hml hT hown hlk hnm hl hB
  obtain ⟨rfl, hP, hK, hN, hD0⟩ := hB
  have hD := hD0.self (sz := s.heap.size)
  generalize hAe : va_A (wA a t σ) s.heap.size = A at hD ⊢
  have hA : ∀ q : Nat, s.heap.size ≤ q → A q := fun q h => by rw [← hAe]; exact Or.inr h
  have hS : va_S A s.heap s.heap [] := va_S.rf
  have hP : va_P (dC, dI) classes (wA a t σ) s.heap := hP
  have hl : lv_has ls 4 [(0, .ref (a 10)), (1, .int (nI h))] := hl
  have hown : s.vm.findClass R_K = some m.cls := hown
  have hG2 := hG
  obtain ⟨g_sn, g_sg, g_tn, g_tx, g_kd, g_lv, g_le, g_ln, g_hn, g_lf, g_lt, g_lc, g_rh, g_rn, g_ws, g_wn⟩ := hG
  refine lv_iconst (v := nI 0) hx hb d_K_removeAllOf_0 (by decide) ?_
  refine lv_istore_n (lv' := [(2, .int (nI 0)), (0, .ref (a 10)), (1, .int (nI h))]) hx hb d_K_removeAllOf_1 rfl hl (by decide) rfl (fun ls hl => ?_)
  have hloop2 : ∀ (n2 : Nat) (q : Nat) (T : Nat → Int64) (H : Heap) (locs : List Loc) (ls : Array Slot), q ≤ 4 → (∀ q' f', q' < 4 → 1 ≤ f' → f' ≤ 60 → T (q' * 61 + f') = if q' < q then clrT (a_tg σ) h q' f' else a_tg σ (q' * 61 + f')) → 5 - q < n2 → va_P (dC, dI) classes (wA a t (au_tg σ (T))) H → va_D A (wA a t (au_tg σ (T))) → va_S A s.heap H locs → lv_has ls 4 [(0, .ref (a 10)), (1, .int (nI h)), (2, .int (nI q))] → W p l e (rD 2) s m ([.ref (a 10), .int (nI h)] : List Value).toArray below meth c H locs 0 0 (MQ below (va_Qv (fun u : SA => ∃ (T : Nat → Int64) (F G : Nat → Nat) (E : Nat → Int64) (k : Nat), u = au_lc (au_ld (au_lt (au_lf (au_tg σ T) F) G) E) k ∧ k ≤ a_lc σ ∧ (∀ j, F j ≤ 60) ∧ (∀ j, G j ≤ 60) ∧ lst F G E k = (lst (a_lf σ) (a_lt σ) (a_ld σ) (a_lc σ)).filter (keepL h) ∧ ∀ q f, q < 4 → 1 ≤ f → f ≤ 60 → T (q * 61 + f) = clrT (a_tg σ) h q f) (fun u => ME (dC, dI) (yA t) A (wA a t u)) A) ([.ref (a 10), .int (nI h)] : List Value).toArray s 0 0 A) (F0 m 2 ls []) := by
    intro n2
    induction n2 with
    | zero => intro q T H locs ls _ _ h9; exact absurd h9 (Nat.not_lt_zero _)
    | succ n2 ih2 =>
      intro q T H locs ls hq hTo hmu2 hP hD hS hl
      refine lv_iload_n hx hb d_K_removeAllOf_2 rfl (lv_at hl 2 rfl) ?_
      refine lv_iconst (v := nI 4) hx hb d_K_removeAllOf_3 (by decide) ?_
      refine x_icmp_ge (tgt := 69) hx hb d_K_removeAllOf_4 (by decide) (fun c4 => ?_) (fun c4 => ?_)
      · refine lv_aload_n hx hb d_K_removeAllOf_69 rfl (lv_at hl 0 rfl) ?_
        refine lv_iload_n hx hb d_K_removeAllOf_70 rfl (lv_at hl 1 rfl) ?_
        refine x_cMv (wl := wA a t) (x_runV ⟨hx, hb, hml, hown, hT⟩ (c_K_removeLaterOf l dC dI a t (au_tg σ T) H.size (GA_tg hG2) h hh) f_K_removeLaterOf k_K_55 blM (va_recv hK hP (ci := 3) (q0 := 10) rfl rfl) (x_bM hK hP hN hD) hl.1 d_K_removeAllOf_71 rfl (lv_room (Nat.le_of_ble_eq_true rfl)) ⟨Nat.le_of_ble_eq_true rfl, Nat.le_of_ble_eq_true rfl⟩ ⟨rfl, rfl⟩ ⟨Nat.le_refl 0, Nat.le_refl 0⟩ rfl) hD hS hA (fun u71 H locs q71 hP hD hS => ?_)
        obtain ⟨F, G, E, k, rfl, hk, hF, hG9, hls⟩ := q71
        have hP : va_P (dC, dI) classes (wA a t (au_lc (au_ld (au_lt (au_lf (au_tg σ (T)) (F)) (G)) (E)) (k))) H := hP
        have hD : va_D A (wA a t (au_lc (au_ld (au_lt (au_lf (au_tg σ (T)) (F)) (G)) (E)) (k))) := hD
        exact x_mv (wl := wA a t) (au_lc (au_ld (au_lt (au_lf (au_tg σ (T)) (F)) (G)) (E)) (k)) hx hb hr hlk hK hP hD hS d_K_removeAllOf_74 ⟨T, F, G, E, k, rfl, hk, hF, hG9, hls, fun q' f' a1 a2 a3 => by rw [hTo q' f' a1 a2 a3, if_pos (by omega)]⟩
      · have hq4 : q < 4 := by omega
        refine lv_iload_n hx hb d_K_removeAllOf_7 rfl (lv_at hl 2 rfl) ?_
        refine lv_iload_n hx hb d_K_removeAllOf_8 rfl (lv_at hl 1 rfl) ?_
        refine x_ci (x_runS ⟨hx, hb, hml, hown, hT⟩ (c_K_isPlace l q h (by omega) (by omega)) f_K_isPlace k_K_37 blT (x_bT hN) hl.1 d_K_removeAllOf_9 rfl (lv_room (Nat.le_of_ble_eq_true rfl)) ⟨Nat.le_of_ble_eq_true rfl, Nat.le_of_ble_eq_true rfl⟩ ⟨rfl, rfl⟩ ⟨Nat.le_refl 0, Nat.le_refl 0⟩ rfl) (fun r9 q9 => ?_)
        obtain rfl : r9 = nI 1 := by rcases q9 with ⟨h9, _⟩ | ⟨_, h9⟩; exact h9; exact absurd (show 1 ≤ h by omega) h9
        refine x_if_eq (tgt := 69) hx hb d_K_removeAllOf_12 (by decide) (fun h => absurd h (by decide)) (fun _ => ?_)
        refine lv_aload_n hx hb d_K_removeAllOf_15 rfl (lv_at hl 0 rfl) ?_
        refine va_get (D := (dC, dI)) (C := R_K) (T := F_K) (N := 5) hx hb hT i_K hown hK hP 10 rfl rfl 0 (by decide) (hT _ k_K_9) (fun _ h9 => h9) (v := .ref (a 11)) rfl d_K_removeAllOf_16 ?_
        refine lv_iload_n hx hb d_K_removeAllOf_19 rfl (lv_at hl 2 rfl) ?_
        refine lv_bipush (v := nI 61) hx hb d_K_removeAllOf_20 (by decide) ?_
        refine x_imul hx hb d_K_removeAllOf_22 ?_
        refine lv_iload_n hx hb d_K_removeAllOf_23 rfl (lv_at hl 1 rfl) ?_
        refine x_iadd hx hb d_K_removeAllOf_24 ?_
        refine lv_lconst (v := 0) hx hb d_K_removeAllOf_25 (by decide) ?_
        refine x_last hx hb hK hP hD hS 11 6 (f := T) rfl rfl d_K_removeAllOf_26 (by omega) (fun H locs hP hD hS => ?_)
        have hP : va_P (dC, dI) classes (wA a t (au_tg σ (vp_updL T ((q * 61) + h) (0)))) H := hP
        have hD : va_D A (wA a t (au_tg σ (vp_updL T ((q * 61) + h) (0)))) := hD
        refine lv_iconst (v := nI 1) hx hb d_K_removeAllOf_27 (by decide) ?_
        refine lv_istore_n (lv' := [(3, .int (nI 1)), (0, .ref (a 10)), (1, .int (nI h)), (2, .int (nI q))]) hx hb d_K_removeAllOf_28 rfl hl (by decide) rfl (fun ls hl => ?_)
        have hloop29 : ∀ (n29 : Nat) (f : Nat) (T2 : Nat → Int64) (H : Heap) (locs : List Loc) (ls : Array Slot), 1 ≤ f → f ≤ 61 → (∀ q' f', q' < 4 → 1 ≤ f' → f' ≤ 60 → T2 (q' * 61 + f') = if q' < q ∨ (q' = q ∧ f' < f) then clrT (a_tg σ) h q' f' else if q' = q ∧ f' = h then 0 else a_tg σ (q' * 61 + f')) → 62 - f < n29 → va_P (dC, dI) classes (wA a t (au_tg σ (T2))) H → va_D A (wA a t (au_tg σ (T2))) → va_S A s.heap H locs → lv_has ls 4 [(0, .ref (a 10)), (1, .int (nI h)), (2, .int (nI q)), (3, .int (nI f))] → W p l e (rD 2) s m ([.ref (a 10), .int (nI h)] : List Value).toArray below meth c H locs 0 0 (MQ below (va_Qv (fun u : SA => ∃ (T : Nat → Int64) (F G : Nat → Nat) (E : Nat → Int64) (k : Nat), u = au_lc (au_ld (au_lt (au_lf (au_tg σ T) F) G) E) k ∧ k ≤ a_lc σ ∧ (∀ j, F j ≤ 60) ∧ (∀ j, G j ≤ 60) ∧ lst F G E k = (lst (a_lf σ) (a_lt σ) (a_ld σ) (a_lc σ)).filter (keepL h) ∧ ∀ q f, q < 4 → 1 ≤ f → f ≤ 60 → T (q * 61 + f) = clrT (a_tg σ) h q f) (fun u => ME (dC, dI) (yA t) A (wA a t u)) A) ([.ref (a 10), .int (nI h)] : List Value).toArray s 0 0 A) (F0 m 29 ls []) := by
          intro n29
          induction n29 with
          | zero => intro f T2 H locs ls _ _ _ h9; exact absurd h9 (Nat.not_lt_zero _)
          | succ n29 ih29 =>
            intro f T2 H locs ls hf1 hf2 hT2 hmu29 hP hD hS hl
            refine lv_iload_n hx hb d_K_removeAllOf_29 rfl (lv_at hl 3 rfl) ?_
            refine lv_bipush (v := nI 60) hx hb d_K_removeAllOf_30 (by decide) ?_
            refine x_icmp_gt (tgt := 63) hx hb d_K_removeAllOf_32 (by decide) (fun c32 => ?_) (fun c32 => ?_)
            · refine x_iinc (lv' := [(2, .int (nI (q + 1))), (0, .ref (a 10)), (1, .int (nI h)), (3, .int (nI f))]) hx hb d_K_removeAllOf_63 hl (k := 2) rfl (by decide) rfl (fun ls hl => ?_)
              refine lv_goto (tgt := 2) hx hb d_K_removeAllOf_66 (by decide) ?_
              exact ih2 (q + 1) T2 H locs ls (by omega) (rm_end hT2 (by omega)) (by omega) hP hD hS (lv_sub hl [1, 2, 0] rfl)
            · refine lv_aload_n hx hb d_K_removeAllOf_35 rfl (lv_at hl 0 rfl) ?_
              refine va_get (D := (dC, dI)) (C := R_K) (T := F_K) (N := 5) hx hb hT i_K hown hK hP 10 rfl rfl 0 (by decide) (hT _ k_K_9) (fun _ h9 => h9) (v := .ref (a 11)) rfl d_K_removeAllOf_36 ?_
              refine lv_iload_n hx hb d_K_removeAllOf_39 rfl (lv_at hl 2 rfl) ?_
              refine lv_bipush (v := nI 61) hx hb d_K_removeAllOf_40 (by decide) ?_
              refine x_imul hx hb d_K_removeAllOf_42 ?_
              refine lv_iload_n hx hb d_K_removeAllOf_43 rfl (lv_at hl 3 rfl) ?_
              refine x_iadd hx hb d_K_removeAllOf_44 ?_
              refine lv_dup2_11 hx hb d_K_removeAllOf_45 rfl rfl ?_
              refine x_lald hx hb hK hP 11 6 (f := T2) rfl rfl d_K_removeAllOf_46 (by omega) ?_
              refine lv_iload_n hx hb d_K_removeAllOf_47 rfl (lv_at hl 1 rfl) ?_
              refine x_cl (x_runSN ⟨hx, hb, hml, hown, hT⟩ hN (c_A_setOf l h (by omega)) f_A_setOf k_K_41 blT (x_bT hN) hl.1 d_K_removeAllOf_48 rfl (lv_room (Nat.le_of_ble_eq_true rfl)) ⟨Nat.le_of_ble_eq_true rfl, Nat.le_of_ble_eq_true rfl⟩ ⟨rfl, rfl⟩ ⟨Nat.le_refl 0, Nat.le_refl 0⟩ rfl) (fun r48 q48 => ?_)
              subst q48
              refine lv_ldc2 (v := -1) hx hb hown (hT _ k_K_53) d_K_removeAllOf_51 ?_
              refine lv_lxor hx hb d_K_removeAllOf_54 ?_
              refine lv_land hx hb d_K_removeAllOf_55 ?_
              refine x_last hx hb hK hP hD hS 11 6 (f := T2) rfl rfl d_K_removeAllOf_56 (by omega) (fun H locs hP hD hS => ?_)
              have hP : va_P (dC, dI) classes (wA a t (au_tg σ (vp_updL T2 ((q * 61) + f) ((T2 ((q * 61) + f)) &&& ((sg h) ^^^ ((-1))))))) H := hP
              have hD : va_D A (wA a t (au_tg σ (vp_updL T2 ((q * 61) + f) ((T2 ((q * 61) + f)) &&& ((sg h) ^^^ ((-1))))))) := hD
              refine x_iinc (lv' := [(3, .int (nI (f + 1))), (0, .ref (a 10)), (1, .int (nI h)), (2, .int (nI q))]) hx hb d_K_removeAllOf_57 hl (k := 3) rfl (by decide) rfl (fun ls hl => ?_)
              refine lv_goto (tgt := 29) hx hb d_K_removeAllOf_60 (by decide) ?_
              exact ih29 (f + 1) _ H locs ls (by omega) (by omega) (rm_step hT2 hf1 (by omega) hq4) (by omega) hP hD hS (lv_sub hl [1, 2, 3, 0] rfl)
        exact hloop29 _ 1 _ _ _ ls (by omega) (by omega) (rm_start hTo h1 hh hq4) (Nat.lt_succ_self _) hP hD hS (lv_sub hl [1, 2, 3, 0] rfl)
  exact hloop2 _ 0 (a_tg σ) _ _ ls (by omega) (fun q' f' _ _ _ => by rw [if_neg (by omega)]) (Nat.lt_succ_self _) hP hD hS (lv_sub hl [1, 2, 0] rfl)

/-- in at most d links of the sort to the end -/
def rchA (tg : Nat → Int64) (q z : Nat) : Nat → Nat → Prop
  | 0, h => h = z
  | d + 1, h => rchA tg q z d h ∨ (1 ≤ h ∧ h ≤ 60 ∧ ∃ b, b < 64 ∧ bt6 (tg (q * 61 + h)) b = true ∧ rchA tg q z d b)
def levA (tg : Nat → Int64) (q z d h : Nat) : Prop := rchA tg q z d h ∧ ∀ e, e < d → ¬ rchA tg q z e h
theorem rchA_mono {tg : Nat → Int64} {q z h : Nat} : ∀ {d e : Nat}, d ≤ e → rchA tg q z d h → rchA tg q z e h := by
  intro d e hde
  induction hde with
  | refl => exact id
  | step _ ih => exact fun r => Or.inl (ih r)
theorem levA_s {tg : Nat → Int64} {q z d h : Nat} : levA tg q z (d + 1) h ↔ ((1 ≤ h ∧ h ≤ 60 ∧ ∃ b, b < 64 ∧ bt6 (tg (q * 61 + h)) b = true ∧ levA tg q z d b) ∧ ¬ rchA tg q z d h) := by
  constructor
  · rintro ⟨h1, h2⟩
    have h3 : ¬ rchA tg q z d h := h2 d (Nat.lt_succ_self d)
    rcases h1 with h1 | ⟨a1, a2, b, hb, a3, a4⟩
    · exact absurd h1 h3
    · refine ⟨⟨a1, a2, b, hb, a3, a4, fun e he r => h3 ?_⟩, h3⟩
      have : rchA tg q z (e + 1) h := Or.inr ⟨a1, a2, b, hb, a3, r⟩
      exact rchA_mono (by omega) this
  · rintro ⟨⟨a1, a2, b, hb, a3, a4⟩, h3⟩
    exact ⟨Or.inr ⟨a1, a2, b, hb, a3, a4.1⟩, fun e he r => h3 (rchA_mono (by omega) r)⟩
theorem levA_0 {tg : Nat → Int64} {q z h : Nat} : levA tg q z 0 h ↔ h = z := ⟨fun r => r.1, fun r => ⟨r, fun e he => absurd he (Nat.not_lt_zero _)⟩⟩
theorem levA_none {tg : Nat → Int64} {q z : Nat} : ∀ {d e : Nat}, d ≤ e → (∀ h, h < 64 → ¬ levA tg q z d h) → ∀ h, h < 64 → ¬ levA tg q z e h := by
  intro d e hde
  induction hde with
  | refl => exact id
  | step _ ih =>
    intro q0 h hh r
    obtain ⟨⟨_, _, b, hb, _, r2⟩, _⟩ := levA_s.mp r
    exact ih q0 b hb r2
/-- the next level, and what has been seen -/
theorem lay_step {tg : Nat → Int64} {q z d : Nat} {av sv nv : Int64} (ha : ∀ b, b < 64 → (bt6 av b = true ↔ levA tg q z d b)) (hs : ∀ b, b < 64 → (bt6 sv b = true ↔ rchA tg q z d b)) (hn : ∀ b, bt6 nv b = true ↔ ∃ h, h < 60 ∧ b = h + 1 ∧ ¬ (tg (q * 61 + (h + 1)) &&& av) = 0) : (∀ b, b < 64 → (bt6 (nv &&& (sv ^^^ (-1))) b = true ↔ levA tg q z (d + 1) b)) ∧ ∀ b, b < 64 → (bt6 (sv ||| (nv &&& (sv ^^^ (-1)))) b = true ↔ rchA tg q z (d + 1) b) := by
  have key : ∀ b, b < 64 → (bt6 (nv &&& (sv ^^^ (-1))) b = true ↔ levA tg q z (d + 1) b) := by
    intro b hb
    rw [levA_s, b6_and, b6_not hb, Bool.and_eq_true, hn b]
    constructor
    · rintro ⟨⟨h, h1, rfl, h3⟩, h4⟩
      refine ⟨⟨by omega, by omega, ?_⟩, fun r => ?_⟩
      · rw [b6_zero] at h3
        obtain ⟨j, hj⟩ := Classical.not_forall.mp h3
        obtain ⟨hj1, hj2⟩ := Classical.not_imp.mp hj
        rw [b6_and] at hj2
        have hj3 : (bt6 (tg (q * 61 + (h + 1))) j && bt6 av j) = true := by
          cases hz : (bt6 (tg (q * 61 + (h + 1))) j && bt6 av j)
          · exact absurd hz hj2
          · rfl
        rw [Bool.and_eq_true] at hj3
        exact ⟨j, hj1, hj3.1, (ha j hj1).mp hj3.2⟩
      · rw [(hs _ hb).mpr r] at h4
        exact absurd h4 (by decide)
    · rintro ⟨⟨h1, h2, j, hj, h3, h4⟩, h5⟩
      refine ⟨⟨b - 1, by omega, by omega, ?_⟩, ?_⟩
      · rw [show b - 1 + 1 = b by omega, b6_zero]
        intro h6
        have h7 := h6 j hj
        rw [b6_and, h3, (ha j hj).mpr h4] at h7
        exact absurd h7 (by decide)
      · cases hz : bt6 sv b
        · rfl
        · exact absurd ((hs b hb).mp hz) h5
  refine ⟨key, fun b hb => ?_⟩
  rw [b6_or, Bool.or_eq_true, hs b hb, key b hb]
  constructor
  · rintro (r | r)
    · exact Or.inl r
    · exact r.1
  · intro r
    by_cases h5 : rchA tg q z d b
    · exact Or.inl h5
    · exact Or.inr ⟨r, fun e he r2 => h5 (rchA_mono (by omega) r2)⟩
set_option maxRecDepth 100000 in
set_option maxHeartbeats 4000000 in
theorem c_Y_measure (l : Launch) (dC : Nat → ClassId) (dI : Nat → Nat → Nat) (a : Nat → Nat) (t : Nat → ClassId) (σ : SA) (sz : Nat) (q x z : Nat) (hq : q < 4) (hx9 : x ≤ 60) (hz : z ≤ 60) : Met l y_Y_measure (wS y_Y_measure b_Y_measure 8 (some .int)) (rD 3) (va_Pc [.ref (a 18), .ref (a 10), .int (nI q), .int (nI x), .int (nI z)] (MB (dC, dI) (yA t) (wA a t σ) sz)) (va_Qi (fun (r : Int32) (u : SA) => ∃ V : Nat → Int64, u = au_aw σ V ∧ ((∃ d, d < 60 ∧ r = nI d ∧ levA (a_tg σ) q z d x ∧ ∀ e, e ≤ d → ∀ b, b < 64 → (bt6 (V e) b = true ↔ levA (a_tg σ) q z e b)) ∨ (r = -1 ∧ ∀ d, d < 60 → ¬ levA (a_tg σ) q z d x))) (fun u => ME (dC, dI) (yA t) (va_A (wA a t σ) sz) (wA a t u)) (va_A (wA a t σ) sz)) 0 0 (va_A (wA a t σ) sz) := by
  refine x_enter (by decide) (Nat.le_of_ble_eq_true rfl) ?_
  intro p e s m below meth c ls hx hb hr hml hT hown hlk hnm hl hB
  obtain ⟨rfl, hP, hK, hN, hD0⟩ := hB
  have hD := hD0.self (sz := s.heap.size)
  generalize hAe : va_A (wA a t σ) s.heap.size = A at hD ⊢
  have hA : ∀ q : Nat, s.heap.size ≤ q → A q := fun q h => by rw [← hAe]; exact Or.inr h
  have hS : va_S A s.heap s.heap [] := va_S.rf
  have hP : va_P (dC, dI) classes (wA a t σ) s.heap := hP
  have hl : lv_has ls 8 [(0, .ref (a 18)), (1, .ref (a 10)), (2, .int (nI q)), (3, .int (nI x)), (4, .int (nI z))] := hl
  have hown : s.vm.findClass R_Y = some m.cls := hown
  refine lv_iload hx hb d_Y_measure_0 (lv_at hl 4 rfl) ?_
  refine x_cl (x_runSN ⟨hx, hb, hml, hown, hT⟩ hN (c_A_setOf l z (by omega)) f_A_setOf k_Y_31 blT (x_bT hN) hl.1 d_Y_measure_2 rfl (lv_room (Nat.le_of_ble_eq_true rfl)) ⟨Nat.le_of_ble_eq_true rfl, Nat.le_of_ble_eq_true rfl⟩ ⟨rfl, rfl⟩ ⟨Nat.le_refl 0, Nat.le_refl 0⟩ rfl) (fun r2 q2 => ?_)
  subst q2
  refine lv_lstore (lv' := [(5, .long (sg z)), (0, .ref (a 18)), (1, .ref (a 10)), (2, .int (nI q)), (3, .int (nI x)), (4, .int (nI z))]) hx hb d_Y_measure_5 hl (by decide) rfl (fun ls hl => ?_)
  refine lv_aload_n hx hb d_Y_measure_7 rfl (lv_at hl 1 rfl) ?_
  refine va_get (D := (dC, dI)) (C := R_Y) (T := F_Y) (N := 3) hx hb hT i_Y hown hK hP 18 rfl rfl 2 (by decide) (hT _ k_Y_19) (fun _ h9 => h9) (v := .ref (a 20)) rfl d_Y_measure_8 ?_
  refine lv_iconst (v := nI 0) hx hb d_Y_measure_11 (by decide) ?_
  refine lv_lload hx hb d_Y_measure_12 (lv_at hl 0 rfl) ?_
  refine x_last hx hb hK hP hD hS 20 13 (f := (a_aw σ)) rfl rfl d_Y_measure_14 (by omega) (fun H locs hP hD hS => ?_)
  have hP : va_P (dC, dI) classes (wA a t (au_aw σ (vp_updL (a_aw σ) (0) (sg z)))) H := hP
  have hD : va_D A (wA a t (au_aw σ (vp_updL (a_aw σ) (0) (sg z)))) := hD
  refine lv_iconst (v := nI 0) hx hb d_Y_measure_15 (by decide) ?_
  refine lv_istore (lv' := [(7, .int (nI 0)), (5, .long (sg z)), (0, .ref (a 18)), (1, .ref (a 10)), (2, .int (nI q)), (3, .int (nI x)), (4, .int (nI z))]) hx hb d_Y_measure_16 hl (by decide) rfl (fun ls hl => ?_)
  have hloop18 : ∀ (n18 : Nat) (d : Nat) (y : Int64) (V : Nat → Int64) (H : Heap) (locs : List Loc) (ls : Array Slot), d ≤ 60 → (∀ b, b < 64 → (bt6 y b = true ↔ rchA (a_tg σ) q z d b)) → (∀ e, e ≤ d → ∀ b, b < 64 → (bt6 (V e) b = true ↔ levA (a_tg σ) q z e b)) → (∀ e, e < d → ¬ levA (a_tg σ) q z e x) → 61 - d < n18 → va_P (dC, dI) classes (wA a t (au_aw σ (V))) H → va_D A (wA a t (au_aw σ (V))) → va_S A s.heap H locs → lv_has ls 8 [(0, .ref (a 18)), (1, .ref (a 10)), (2, .int (nI q)), (3, .int (nI x)), (4, .int (nI z)), (5, .long y), (7, .int (nI d))] → W p l e (rD 3) s m ([.ref (a 18), .ref (a 10), .int (nI q), .int (nI x), .int (nI z)] : List Value).toArray below meth c H locs 0 0 (MQ below (va_Qi (fun (r : Int32) (u : SA) => ∃ V : Nat → Int64, u = au_aw σ V ∧ ((∃ d, d < 60 ∧ r = nI d ∧ levA (a_tg σ) q z d x ∧ ∀ e, e ≤ d → ∀ b, b < 64 → (bt6 (V e) b = true ↔ levA (a_tg σ) q z e b)) ∨ (r = -1 ∧ ∀ d, d < 60 → ¬ levA (a_tg σ) q z d x))) (fun u => ME (dC, dI) (yA t) A (wA a t u)) A) ([.ref (a 18), .ref (a 10), .int (nI q), .int (nI x), .int (nI z)] : List Value).toArray s 0 0 A) (F0 m 18 ls []) := by
    intro n18
    induction n18 with
    | zero => intro d y V H locs ls _ _ _ _ h9; exact absurd h9 (Nat.not_lt_zero _)
    | succ n18 ih18 =>
      intro d y V H locs ls hd hy hW hno hmu18 hP hD hS hl
      refine lv_iload hx hb d_Y_measure_18 (lv_at hl 6 rfl) ?_
      refine lv_bipush (v := nI 60) hx hb d_Y_measure_20 (by decide) ?_
      refine x_icmp_ge (tgt := 102) hx hb d_Y_measure_22 (by decide) (fun c22 => ?_) (fun c22 => ?_)
      · refine lv_iconst (v := -1) hx hb d_Y_measure_102 (by decide) ?_
        exact x_mi (wl := wA a t) (au_aw σ (V)) hx hb hr hlk hK hP hD hS d_Y_measure_103 ⟨V, rfl, Or.inr ⟨rfl, fun e he r9 => by first | exact hno e (by omega) r9 | (rcases Nat.lt_or_ge e d with h8 | h8; exact hno e h8 r9; exact levA_none h8 (fun b hb9 r8 => by have h7 := (hW d (Nat.le_refl d) b hb9).mpr r8; rw [c33, b6_0] at h7; exact absurd h7 (by decide)) x (by omega) r9)⟩⟩
      · refine lv_aload_n hx hb d_Y_measure_25 rfl (lv_at hl 0 rfl) ?_
        refine va_get (D := (dC, dI)) (C := R_Y) (T := F_Y) (N := 3) hx hb hT i_Y hown hK hP 18 rfl rfl 2 (by decide) (hT _ k_Y_19) (fun _ h9 => h9) (v := .ref (a 20)) rfl d_Y_measure_26 ?_
        refine lv_iload hx hb d_Y_measure_29 (lv_at hl 6 rfl) ?_
        refine x_lald hx hb hK hP 20 13 (f := V) rfl rfl d_Y_measure_31 (by omega) ?_
        refine lv_lconst (v := 0) hx hb d_Y_measure_32 (by decide) ?_
        refine x_lif_eq (tgt := 102) hx hb d_Y_measure_33 d_Y_measure_34 (by decide) (fun c33 => ?_) (fun c33 => ?_)
        · refine lv_iconst (v := -1) hx hb d_Y_measure_102 (by decide) ?_
          exact x_mi (wl := wA a t) (au_aw σ (V)) hx hb hr hlk hK hP hD hS d_Y_measure_103 ⟨V, rfl, Or.inr ⟨rfl, fun e he r9 => by first | exact hno e (by omega) r9 | (rcases Nat.lt_or_ge e d with h8 | h8; exact hno e h8 r9; exact levA_none h8 (fun b hb9 r8 => by have h7 := (hW d (Nat.le_refl d) b hb9).mpr r8; rw [c33, b6_0] at h7; exact absurd h7 (by decide)) x (by omega) r9)⟩⟩
        · refine lv_aload_n hx hb d_Y_measure_37 rfl (lv_at hl 0 rfl) ?_
          refine va_get (D := (dC, dI)) (C := R_Y) (T := F_Y) (N := 3) hx hb hT i_Y hown hK hP 18 rfl rfl 2 (by decide) (hT _ k_Y_19) (fun _ h9 => h9) (v := .ref (a 20)) rfl d_Y_measure_38 ?_
          refine lv_iload hx hb d_Y_measure_41 (lv_at hl 6 rfl) ?_
          refine x_lald hx hb hK hP 20 13 (f := V) rfl rfl d_Y_measure_43 (by omega) ?_
          refine lv_iload_n hx hb d_Y_measure_44 rfl (lv_at hl 3 rfl) ?_
          refine x_ci (x_runSN ⟨hx, hb, hml, hown, hT⟩ hN (c_A_holds l (V d) x (by omega)) f_A_holds k_Y_35 blT (x_bT hN) hl.1 d_Y_measure_45 rfl (lv_room (Nat.le_of_ble_eq_true rfl)) ⟨Nat.le_of_ble_eq_true rfl, Nat.le_of_ble_eq_true rfl⟩ ⟨rfl, rfl⟩ ⟨Nat.le_refl 0, Nat.le_refl 0⟩ rfl) (fun r45 q45 => ?_)
          rcases q45 with ⟨rfl, hq9⟩ | ⟨rfl, hq9⟩
          · refine x_if_eq (tgt := 54) hx hb d_Y_measure_48 (by decide) (fun h => absurd h (by decide)) (fun _ => ?_)
            refine lv_iload hx hb d_Y_measure_51 (lv_at hl 6 rfl) ?_
            exact x_mi (wl := wA a t) (au_aw σ (V)) hx hb hr hlk hK hP hD hS d_Y_measure_53 ⟨V, rfl, Or.inl ⟨d, by omega, rfl, (hW d (Nat.le_refl d) x (by omega)).mp hq9, hW⟩⟩
          · refine x_if_eq (tgt := 54) hx hb d_Y_measure_48 (by decide) (fun _ => ?_) (fun h => absurd h (by decide))
            refine lv_aload_n hx hb d_Y_measure_54 rfl (lv_at hl 0 rfl) ?_
            refine va_get (D := (dC, dI)) (C := R_Y) (T := F_Y) (N := 3) hx hb hT i_Y hown hK hP 18 rfl rfl 2 (by decide) (hT _ k_Y_19) (fun _ h9 => h9) (v := .ref (a 20)) rfl d_Y_measure_55 ?_
            refine lv_iload hx hb d_Y_measure_58 (lv_at hl 6 rfl) ?_
            refine lv_iconst (v := nI 1) hx hb d_Y_measure_60 (by decide) ?_
            refine x_iadd hx hb d_Y_measure_61 ?_
            refine lv_aload_n hx hb d_Y_measure_62 rfl (lv_at hl 1 rfl) ?_
            refine lv_iload_n hx hb d_Y_measure_63 rfl (lv_at hl 2 rfl) ?_
            refine lv_aload_n hx hb d_Y_measure_64 rfl (lv_at hl 0 rfl) ?_
            refine va_get (D := (dC, dI)) (C := R_Y) (T := F_Y) (N := 3) hx hb hT i_Y hown hK hP 18 rfl rfl 2 (by decide) (hT _ k_Y_19) (fun _ h9 => h9) (v := .ref (a 20)) rfl d_Y_measure_65 ?_
            refine lv_iload hx hb d_Y_measure_68 (lv_at hl 6 rfl) ?_
            refine x_lald hx hb hK hP 20 13 (f := V) rfl rfl d_Y_measure_70 (by omega) ?_
            refine x_cl (x_runV ⟨hx, hb, hml, hown, hT⟩ (c_K_sourcesOf l dC dI a t (au_aw σ V) q (V d) hq) f_K_sourcesOf k_Y_39 blR (va_recv hK hP (ci := 3) (q0 := 10) rfl rfl) (x_bR hK hP hN) hl.1 d_Y_measure_71 rfl (lv_room (Nat.le_of_ble_eq_true rfl)) ⟨Nat.le_of_ble_eq_true rfl, Nat.le_of_ble_eq_true rfl⟩ ⟨rfl, rfl⟩ ⟨Nat.le_refl 0, Nat.le_refl 0⟩ rfl) (fun nv q71 => ?_)
            have hst := lay_step (tg := a_tg σ) (q := q) (z := z) (hW d (Nat.le_refl d)) hy q71
            have hnx : ¬ levA (a_tg σ) q z d x := fun r9 => hq9 ((hW d (Nat.le_refl d) x (by omega)).mpr r9)
            refine lv_lload hx hb d_Y_measure_74 (lv_at hl 5 rfl) ?_
            refine lv_ldc2 (v := -1) hx hb hown (hT _ k_Y_45) d_Y_measure_76 ?_
            refine lv_lxor hx hb d_Y_measure_79 ?_
            refine lv_land hx hb d_Y_measure_80 ?_
            refine x_last hx hb hK hP hD hS 20 13 (f := V) rfl rfl d_Y_measure_81 (by omega) (fun H locs hP hD hS => ?_)
            have hP : va_P (dC, dI) classes (wA a t (au_aw σ (vp_updL V (d + 1) (nv &&& (y ^^^ ((-1))))))) H := hP
            have hD : va_D A (wA a t (au_aw σ (vp_updL V (d + 1) (nv &&& (y ^^^ ((-1))))))) := hD
            refine lv_lload hx hb d_Y_measure_82 (lv_at hl 5 rfl) ?_
            refine lv_aload_n hx hb d_Y_measure_84 rfl (lv_at hl 0 rfl) ?_
            refine va_get (D := (dC, dI)) (C := R_Y) (T := F_Y) (N := 3) hx hb hT i_Y hown hK hP 18 rfl rfl 2 (by decide) (hT _ k_Y_19) (fun _ h9 => h9) (v := .ref (a 20)) rfl d_Y_measure_85 ?_
            refine lv_iload hx hb d_Y_measure_88 (lv_at hl 6 rfl) ?_
            refine lv_iconst (v := nI 1) hx hb d_Y_measure_90 (by decide) ?_
            refine x_iadd hx hb d_Y_measure_91 ?_
            refine x_lald hx hb hK hP 20 13 (f := (vp_updL V (d + 1) (nv &&& (y ^^^ ((-1)))))) rfl rfl d_Y_measure_92 (by omega) ?_
            refine lv_lor hx hb d_Y_measure_93 ?_
            refine lv_lstore (lv' := [(5, .long (y ||| ((vp_updL V (d + 1) (nv &&& (y ^^^ ((-1))))) (d + 1)))), (0, .ref (a 18)), (1, .ref (a 10)), (2, .int (nI q)), (3, .int (nI x)), (4, .int (nI z)), (7, .int (nI d))]) hx hb d_Y_measure_94 hl (by decide) rfl (fun ls hl => ?_)
            refine x_iinc (lv' := [(7, .int (nI (d + 1))), (5, .long (y ||| ((vp_updL V (d + 1) (nv &&& (y ^^^ ((-1))))) (d + 1)))), (0, .ref (a 18)), (1, .ref (a 10)), (2, .int (nI q)), (3, .int (nI x)), (4, .int (nI z))]) hx hb d_Y_measure_96 hl (k := 6) rfl (by decide) rfl (fun ls hl => ?_)
            refine lv_goto (tgt := 18) hx hb d_Y_measure_99 (by decide) ?_
            exact ih18 (d + 1) _ _ H locs ls (by omega) (by rw [updL_s]; exact hst.2) (fun e he b hb9 => by rcases Nat.lt_or_ge e (d + 1) with h8 | h8; rw [updL_n (by omega)]; exact hW e (by omega) b hb9; rw [show e = d + 1 by omega, updL_s]; exact hst.1 b hb9) (fun e he => by rcases Nat.lt_succ_iff_lt_or_eq.mp he with h8 | h8; exact hno e h8; rw [h8]; exact hnx) (by omega) hP hD hS (lv_sub hl [2, 3, 4, 5, 6, 1, 0] rfl)
  exact hloop18 _ 0 (sg z) _ _ _ ls (by omega) (fun b hb9 => by rw [b6_sg (by omega), decide_eq_true_eq]; exact Iff.rfl) (fun e he b hb9 => by rw [show e = 0 by omega, updL_s, b6_sg (by omega), decide_eq_true_eq, levA_0]) (fun e he => absurd he (Nat.not_lt_zero _)) (Nat.lt_succ_self _) hP hD hS (lv_sub hl [2, 3, 4, 5, 6, 1, 0] rfl)

