set_option maxRecDepth 100000 in
set_option maxHeartbeats 4000000 in
theorem c_A_setOf (l : Launch) (h : Nat) (hh : h < 64) : Met l y_A_setOf (wS y_A_setOf b_A_setOf 1 (some .long)) (rD 0) (va_Pc [.int (nI h)] (fun U => NWs U)) (vp_Sl (fun r => r = sg h)) 0 0 (fun _ => False) := by
  refine x_enter (by decide) (Nat.le_of_ble_eq_true rfl) ?_
  intro p e s m below meth c ls hx hb hr hml hT hown hlk hnm hl hB
  have hN : NWs s := hB
  have hl : lv_has ls 1 [(0, .int (nI h))] := hl
  have hown : s.vm.findClass R_A = some m.cls := hown
  refine lv_lconst (v := 1) hx hb d_A_setOf_0 (by decide) ?_
  refine lv_iload_n hx hb d_A_setOf_1 rfl (lv_at hl 0 rfl) ?_
  refine lv_lshl (v := sg h) hx hb d_A_setOf_2 (sg_shl (by omega)) ?_
  exact x_rl hx hb hr hlk d_A_setOf_3 rfl

set_option maxRecDepth 100000 in
set_option maxHeartbeats 4000000 in
theorem c_A_holds (l : Launch) (x : Int64) (h : Nat) (hh : h < 64) : Met l y_A_holds (wS y_A_holds b_A_holds 3 (some .boolean)) (rD 1) (va_Pc [.long x, .int (nI h)] (fun U => NWs U)) (vp_Si (fun r => BR r (bt6 x h = true))) 0 0 (fun _ => False) := by
  refine x_enter (by decide) (Nat.le_of_ble_eq_true rfl) ?_
  intro p e s m below meth c ls hx hb hr hml hT hown hlk hnm hl hB
  have hN : NWs s := hB
  have hl : lv_has ls 3 [(0, .long x), (2, .int (nI h))] := hl
  have hown : s.vm.findClass R_A = some m.cls := hown
  refine lv_lload_n hx hb d_A_holds_0 rfl (lv_at hl 0 rfl) ?_
  refine lv_iload_n hx hb d_A_holds_1 rfl (lv_at hl 1 rfl) ?_
  refine x_cl (x_runS ⟨hx, hb, hml, hown, hT⟩ (c_A_setOf l h hh) f_A_setOf k_A_104 blT (x_bT hN) hl.1 d_A_holds_2 rfl (lv_room (Nat.le_of_ble_eq_true rfl)) ⟨Nat.le_of_ble_eq_true rfl, Nat.le_of_ble_eq_true rfl⟩ ⟨rfl, rfl⟩ ⟨Nat.le_refl 0, Nat.le_refl 0⟩ rfl) (fun r2 q2 => ?_)
  subst q2
  refine lv_land hx hb d_A_holds_5 ?_
  refine lv_lconst (v := 0) hx hb d_A_holds_6 (by decide) ?_
  refine x_lif_eq (tgt := 15) hx hb d_A_holds_7 d_A_holds_8 (by decide) (fun c7 => ?_) (fun c7 => ?_)
  · refine lv_iconst (v := nI 0) hx hb d_A_holds_15 (by decide) ?_
    exact x_rz hx hb hr hlk d_A_holds_16 rfl (Or.inr ⟨rfl, by rw [(b6_hold hh).mp c7]; decide⟩)
  · refine lv_iconst (v := nI 1) hx hb d_A_holds_11 (by decide) ?_
    refine lv_goto (tgt := 16) hx hb d_A_holds_12 (by decide) ?_
    exact x_rz hx hb hr hlk d_A_holds_16 rfl (Or.inl ⟨rfl, by cases hq : bt6 x h; exact absurd ((b6_hold hh).mpr hq) c7; rfl⟩)

/-- how many of 1 .. n -/
def cntP (P : Nat → Bool) : Nat → Nat
  | 0 => 0
  | n + 1 => cntP P n + if P (n + 1) = true then 1 else 0
theorem cntP_s1 {P : Nat → Bool} {n : Nat} (h : P (n + 1) = true) : cntP P (n + 1) = cntP P n + 1 := by simp [cntP, h]
theorem cntP_s0 {P : Nat → Bool} {n : Nat} (h : ¬ P (n + 1) = true) : cntP P (n + 1) = cntP P n := by simp [cntP, h]
/-- the i-th of 1 .. n with P, from 0 on; 0 if there is none such -/
def NTH (P : Nat → Bool) (n i : Nat) (r : Int32) : Prop := (∃ h, h < n ∧ P (h + 1) = true ∧ cntP P h = i ∧ r = nI (h + 1)) ∨ (cntP P n ≤ i ∧ r = nI 0)
set_option maxRecDepth 100000 in
set_option maxHeartbeats 4000000 in
theorem c_A_nthOf (l : Launch) (x : Int64) (i : Nat) (hi : i < 2 ^ 31) : Met l y_A_nthOf (wS y_A_nthOf b_A_nthOf 5 (some .int)) (rD 2) (va_Pc [.long x, .int (nI i)] (fun U => NWs U)) (vp_Si (fun r => NTH (bt6 x) 60 i r)) 0 0 (fun _ => False) := by
  refine x_enter (by decide) (Nat.le_of_ble_eq_true rfl) ?_
  intro p e s m below meth c ls hx hb hr hml hT hown hlk hnm hl hB
  have hN : NWs s := hB
  have hl : lv_has ls 5 [(0, .long x), (2, .int (nI i))] := hl
  have hown : s.vm.findClass R_A = some m.cls := hown
  refine lv_iload_n hx hb d_A_nthOf_0 rfl (lv_at hl 1 rfl) ?_
  refine lv_istore_n (lv' := [(3, .int (nI i)), (0, .long x), (2, .int (nI i))]) hx hb d_A_nthOf_1 rfl hl (by decide) rfl (fun ls hl => ?_)
  refine lv_iconst (v := nI 1) hx hb d_A_nthOf_2 (by decide) ?_
  refine lv_istore (lv' := [(4, .int (nI 1)), (3, .int (nI i)), (0, .long x), (2, .int (nI i))]) hx hb d_A_nthOf_3 hl (by decide) rfl (fun ls hl => ?_)
  have hloop5 : ∀ (n5 : Nat) (k : Nat) (f : Nat) (ls : Array Slot), k ≤ 60 → f + cntP (bt6 x) k = i → 61 - k < n5 → lv_has ls 5 [(0, .long x), (2, .int (nI i)), (3, .int (nI f)), (4, .int (nI (k + 1)))] → W p l e (rD 2) s m ([.long x, .int (nI i)] : List Value).toArray below meth c s.heap [] 0 0 (MQ below (vp_Si (fun r => NTH (bt6 x) 60 i r)) ([.long x, .int (nI i)] : List Value).toArray s 0 0 (fun _ => False)) (F0 m 5 ls []) := by
    intro n5
    induction n5 with
    | zero => intro k f ls _ _ h9; exact absurd h9 (Nat.not_lt_zero _)
    | succ n5 ih5 =>
      intro k f ls hk hf hmu5 hl
      refine lv_iload hx hb d_A_nthOf_5 (lv_at hl 3 rfl) ?_
      refine lv_bipush (v := nI 60) hx hb d_A_nthOf_7 (by decide) ?_
      refine x_icmp_gt (tgt := 37) hx hb d_A_nthOf_9 (by decide) (fun c9 => ?_) (fun c9 => ?_)
      · refine lv_iconst (v := nI 0) hx hb d_A_nthOf_37 (by decide) ?_
        exact x_ri hx hb hr hlk d_A_nthOf_38 (Or.inr ⟨by rw [show 60 = k by omega]; omega, rfl⟩)
      · refine lv_lload_n hx hb d_A_nthOf_12 rfl (lv_at hl 0 rfl) ?_
        refine lv_iload hx hb d_A_nthOf_13 (lv_at hl 3 rfl) ?_
        refine x_ci (x_runS ⟨hx, hb, hml, hown, hT⟩ (c_A_holds l x (k + 1) (by omega)) f_A_holds k_A_169 blT (x_bT hN) hl.1 d_A_nthOf_15 rfl (lv_room (Nat.le_of_ble_eq_true rfl)) ⟨Nat.le_of_ble_eq_true rfl, Nat.le_of_ble_eq_true rfl⟩ ⟨rfl, rfl⟩ ⟨Nat.le_refl 0, Nat.le_refl 0⟩ rfl) (fun r15 q15 => ?_)
        rcases q15 with ⟨rfl, hq⟩ | ⟨rfl, hq⟩
        · refine x_if_eq (tgt := 31) hx hb d_A_nthOf_18 (by decide) (fun h => absurd h (by decide)) (fun _ => ?_)
          refine lv_iload_n hx hb d_A_nthOf_21 rfl (lv_at hl 2 rfl) ?_
          refine x_if_ne (tgt := 28) hx hb d_A_nthOf_22 (by decide) (fun c22 => ?_) (fun c22 => ?_)
          · obtain ⟨f', rfl⟩ : ∃ f', f = f' + 1 := ⟨f - 1, by omega⟩
            refine x_idec (lv' := [(3, .int (nI f')), (0, .long x), (2, .int (nI i)), (4, .int (nI (k + 1)))]) hx hb d_A_nthOf_28 hl (k := 2) rfl (by decide) rfl (fun ls hl => ?_)
            refine x_iinc (lv' := [(4, .int (nI ((k + 1) + 1))), (3, .int (nI f')), (0, .long x), (2, .int (nI i))]) hx hb d_A_nthOf_31 hl (k := 3) rfl (by decide) rfl (fun ls hl => ?_)
            refine lv_goto (tgt := 5) hx hb d_A_nthOf_34 (by decide) ?_
            exact ih5 (k + 1) _ ls (by omega) (by first | (rw [cntP_s0 hq]; omega) | (rw [cntP_s1 hq]; omega)) (by omega) (lv_sub hl [2, 3, 1, 0] rfl)
          · refine lv_iload hx hb d_A_nthOf_25 (lv_at hl 3 rfl) ?_
            exact x_ri hx hb hr hlk d_A_nthOf_27 (Or.inl ⟨k, by omega, hq, by omega, rfl⟩)
        · refine x_if_eq (tgt := 31) hx hb d_A_nthOf_18 (by decide) (fun _ => ?_) (fun h => absurd h (by decide))
          refine x_iinc (lv' := [(4, .int (nI ((k + 1) + 1))), (0, .long x), (2, .int (nI i)), (3, .int (nI f))]) hx hb d_A_nthOf_31 hl (k := 3) rfl (by decide) rfl (fun ls hl => ?_)
          refine lv_goto (tgt := 5) hx hb d_A_nthOf_34 (by decide) ?_
          exact ih5 (k + 1) _ ls (by omega) (by first | (rw [cntP_s0 hq]; omega) | (rw [cntP_s1 hq]; omega)) (by omega) (lv_sub hl [1, 2, 3, 0] rfl)
  exact hloop5 _ 0 i ls (by omega) rfl (Nat.lt_succ_self _) (lv_sub hl [2, 3, 1, 0] rfl)

set_option maxRecDepth 100000 in
set_option maxHeartbeats 4000000 in
theorem c_K_isPlace (l : Launch) (q h : Nat) (hq : q < 4) (hh : h ≤ 60) : Met l y_K_isPlace (wS y_K_isPlace b_K_isPlace 2 (some .boolean)) (rD 0) (va_Pc [.int (nI q), .int (nI h)] (fun U => NWs U)) (vp_Si (fun r => BR r (1 ≤ h))) 0 0 (fun _ => False) := by
  refine x_enter (by decide) (Nat.le_of_ble_eq_true rfl) ?_
  intro p e s m below meth c ls hx hb hr hml hT hown hlk hnm hl hB
  have hN : NWs s := hB
  have hl : lv_has ls 2 [(0, .int (nI q)), (1, .int (nI h))] := hl
  have hown : s.vm.findClass R_K = some m.cls := hown
  refine lv_iload_n hx hb d_K_isPlace_0 rfl (lv_at hl 0 rfl) ?_
  refine x_if_lt (tgt := 24) hx hb d_K_isPlace_1 (by decide) ?_
  refine lv_iload_n hx hb d_K_isPlace_4 rfl (lv_at hl 0 rfl) ?_
  refine lv_iconst (v := nI 4) hx hb d_K_isPlace_5 (by decide) ?_
  refine x_icmp_ge (tgt := 24) hx hb d_K_isPlace_6 (by decide) (fun c6 => ?_) (fun c6 => ?_)
  · refine lv_iconst (v := nI 0) hx hb d_K_isPlace_24 (by decide) ?_
    exact x_rz hx hb hr hlk d_K_isPlace_25 rfl (by first | exact Or.inr ⟨rfl, by omega⟩ | (exfalso; omega))
  · refine lv_iload_n hx hb d_K_isPlace_9 rfl (lv_at hl 1 rfl) ?_
    refine lv_iconst (v := nI 1) hx hb d_K_isPlace_10 (by decide) ?_
    refine x_icmp_lt (tgt := 24) hx hb d_K_isPlace_11 (by decide) (fun c11 => ?_) (fun c11 => ?_)
    · refine lv_iconst (v := nI 0) hx hb d_K_isPlace_24 (by decide) ?_
      exact x_rz hx hb hr hlk d_K_isPlace_25 rfl (by first | exact Or.inr ⟨rfl, by omega⟩ | (exfalso; omega))
    · refine lv_iload_n hx hb d_K_isPlace_14 rfl (lv_at hl 1 rfl) ?_
      refine lv_bipush (v := nI 60) hx hb d_K_isPlace_15 (by decide) ?_
      refine x_icmp_gt (tgt := 24) hx hb d_K_isPlace_17 (by decide) (fun c17 => ?_) (fun c17 => ?_)
      · refine lv_iconst (v := nI 0) hx hb d_K_isPlace_24 (by decide) ?_
        exact x_rz hx hb hr hlk d_K_isPlace_25 rfl (by first | exact Or.inr ⟨rfl, by omega⟩ | (exfalso; omega))
      · refine lv_iconst (v := nI 1) hx hb d_K_isPlace_20 (by decide) ?_
        refine lv_goto (tgt := 25) hx hb d_K_isPlace_21 (by decide) ?_
        exact x_rz hx hb hr hlk d_K_isPlace_25 rfl (by first | exact Or.inl ⟨rfl, by omega⟩ | (exfalso; omega))

set_option maxRecDepth 100000 in
set_option maxHeartbeats 4000000 in
theorem c_K_targetsOf (l : Launch) (dC : Nat → ClassId) (dI : Nat → Nat → Nat) (a : Nat → Nat) (t : Nat → ClassId) (σ : SA) (q h : Nat) (hq : q < 4) (hh : h ≤ 60) (h1 : 1 ≤ h) : Met l y_K_targetsOf (wS y_K_targetsOf b_K_targetsOf 3 (some .long)) (rD 1) (va_Pc [.ref (a 10), .int (nI q), .int (nI h)] (RB (dC, dI) (yA t) (wA a t σ))) (vp_Sl (fun r => r = a_tg σ (q * 61 + h))) 0 0 (fun _ => False) := by
  refine x_enter (by decide) (Nat.le_of_ble_eq_true rfl) ?_
  intro p e s m below meth c ls hx hb hr hml hT hown hlk hnm hl hB
  obtain ⟨hP, hK, hN⟩ := hB
  have hl : lv_has ls 3 [(0, .ref (a 10)), (1, .int (nI q)), (2, .int (nI h))] := hl
  have hown : s.vm.findClass R_K = some m.cls := hown
  refine lv_iload_n hx hb d_K_targetsOf_0 rfl (lv_at hl 1 rfl) ?_
  refine lv_iload_n hx hb d_K_targetsOf_1 rfl (lv_at hl 2 rfl) ?_
  refine x_ci (x_runS ⟨hx, hb, hml, hown, hT⟩ (c_K_isPlace l q h (by omega) (by omega)) f_K_isPlace k_K_37 blT (x_bT hN) hl.1 d_K_targetsOf_2 rfl (lv_room (Nat.le_of_ble_eq_true rfl)) ⟨Nat.le_of_ble_eq_true rfl, Nat.le_of_ble_eq_true rfl⟩ ⟨rfl, rfl⟩ ⟨Nat.le_refl 0, Nat.le_refl 0⟩ rfl) (fun r2 q2 => ?_)
  obtain rfl : r2 = nI 1 := by rcases q2 with ⟨h9, _⟩ | ⟨_, h9⟩; exact h9; exact absurd (show 1 ≤ h by omega) h9
  refine x_if_eq (tgt := 22) hx hb d_K_targetsOf_5 (by decide) (fun h => absurd h (by decide)) (fun _ => ?_)
  refine lv_aload_n hx hb d_K_targetsOf_8 rfl (lv_at hl 0 rfl) ?_
  refine va_get (D := (dC, dI)) (C := R_K) (T := F_K) (N := 5) hx hb hT i_K hown hK hP 10 rfl rfl 0 (by decide) (hT _ k_K_9) (fun _ h9 => h9) (v := .ref (a 11)) rfl d_K_targetsOf_9 ?_
  refine lv_iload_n hx hb d_K_targetsOf_12 rfl (lv_at hl 1 rfl) ?_
  refine lv_bipush (v := nI 61) hx hb d_K_targetsOf_13 (by decide) ?_
  refine x_imul hx hb d_K_targetsOf_15 ?_
  refine lv_iload_n hx hb d_K_targetsOf_16 rfl (lv_at hl 2 rfl) ?_
  refine x_iadd hx hb d_K_targetsOf_17 ?_
  refine x_lald hx hb hK hP 11 6 (f := (a_tg σ)) rfl rfl d_K_targetsOf_18 (by omega) ?_
  refine lv_goto (tgt := 23) hx hb d_K_targetsOf_19 (by decide) ?_
  exact x_rl hx hb hr hlk d_K_targetsOf_23 rfl

def tgo (tg : Nat → Int64) (q h : Nat) : Int64 := if h = 0 then 0 else tg (q * 61 + h)
set_option maxRecDepth 100000 in
set_option maxHeartbeats 4000000 in
theorem c_K_targetsOf0 (l : Launch) (dC : Nat → ClassId) (dI : Nat → Nat → Nat) (a : Nat → Nat) (t : Nat → ClassId) (σ : SA) (q h : Nat) (hq : q < 4) (hh : h ≤ 60) : Met l y_K_targetsOf (wS y_K_targetsOf b_K_targetsOf 3 (some .long)) (rD 1) (va_Pc [.ref (a 10), .int (nI q), .int (nI h)] (RB (dC, dI) (yA t) (wA a t σ))) (vp_Sl (fun r => r = tgo (a_tg σ) q h)) 0 0 (fun _ => False) := by
  refine x_enter (by decide) (Nat.le_of_ble_eq_true rfl) ?_
  intro p e s m below meth c ls hx hb hr hml hT hown hlk hnm hl hB
  obtain ⟨hP, hK, hN⟩ := hB
  have hl : lv_has ls 3 [(0, .ref (a 10)), (1, .int (nI q)), (2, .int (nI h))] := hl
  have hown : s.vm.findClass R_K = some m.cls := hown
  refine lv_iload_n hx hb d_K_targetsOf_0 rfl (lv_at hl 1 rfl) ?_
  refine lv_iload_n hx hb d_K_targetsOf_1 rfl (lv_at hl 2 rfl) ?_
  refine x_ci (x_runS ⟨hx, hb, hml, hown, hT⟩ (c_K_isPlace l q h (by omega) (by omega)) f_K_isPlace k_K_37 blT (x_bT hN) hl.1 d_K_targetsOf_2 rfl (lv_room (Nat.le_of_ble_eq_true rfl)) ⟨Nat.le_of_ble_eq_true rfl, Nat.le_of_ble_eq_true rfl⟩ ⟨rfl, rfl⟩ ⟨Nat.le_refl 0, Nat.le_refl 0⟩ rfl) (fun r2 q2 => ?_)
  rcases q2 with ⟨rfl, hq⟩ | ⟨rfl, hq⟩
  · refine x_if_eq (tgt := 22) hx hb d_K_targetsOf_5 (by decide) (fun h => absurd h (by decide)) (fun _ => ?_)
    refine lv_aload_n hx hb d_K_targetsOf_8 rfl (lv_at hl 0 rfl) ?_
    refine va_get (D := (dC, dI)) (C := R_K) (T := F_K) (N := 5) hx hb hT i_K hown hK hP 10 rfl rfl 0 (by decide) (hT _ k_K_9) (fun _ h9 => h9) (v := .ref (a 11)) rfl d_K_targetsOf_9 ?_
    refine lv_iload_n hx hb d_K_targetsOf_12 rfl (lv_at hl 1 rfl) ?_
    refine lv_bipush (v := nI 61) hx hb d_K_targetsOf_13 (by decide) ?_
    refine x_imul hx hb d_K_targetsOf_15 ?_
    refine lv_iload_n hx hb d_K_targetsOf_16 rfl (lv_at hl 2 rfl) ?_
    refine x_iadd hx hb d_K_targetsOf_17 ?_
    refine x_lald hx hb hK hP 11 6 (f := (a_tg σ)) rfl rfl d_K_targetsOf_18 (by omega) ?_
    refine lv_goto (tgt := 23) hx hb d_K_targetsOf_19 (by decide) ?_
    exact x_rl hx hb hr hlk d_K_targetsOf_23 (by unfold tgo; rw [if_neg (by omega)])
  · refine x_if_eq (tgt := 22) hx hb d_K_targetsOf_5 (by decide) (fun _ => ?_) (fun h => absurd h (by decide))
    refine lv_lconst (v := 0) hx hb d_K_targetsOf_22 (by decide) ?_
    exact x_rl hx hb hr hlk d_K_targetsOf_23 (by unfold tgo; rw [if_pos (by omega)])

set_option maxRecDepth 100000 in
set_option maxHeartbeats 4000000 in
theorem c_K_has (l : Launch) (dC : Nat → ClassId) (dI : Nat → Nat → Nat) (a : Nat → Nat) (t : Nat → ClassId) (σ : SA) (q h k : Nat) (hq : q < 4) (hh : h ≤ 60) (hk : k ≤ 60) (h1 : 1 ≤ h) : Met l y_K_has (wS y_K_has b_K_has 4 (some .boolean)) (rD 2) (va_Pc [.ref (a 10), .int (nI q), .int (nI h), .int (nI k)] (RB (dC, dI) (yA t) (wA a t σ))) (vp_Si (fun r => BR r (bt6 (a_tg σ (q * 61 + h)) k = true))) 0 0 (fun _ => False) := by
  refine x_enter (by decide) (Nat.le_of_ble_eq_true rfl) ?_
  intro p e s m below meth c ls hx hb hr hml hT hown hlk hnm hl hB
  obtain ⟨hP, hK, hN⟩ := hB
  have hl : lv_has ls 4 [(0, .ref (a 10)), (1, .int (nI q)), (2, .int (nI h)), (3, .int (nI k))] := hl
  have hown : s.vm.findClass R_K = some m.cls := hown
  refine lv_aload_n hx hb d_K_has_0 rfl (lv_at hl 0 rfl) ?_
  refine lv_iload_n hx hb d_K_has_1 rfl (lv_at hl 1 rfl) ?_
  refine lv_iload_n hx hb d_K_has_2 rfl (lv_at hl 2 rfl) ?_
  refine x_cl (x_runV ⟨hx, hb, hml, hown, hT⟩ (c_K_targetsOf l dC dI a t σ q h (by omega) (by omega) (by omega)) f_K_targetsOf k_K_29 blR (va_recv hK hP (ci := 3) (q0 := 10) rfl rfl) (x_bR hK hP hN) hl.1 d_K_has_3 rfl (lv_room (Nat.le_of_ble_eq_true rfl)) ⟨Nat.le_of_ble_eq_true rfl, Nat.le_of_ble_eq_true rfl⟩ ⟨rfl, rfl⟩ ⟨Nat.le_refl 0, Nat.le_refl 0⟩ rfl) (fun r3 q3 => ?_)
  subst q3
  refine lv_iload_n hx hb d_K_has_6 rfl (lv_at hl 3 rfl) ?_
  refine x_ci (x_runSN ⟨hx, hb, hml, hown, hT⟩ hN (c_A_holds l (a_tg σ (q * 61 + h)) k (by omega)) f_A_holds k_K_33 blT (x_bT hN) hl.1 d_K_has_7 rfl (lv_room (Nat.le_of_ble_eq_true rfl)) ⟨Nat.le_of_ble_eq_true rfl, Nat.le_of_ble_eq_true rfl⟩ ⟨rfl, rfl⟩ ⟨Nat.le_refl 0, Nat.le_refl 0⟩ rfl) (fun r7 q7 => ?_)
  rcases q7 with ⟨rfl, hq9⟩ | ⟨rfl, hq9⟩
  · exact x_rz hx hb hr hlk d_K_has_10 rfl (Or.inl ⟨rfl, hq9⟩)
  · exact x_rz hx hb hr hlk d_K_has_10 rfl (Or.inr ⟨rfl, hq9⟩)

theorem ex_s {k : Nat} {P : Nat → Nat → Prop} {y y' : Nat → Prop} (hy : ∀ b, y b ↔ ∃ h, h < k ∧ P h b) (h : ∀ b, y' b ↔ (y b ∨ P k b)) : ∀ b, y' b ↔ ∃ h, h < k + 1 ∧ P h b := fun b => by
  rw [h b, hy b]
  constructor
  · rintro (⟨i, h1, h2⟩ | h2)
    · exact ⟨i, by omega, h2⟩
    · exact ⟨k, by omega, h2⟩
  · rintro ⟨i, h1, h2⟩
    rcases Nat.lt_succ_iff_lt_or_eq.mp h1 with h3 | h3
    · exact Or.inl ⟨i, h3, h2⟩
    · rw [h3] at h2; exact Or.inr h2
set_option maxRecDepth 100000 in
set_option maxHeartbeats 4000000 in
theorem c_K_targetsOfAll (l : Launch) (dC : Nat → ClassId) (dI : Nat → Nat → Nat) (a : Nat → Nat) (t : Nat → ClassId) (σ : SA) (q : Nat) (x : Int64) (hq : q < 4) : Met l y_K_targetsOfAll (wS y_K_targetsOfAll b_K_targetsOfAll 7 (some .long)) (rD 2) (va_Pc [.ref (a 10), .int (nI q), .long x] (RB (dC, dI) (yA t) (wA a t σ))) (vp_Sl (fun r => ∀ b, bt6 r b = true ↔ ∃ h, h < 60 ∧ bt6 x (h + 1) = true ∧ bt6 (a_tg σ (q * 61 + (h + 1))) b = true)) 0 0 (fun _ => False) := by
  refine x_enter (by decide) (Nat.le_of_ble_eq_true rfl) ?_
  intro p e s m below meth c ls hx hb hr hml hT hown hlk hnm hl hB
  obtain ⟨hP, hK, hN⟩ := hB
  have hl : lv_has ls 7 [(0, .ref (a 10)), (1, .int (nI q)), (2, .long x)] := hl
  have hown : s.vm.findClass R_K = some m.cls := hown
  refine lv_lconst (v := 0) hx hb d_K_targetsOfAll_0 (by decide) ?_
  refine lv_lstore (lv' := [(4, .long 0), (0, .ref (a 10)), (1, .int (nI q)), (2, .long x)]) hx hb d_K_targetsOfAll_1 hl (by decide) rfl (fun ls hl => ?_)
  refine lv_iconst (v := nI 1) hx hb d_K_targetsOfAll_3 (by decide) ?_
  refine lv_istore (lv' := [(6, .int (nI 1)), (4, .long 0), (0, .ref (a 10)), (1, .int (nI q)), (2, .long x)]) hx hb d_K_targetsOfAll_4 hl (by decide) rfl (fun ls hl => ?_)
  have hloop6 : ∀ (n6 : Nat) (k : Nat) (y : Int64) (ls : Array Slot), k ≤ 60 → (∀ b, bt6 y b = true ↔ ∃ h, h < k ∧ bt6 x (h + 1) = true ∧ bt6 (a_tg σ (q * 61 + (h + 1))) b = true) → 61 - k < n6 → lv_has ls 7 [(0, .ref (a 10)), (1, .int (nI q)), (2, .long x), (4, .long y), (6, .int (nI (k + 1)))] → W p l e (rD 2) s m ([.ref (a 10), .int (nI q), .long x] : List Value).toArray below meth c s.heap [] 0 0 (MQ below (vp_Sl (fun r => ∀ b, bt6 r b = true ↔ ∃ h, h < 60 ∧ bt6 x (h + 1) = true ∧ bt6 (a_tg σ (q * 61 + (h + 1))) b = true)) ([.ref (a 10), .int (nI q), .long x] : List Value).toArray s 0 0 (fun _ => False)) (F0 m 6 ls []) := by
    intro n6
    induction n6 with
    | zero => intro k y ls _ _ h9; exact absurd h9 (Nat.not_lt_zero _)
    | succ n6 ih6 =>
      intro k y ls hk hy hmu6 hl
      refine lv_iload hx hb d_K_targetsOfAll_6 (lv_at hl 4 rfl) ?_
      refine lv_bipush (v := nI 60) hx hb d_K_targetsOfAll_8 (by decide) ?_
      refine x_icmp_gt (tgt := 40) hx hb d_K_targetsOfAll_10 (by decide) (fun c10 => ?_) (fun c10 => ?_)
      · refine lv_lload hx hb d_K_targetsOfAll_40 (lv_at hl 3 rfl) ?_
        exact x_rl hx hb hr hlk d_K_targetsOfAll_42 (by rw [show 60 = k by omega]; exact hy)
      · refine lv_lload_n hx hb d_K_targetsOfAll_13 rfl (lv_at hl 2 rfl) ?_
        refine lv_iload hx hb d_K_targetsOfAll_14 (lv_at hl 4 rfl) ?_
        refine x_ci (x_runSN ⟨hx, hb, hml, hown, hT⟩ hN (c_A_holds l x (k + 1) (by omega)) f_A_holds k_K_33 blT (x_bT hN) hl.1 d_K_targetsOfAll_16 rfl (lv_room (Nat.le_of_ble_eq_true rfl)) ⟨Nat.le_of_ble_eq_true rfl, Nat.le_of_ble_eq_true rfl⟩ ⟨rfl, rfl⟩ ⟨Nat.le_refl 0, Nat.le_refl 0⟩ rfl) (fun r16 q16 => ?_)
        rcases q16 with ⟨rfl, hq9⟩ | ⟨rfl, hq9⟩
        · refine x_if_eq (tgt := 34) hx hb d_K_targetsOfAll_19 (by decide) (fun h => absurd h (by decide)) (fun _ => ?_)
          refine lv_lload hx hb d_K_targetsOfAll_22 (lv_at hl 3 rfl) ?_
          refine lv_aload_n hx hb d_K_targetsOfAll_24 rfl (lv_at hl 0 rfl) ?_
          refine lv_iload_n hx hb d_K_targetsOfAll_25 rfl (lv_at hl 1 rfl) ?_
          refine lv_iload hx hb d_K_targetsOfAll_26 (lv_at hl 4 rfl) ?_
          refine x_cl (x_runV ⟨hx, hb, hml, hown, hT⟩ (c_K_targetsOf l dC dI a t σ q ((k + 1)) (by omega) (by omega) (by omega)) f_K_targetsOf k_K_29 blR (va_recv hK hP (ci := 3) (q0 := 10) rfl rfl) (x_bR hK hP hN) hl.1 d_K_targetsOfAll_28 rfl (lv_room (Nat.le_of_ble_eq_true rfl)) ⟨Nat.le_of_ble_eq_true rfl, Nat.le_of_ble_eq_true rfl⟩ ⟨rfl, rfl⟩ ⟨Nat.le_refl 0, Nat.le_refl 0⟩ rfl) (fun r28 q28 => ?_)
          subst q28
          refine lv_lor hx hb d_K_targetsOfAll_31 ?_
          refine lv_lstore (lv' := [(4, .long (y ||| (a_tg σ (q * 61 + (k + 1))))), (0, .ref (a 10)), (1, .int (nI q)), (2, .long x), (6, .int (nI (k + 1)))]) hx hb d_K_targetsOfAll_32 hl (by decide) rfl (fun ls hl => ?_)
          refine x_iinc (lv' := [(6, .int (nI ((k + 1) + 1))), (4, .long (y ||| (a_tg σ (q * 61 + (k + 1))))), (0, .ref (a 10)), (1, .int (nI q)), (2, .long x)]) hx hb d_K_targetsOfAll_34 hl (k := 4) rfl (by decide) rfl (fun ls hl => ?_)
          refine lv_goto (tgt := 6) hx hb d_K_targetsOfAll_37 (by decide) ?_
          exact ih6 (k + 1) _ ls (by omega) (ex_s hy (fun b => by first | (rw [b6_or, Bool.or_eq_true]; constructor; (rintro (h9 | h9); exact Or.inl h9; exact Or.inr ⟨hq9, h9⟩); (rintro (h9 | h9); exact Or.inl h9; exact Or.inr h9.2)) | (constructor; exact Or.inl; (rintro (h9 | h9); exact h9; exact absurd h9.1 hq9)))) (by omega) (lv_sub hl [2, 3, 4, 1, 0] rfl)
        · refine x_if_eq (tgt := 34) hx hb d_K_targetsOfAll_19 (by decide) (fun _ => ?_) (fun h => absurd h (by decide))
          refine x_iinc (lv' := [(6, .int (nI ((k + 1) + 1))), (0, .ref (a 10)), (1, .int (nI q)), (2, .long x), (4, .long y)]) hx hb d_K_targetsOfAll_34 hl (k := 4) rfl (by decide) rfl (fun ls hl => ?_)
          refine lv_goto (tgt := 6) hx hb d_K_targetsOfAll_37 (by decide) ?_
          exact ih6 (k + 1) _ ls (by omega) (ex_s hy (fun b => by first | (rw [b6_or, Bool.or_eq_true]; constructor; (rintro (h9 | h9); exact Or.inl h9; exact Or.inr ⟨hq9, h9⟩); (rintro (h9 | h9); exact Or.inl h9; exact Or.inr h9.2)) | (constructor; exact Or.inl; (rintro (h9 | h9); exact h9; exact absurd h9.1 hq9)))) (by omega) (lv_sub hl [1, 2, 3, 4, 0] rfl)
  exact hloop6 _ 0 0 ls (by omega) (fun b => by rw [b6_0]; constructor; (intro h9; cases h9); (rintro ⟨h9, h8, _⟩; omega)) (Nat.lt_succ_self _) (lv_sub hl [2, 3, 4, 1, 0] rfl)

set_option maxRecDepth 100000 in
set_option maxHeartbeats 4000000 in
theorem c_K_sourcesOf (l : Launch) (dC : Nat → ClassId) (dI : Nat → Nat → Nat) (a : Nat → Nat) (t : Nat → ClassId) (σ : SA) (q : Nat) (x : Int64) (hq : q < 4) : Met l y_K_sourcesOf (wS y_K_sourcesOf b_K_sourcesOf 7 (some .long)) (rD 2) (va_Pc [.ref (a 10), .int (nI q), .long x] (RB (dC, dI) (yA t) (wA a t σ))) (vp_Sl (fun r => ∀ b, bt6 r b = true ↔ ∃ h, h < 60 ∧ b = h + 1 ∧ ¬ (a_tg σ (q * 61 + (h + 1)) &&& x) = 0)) 0 0 (fun _ => False) := by
  refine x_enter (by decide) (Nat.le_of_ble_eq_true rfl) ?_
  intro p e s m below meth c ls hx hb hr hml hT hown hlk hnm hl hB
  obtain ⟨hP, hK, hN⟩ := hB
  have hl : lv_has ls 7 [(0, .ref (a 10)), (1, .int (nI q)), (2, .long x)] := hl
  have hown : s.vm.findClass R_K = some m.cls := hown
  refine lv_lconst (v := 0) hx hb d_K_sourcesOf_0 (by decide) ?_
  refine lv_lstore (lv' := [(4, .long 0), (0, .ref (a 10)), (1, .int (nI q)), (2, .long x)]) hx hb d_K_sourcesOf_1 hl (by decide) rfl (fun ls hl => ?_)
  refine lv_iconst (v := nI 1) hx hb d_K_sourcesOf_3 (by decide) ?_
  refine lv_istore (lv' := [(6, .int (nI 1)), (4, .long 0), (0, .ref (a 10)), (1, .int (nI q)), (2, .long x)]) hx hb d_K_sourcesOf_4 hl (by decide) rfl (fun ls hl => ?_)
  have hloop6 : ∀ (n6 : Nat) (k : Nat) (y : Int64) (ls : Array Slot), k ≤ 60 → (∀ b, bt6 y b = true ↔ ∃ h, h < k ∧ b = h + 1 ∧ ¬ (a_tg σ (q * 61 + (h + 1)) &&& x) = 0) → 61 - k < n6 → lv_has ls 7 [(0, .ref (a 10)), (1, .int (nI q)), (2, .long x), (4, .long y), (6, .int (nI (k + 1)))] → W p l e (rD 2) s m ([.ref (a 10), .int (nI q), .long x] : List Value).toArray below meth c s.heap [] 0 0 (MQ below (vp_Sl (fun r => ∀ b, bt6 r b = true ↔ ∃ h, h < 60 ∧ b = h + 1 ∧ ¬ (a_tg σ (q * 61 + (h + 1)) &&& x) = 0)) ([.ref (a 10), .int (nI q), .long x] : List Value).toArray s 0 0 (fun _ => False)) (F0 m 6 ls []) := by
    intro n6
    induction n6 with
    | zero => intro k y ls _ _ h9; exact absurd h9 (Nat.not_lt_zero _)
    | succ n6 ih6 =>
      intro k y ls hk hy hmu6 hl
      refine lv_iload hx hb d_K_sourcesOf_6 (lv_at hl 4 rfl) ?_
      refine lv_bipush (v := nI 60) hx hb d_K_sourcesOf_8 (by decide) ?_
      refine x_icmp_gt (tgt := 43) hx hb d_K_sourcesOf_10 (by decide) (fun c10 => ?_) (fun c10 => ?_)
      · refine lv_lload hx hb d_K_sourcesOf_43 (lv_at hl 3 rfl) ?_
        exact x_rl hx hb hr hlk d_K_sourcesOf_45 (by rw [show 60 = k by omega]; exact hy)
      · refine lv_aload_n hx hb d_K_sourcesOf_13 rfl (lv_at hl 0 rfl) ?_
        refine lv_iload_n hx hb d_K_sourcesOf_14 rfl (lv_at hl 1 rfl) ?_
        refine lv_iload hx hb d_K_sourcesOf_15 (lv_at hl 4 rfl) ?_
        refine x_cl (x_runV ⟨hx, hb, hml, hown, hT⟩ (c_K_targetsOf l dC dI a t σ q ((k + 1)) (by omega) (by omega) (by omega)) f_K_targetsOf k_K_29 blR (va_recv hK hP (ci := 3) (q0 := 10) rfl rfl) (x_bR hK hP hN) hl.1 d_K_sourcesOf_17 rfl (lv_room (Nat.le_of_ble_eq_true rfl)) ⟨Nat.le_of_ble_eq_true rfl, Nat.le_of_ble_eq_true rfl⟩ ⟨rfl, rfl⟩ ⟨Nat.le_refl 0, Nat.le_refl 0⟩ rfl) (fun r17 q17 => ?_)
        subst q17
        refine lv_lload_n hx hb d_K_sourcesOf_20 rfl (lv_at hl 2 rfl) ?_
        refine lv_land hx hb d_K_sourcesOf_21 ?_
        refine lv_lconst (v := 0) hx hb d_K_sourcesOf_22 (by decide) ?_
        refine x_lif_eq (tgt := 37) hx hb d_K_sourcesOf_23 d_K_sourcesOf_24 (by decide) (fun c23 => ?_) (fun c23 => ?_)
        · refine x_iinc (lv' := [(6, .int (nI ((k + 1) + 1))), (0, .ref (a 10)), (1, .int (nI q)), (2, .long x), (4, .long y)]) hx hb d_K_sourcesOf_37 hl (k := 4) rfl (by decide) rfl (fun ls hl => ?_)
          refine lv_goto (tgt := 6) hx hb d_K_sourcesOf_40 (by decide) ?_
          exact ih6 (k + 1) _ ls (by omega) (ex_s hy (fun b => by first | (rw [b6_or, b6_sg (by omega), Bool.or_eq_true, decide_eq_true_eq]; constructor; (rintro (h9 | h9); exact Or.inl h9; exact Or.inr ⟨h9, c23⟩); (rintro (h9 | h9); exact Or.inl h9; exact Or.inr h9.1)) | (constructor; exact Or.inl; (rintro (h9 | h9); exact h9; exact absurd c23 h9.2)))) (by omega) (lv_sub hl [1, 2, 3, 4, 0] rfl)
        · refine lv_lload hx hb d_K_sourcesOf_27 (lv_at hl 3 rfl) ?_
          refine lv_iload hx hb d_K_sourcesOf_29 (lv_at hl 4 rfl) ?_
          refine x_cl (x_runSN ⟨hx, hb, hml, hown, hT⟩ hN (c_A_setOf l (k + 1) (by omega)) f_A_setOf k_K_41 blT (x_bT hN) hl.1 d_K_sourcesOf_31 rfl (lv_room (Nat.le_of_ble_eq_true rfl)) ⟨Nat.le_of_ble_eq_true rfl, Nat.le_of_ble_eq_true rfl⟩ ⟨rfl, rfl⟩ ⟨Nat.le_refl 0, Nat.le_refl 0⟩ rfl) (fun r31 q31 => ?_)
          subst q31
          refine lv_lor hx hb d_K_sourcesOf_34 ?_
          refine lv_lstore (lv' := [(4, .long (y ||| (sg (k + 1)))), (0, .ref (a 10)), (1, .int (nI q)), (2, .long x), (6, .int (nI (k + 1)))]) hx hb d_K_sourcesOf_35 hl (by decide) rfl (fun ls hl => ?_)
          refine x_iinc (lv' := [(6, .int (nI ((k + 1) + 1))), (4, .long (y ||| (sg (k + 1)))), (0, .ref (a 10)), (1, .int (nI q)), (2, .long x)]) hx hb d_K_sourcesOf_37 hl (k := 4) rfl (by decide) rfl (fun ls hl => ?_)
          refine lv_goto (tgt := 6) hx hb d_K_sourcesOf_40 (by decide) ?_
          exact ih6 (k + 1) _ ls (by omega) (ex_s hy (fun b => by first | (rw [b6_or, b6_sg (by omega), Bool.or_eq_true, decide_eq_true_eq]; constructor; (rintro (h9 | h9); exact Or.inl h9; exact Or.inr ⟨h9, c23⟩); (rintro (h9 | h9); exact Or.inl h9; exact Or.inr h9.1)) | (constructor; exact Or.inl; (rintro (h9 | h9); exact h9; exact absurd c23 h9.2)))) (by omega) (lv_sub hl [2, 3, 4, 1, 0] rfl)
  exact hloop6 _ 0 0 ls (by omega) (fun b => by rw [b6_0]; constructor; (intro h9; cases h9); (rintro ⟨h9, h8, _⟩; omega)) (Nat.lt_succ_self _) (lv_sub hl [2, 3, 4, 1, 0] rfl)

