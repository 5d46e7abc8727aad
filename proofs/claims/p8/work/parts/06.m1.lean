def isLD (q : Nat) : Prop := 97 ≤ q ∧ q ≤ 122 ∨ 65 ≤ q ∧ q ≤ 90 ∨ 48 ≤ q ∧ q ≤ 57
set_option maxRecDepth 100000 in
set_option maxHeartbeats 4000000 in
theorem c_C_isLetterOrDigit (l : Launch) (q : Nat) (hq : q < 65536) : Met l y_C_isLetterOrDigit (wS y_C_isLetterOrDigit b_C_isLetterOrDigit 1 (some .boolean)) (rD 0) (va_Pc [.int (nI q)] (fun U => NWs U)) (vp_Si (fun r => BR r (isLD q))) 0 0 (fun _ => False) := by
  refine x_enter (by decide) (Nat.le_of_ble_eq_true rfl) ?_
  intro p e s m below meth c ls hx hb hr hml hT hown hlk hnm hl hB
  have hN : NWs s := hB
  have hl : lv_has ls 1 [(0, .int (nI q))] := hl
  have hown : s.vm.findClass R_C = some m.cls := hown
  refine lv_iload_n hx hb d_C_isLetterOrDigit_0 rfl (lv_at hl 0 rfl) ?_
  refine lv_bipush (v := nI 97) hx hb d_C_isLetterOrDigit_1 (by decide) ?_
  refine x_icmp_lt (tgt := 12) hx hb d_C_isLetterOrDigit_3 (by decide) (fun c3 => ?_) (fun c3 => ?_)
  · refine lv_iload_n hx hb d_C_isLetterOrDigit_12 rfl (lv_at hl 0 rfl) ?_
    refine lv_bipush (v := nI 65) hx hb d_C_isLetterOrDigit_13 (by decide) ?_
    refine x_icmp_lt (tgt := 24) hx hb d_C_isLetterOrDigit_15 (by decide) (fun c15 => ?_) (fun c15 => ?_)
    · refine lv_iload_n hx hb d_C_isLetterOrDigit_24 rfl (lv_at hl 0 rfl) ?_
      refine lv_bipush (v := nI 48) hx hb d_C_isLetterOrDigit_25 (by decide) ?_
      refine x_icmp_lt (tgt := 40) hx hb d_C_isLetterOrDigit_27 (by decide) (fun c27 => ?_) (fun c27 => ?_)
      · refine lv_iconst (v := nI 0) hx hb d_C_isLetterOrDigit_40 (by decide) ?_
        exact x_rz hx hb hr hlk d_C_isLetterOrDigit_41 rfl (Or.inr ⟨rfl, by unfold isLD; omega⟩)
      · refine lv_iload_n hx hb d_C_isLetterOrDigit_30 rfl (lv_at hl 0 rfl) ?_
        refine lv_bipush (v := nI 57) hx hb d_C_isLetterOrDigit_31 (by decide) ?_
        refine x_icmp_gt (tgt := 40) hx hb d_C_isLetterOrDigit_33 (by decide) (fun c33 => ?_) (fun c33 => ?_)
        · refine lv_iconst (v := nI 0) hx hb d_C_isLetterOrDigit_40 (by decide) ?_
          exact x_rz hx hb hr hlk d_C_isLetterOrDigit_41 rfl (Or.inr ⟨rfl, by unfold isLD; omega⟩)
        · refine lv_iconst (v := nI 1) hx hb d_C_isLetterOrDigit_36 (by decide) ?_
          refine lv_goto (tgt := 41) hx hb d_C_isLetterOrDigit_37 (by decide) ?_
          exact x_rz hx hb hr hlk d_C_isLetterOrDigit_41 rfl (Or.inl ⟨rfl, by unfold isLD; omega⟩)
    · refine lv_iload_n hx hb d_C_isLetterOrDigit_18 rfl (lv_at hl 0 rfl) ?_
      refine lv_bipush (v := nI 90) hx hb d_C_isLetterOrDigit_19 (by decide) ?_
      refine x_icmp_le (tgt := 36) hx hb d_C_isLetterOrDigit_21 (by decide) (fun c21 => ?_) (fun c21 => ?_)
      · refine lv_iconst (v := nI 1) hx hb d_C_isLetterOrDigit_36 (by decide) ?_
        refine lv_goto (tgt := 41) hx hb d_C_isLetterOrDigit_37 (by decide) ?_
        exact x_rz hx hb hr hlk d_C_isLetterOrDigit_41 rfl (Or.inl ⟨rfl, by unfold isLD; omega⟩)
      · refine lv_iload_n hx hb d_C_isLetterOrDigit_24 rfl (lv_at hl 0 rfl) ?_
        refine lv_bipush (v := nI 48) hx hb d_C_isLetterOrDigit_25 (by decide) ?_
        refine x_icmp_lt (tgt := 40) hx hb d_C_isLetterOrDigit_27 (by decide) (fun c27 => ?_) (fun c27 => ?_)
        · refine lv_iconst (v := nI 0) hx hb d_C_isLetterOrDigit_40 (by decide) ?_
          exact x_rz hx hb hr hlk d_C_isLetterOrDigit_41 rfl (Or.inr ⟨rfl, by unfold isLD; omega⟩)
        · refine lv_iload_n hx hb d_C_isLetterOrDigit_30 rfl (lv_at hl 0 rfl) ?_
          refine lv_bipush (v := nI 57) hx hb d_C_isLetterOrDigit_31 (by decide) ?_
          refine x_icmp_gt (tgt := 40) hx hb d_C_isLetterOrDigit_33 (by decide) (fun c33 => ?_) (fun c33 => ?_)
          · refine lv_iconst (v := nI 0) hx hb d_C_isLetterOrDigit_40 (by decide) ?_
            exact x_rz hx hb hr hlk d_C_isLetterOrDigit_41 rfl (Or.inr ⟨rfl, by unfold isLD; omega⟩)
          · refine lv_iconst (v := nI 1) hx hb d_C_isLetterOrDigit_36 (by decide) ?_
            refine lv_goto (tgt := 41) hx hb d_C_isLetterOrDigit_37 (by decide) ?_
            exact x_rz hx hb hr hlk d_C_isLetterOrDigit_41 rfl (Or.inl ⟨rfl, by unfold isLD; omega⟩)
  · refine lv_iload_n hx hb d_C_isLetterOrDigit_6 rfl (lv_at hl 0 rfl) ?_
    refine lv_bipush (v := nI 122) hx hb d_C_isLetterOrDigit_7 (by decide) ?_
    refine x_icmp_le (tgt := 36) hx hb d_C_isLetterOrDigit_9 (by decide) (fun c9 => ?_) (fun c9 => ?_)
    · refine lv_iconst (v := nI 1) hx hb d_C_isLetterOrDigit_36 (by decide) ?_
      refine lv_goto (tgt := 41) hx hb d_C_isLetterOrDigit_37 (by decide) ?_
      exact x_rz hx hb hr hlk d_C_isLetterOrDigit_41 rfl (Or.inl ⟨rfl, by unfold isLD; omega⟩)
    · refine lv_iload_n hx hb d_C_isLetterOrDigit_12 rfl (lv_at hl 0 rfl) ?_
      refine lv_bipush (v := nI 65) hx hb d_C_isLetterOrDigit_13 (by decide) ?_
      refine x_icmp_lt (tgt := 24) hx hb d_C_isLetterOrDigit_15 (by decide) (fun c15 => ?_) (fun c15 => ?_)
      · refine lv_iload_n hx hb d_C_isLetterOrDigit_24 rfl (lv_at hl 0 rfl) ?_
        refine lv_bipush (v := nI 48) hx hb d_C_isLetterOrDigit_25 (by decide) ?_
        refine x_icmp_lt (tgt := 40) hx hb d_C_isLetterOrDigit_27 (by decide) (fun c27 => ?_) (fun c27 => ?_)
        · refine lv_iconst (v := nI 0) hx hb d_C_isLetterOrDigit_40 (by decide) ?_
          exact x_rz hx hb hr hlk d_C_isLetterOrDigit_41 rfl (Or.inr ⟨rfl, by unfold isLD; omega⟩)
        · refine lv_iload_n hx hb d_C_isLetterOrDigit_30 rfl (lv_at hl 0 rfl) ?_
          refine lv_bipush (v := nI 57) hx hb d_C_isLetterOrDigit_31 (by decide) ?_
          refine x_icmp_gt (tgt := 40) hx hb d_C_isLetterOrDigit_33 (by decide) (fun c33 => ?_) (fun c33 => ?_)
          · refine lv_iconst (v := nI 0) hx hb d_C_isLetterOrDigit_40 (by decide) ?_
            exact x_rz hx hb hr hlk d_C_isLetterOrDigit_41 rfl (Or.inr ⟨rfl, by unfold isLD; omega⟩)
          · refine lv_iconst (v := nI 1) hx hb d_C_isLetterOrDigit_36 (by decide) ?_
            refine lv_goto (tgt := 41) hx hb d_C_isLetterOrDigit_37 (by decide) ?_
            exact x_rz hx hb hr hlk d_C_isLetterOrDigit_41 rfl (Or.inl ⟨rfl, by unfold isLD; omega⟩)
      · refine lv_iload_n hx hb d_C_isLetterOrDigit_18 rfl (lv_at hl 0 rfl) ?_
        refine lv_bipush (v := nI 90) hx hb d_C_isLetterOrDigit_19 (by decide) ?_
        refine x_icmp_le (tgt := 36) hx hb d_C_isLetterOrDigit_21 (by decide) (fun c21 => ?_) (fun c21 => ?_)
        · refine lv_iconst (v := nI 1) hx hb d_C_isLetterOrDigit_36 (by decide) ?_
          refine lv_goto (tgt := 41) hx hb d_C_isLetterOrDigit_37 (by decide) ?_
          exact x_rz hx hb hr hlk d_C_isLetterOrDigit_41 rfl (Or.inl ⟨rfl, by unfold isLD; omega⟩)
        · refine lv_iload_n hx hb d_C_isLetterOrDigit_24 rfl (lv_at hl 0 rfl) ?_
          refine lv_bipush (v := nI 48) hx hb d_C_isLetterOrDigit_25 (by decide) ?_
          refine x_icmp_lt (tgt := 40) hx hb d_C_isLetterOrDigit_27 (by decide) (fun c27 => ?_) (fun c27 => ?_)
          · refine lv_iconst (v := nI 0) hx hb d_C_isLetterOrDigit_40 (by decide) ?_
            exact x_rz hx hb hr hlk d_C_isLetterOrDigit_41 rfl (Or.inr ⟨rfl, by unfold isLD; omega⟩)
          · refine lv_iload_n hx hb d_C_isLetterOrDigit_30 rfl (lv_at hl 0 rfl) ?_
            refine lv_bipush (v := nI 57) hx hb d_C_isLetterOrDigit_31 (by decide) ?_
            refine x_icmp_gt (tgt := 40) hx hb d_C_isLetterOrDigit_33 (by decide) (fun c33 => ?_) (fun c33 => ?_)
            · refine lv_iconst (v := nI 0) hx hb d_C_isLetterOrDigit_40 (by decide) ?_
              exact x_rz hx hb hr hlk d_C_isLetterOrDigit_41 rfl (Or.inr ⟨rfl, by unfold isLD; omega⟩)
            · refine lv_iconst (v := nI 1) hx hb d_C_isLetterOrDigit_36 (by decide) ?_
              refine lv_goto (tgt := 41) hx hb d_C_isLetterOrDigit_37 (by decide) ?_
              exact x_rz hx hb hr hlk d_C_isLetterOrDigit_41 rfl (Or.inl ⟨rfl, by unfold isLD; omega⟩)

def smN (q : Nat) : Nat := if 65 ≤ q ∧ q ≤ 90 then q + 32 else q
set_option maxRecDepth 100000 in
set_option maxHeartbeats 4000000 in
theorem c_H_small (l : Launch) (q : Nat) (hq : q < 65536) : Met l y_H_small (wS y_H_small b_H_small 1 (some .int)) (rD 0) (va_Pc [.int (nI q)] (fun U => NWs U)) (vp_Si (fun r => r = nI (smN q))) 0 0 (fun _ => False) := by
  refine x_enter (by decide) (Nat.le_of_ble_eq_true rfl) ?_
  intro p e s m below meth c ls hx hb hr hml hT hown hlk hnm hl hB
  have hN : NWs s := hB
  have hl : lv_has ls 1 [(0, .int (nI q))] := hl
  have hown : s.vm.findClass R_H = some m.cls := hown
  refine lv_iload_n hx hb d_H_small_0 rfl (lv_at hl 0 rfl) ?_
  refine lv_bipush (v := nI 65) hx hb d_H_small_1 (by decide) ?_
  refine x_icmp_lt (tgt := 22) hx hb d_H_small_3 (by decide) (fun c3 => ?_) (fun c3 => ?_)
  · refine lv_iload_n hx hb d_H_small_22 rfl (lv_at hl 0 rfl) ?_
    exact x_ri hx hb hr hlk d_H_small_23 (by unfold smN; congr 1; split <;> omega)
  · refine lv_iload_n hx hb d_H_small_6 rfl (lv_at hl 0 rfl) ?_
    refine lv_bipush (v := nI 90) hx hb d_H_small_7 (by decide) ?_
    refine x_icmp_gt (tgt := 22) hx hb d_H_small_9 (by decide) (fun c9 => ?_) (fun c9 => ?_)
    · refine lv_iload_n hx hb d_H_small_22 rfl (lv_at hl 0 rfl) ?_
      exact x_ri hx hb hr hlk d_H_small_23 (by unfold smN; congr 1; split <;> omega)
    · refine lv_iload_n hx hb d_H_small_12 rfl (lv_at hl 0 rfl) ?_
      refine lv_bipush (v := nI 65) hx hb d_H_small_13 (by decide) ?_
      refine x_isub hx hb d_H_small_15 ?_
      refine lv_bipush (v := nI 97) hx hb d_H_small_16 (by decide) ?_
      refine x_iadd hx hb d_H_small_18 ?_
      refine lv_goto (tgt := 23) hx hb d_H_small_19 (by decide) ?_
      exact x_ri hx hb hr hlk d_H_small_23 (by unfold smN; congr 1; split <;> omega)

set_option maxRecDepth 100000 in
set_option maxHeartbeats 4000000 in
theorem c_H_isFull (l : Launch) (dC : Nat → ClassId) (dI : Nat → Nat → Nat) (a : Nat → Nat) (t : Nat → ClassId) (σ : SA) (hG : GA σ) : Met l y_H_isFull (wS y_H_isFull b_H_isFull 1 (some .boolean)) (rD 0) (va_Pc [.ref (a 5)] (RB (dC, dI) (yA t) (wA a t σ))) (vp_Si (fun r => BR r (60 ≤ a_hn σ))) 0 0 (fun _ => False) := by
  refine x_enter (by decide) (Nat.le_of_ble_eq_true rfl) ?_
  intro p e s m below meth c ls hx hb hr hml hT hown hlk hnm hl hB
  obtain ⟨hP, hK, hN⟩ := hB
  have hl : lv_has ls 1 [(0, .ref (a 5))] := hl
  have hown : s.vm.findClass R_H = some m.cls := hown
  obtain ⟨g_sn, g_sg, g_tn, g_tx, g_kd, g_lv, g_le, g_ln, g_hn, g_lf, g_lt, g_lc, g_rh, g_rn, g_ws, g_wn⟩ := hG
  refine lv_aload_n hx hb d_H_isFull_0 rfl (lv_at hl 0 rfl) ?_
  refine va_get (D := (dC, dI)) (C := R_H) (T := F_H) (N := 5) hx hb hT i_H hown hK hP 5 rfl rfl 4 (by decide) (hT _ k_H_26) (fun _ h9 => h9) (v := .int (nI (a_hn σ))) rfl d_H_isFull_1 ?_
  refine lv_bipush (v := nI 60) hx hb d_H_isFull_4 (by decide) ?_
  refine x_icmp_lt (tgt := 13) hx hb d_H_isFull_6 (by decide) (fun c6 => ?_) (fun c6 => ?_)
  · refine lv_iconst (v := nI 0) hx hb d_H_isFull_13 (by decide) ?_
    exact x_rz hx hb hr hlk d_H_isFull_14 rfl (Or.inr ⟨rfl, by omega⟩)
  · refine lv_iconst (v := nI 1) hx hb d_H_isFull_9 (by decide) ?_
    refine lv_goto (tgt := 14) hx hb d_H_isFull_10 (by decide) ?_
    exact x_rz hx hb hr hlk d_H_isFull_14 rfl (Or.inl ⟨rfl, by omega⟩)

set_option maxRecDepth 100000 in
set_option maxHeartbeats 4000000 in
theorem c_K_isFull (l : Launch) (dC : Nat → ClassId) (dI : Nat → Nat → Nat) (a : Nat → Nat) (t : Nat → ClassId) (σ : SA) (hG : GA σ) : Met l y_K_isFull (wS y_K_isFull b_K_isFull 1 (some .boolean)) (rD 0) (va_Pc [.ref (a 10)] (RB (dC, dI) (yA t) (wA a t σ))) (vp_Si (fun r => BR r (512 ≤ a_lc σ))) 0 0 (fun _ => False) := by
  refine x_enter (by decide) (Nat.le_of_ble_eq_true rfl) ?_
  intro p e s m below meth c ls hx hb hr hml hT hown hlk hnm hl hB
  obtain ⟨hP, hK, hN⟩ := hB
  have hl : lv_has ls 1 [(0, .ref (a 10))] := hl
  have hown : s.vm.findClass R_K = some m.cls := hown
  obtain ⟨g_sn, g_sg, g_tn, g_tx, g_kd, g_lv, g_le, g_ln, g_hn, g_lf, g_lt, g_lc, g_rh, g_rn, g_ws, g_wn⟩ := hG
  refine lv_aload_n hx hb d_K_isFull_0 rfl (lv_at hl 0 rfl) ?_
  refine va_get (D := (dC, dI)) (C := R_K) (T := F_K) (N := 5) hx hb hT i_K hown hK hP 10 rfl rfl 4 (by decide) (hT _ k_K_25) (fun _ h9 => h9) (v := .int (nI (a_lc σ))) rfl d_K_isFull_1 ?_
  refine lv_sipush (v := nI 512) hx hb d_K_isFull_4 (by decide) ?_
  refine x_icmp_lt (tgt := 14) hx hb d_K_isFull_7 (by decide) (fun c7 => ?_) (fun c7 => ?_)
  · refine lv_iconst (v := nI 0) hx hb d_K_isFull_14 (by decide) ?_
    exact x_rz hx hb hr hlk d_K_isFull_15 rfl (Or.inr ⟨rfl, by omega⟩)
  · refine lv_iconst (v := nI 1) hx hb d_K_isFull_10 (by decide) ?_
    refine lv_goto (tgt := 15) hx hb d_K_isFull_11 (by decide) ?_
    exact x_rz hx hb hr hlk d_K_isFull_15 rfl (Or.inl ⟨rfl, by omega⟩)

set_option maxRecDepth 100000 in
set_option maxHeartbeats 4000000 in
theorem c_R_isFull (l : Launch) (dC : Nat → ClassId) (dI : Nat → Nat → Nat) (a : Nat → Nat) (t : Nat → ClassId) (σ : SA) (hG : GA σ) : Met l y_R_isFull (wS y_R_isFull b_R_isFull 1 (some .boolean)) (rD 0) (va_Pc [.ref (a 15)] (RB (dC, dI) (yA t) (wA a t σ))) (vp_Si (fun r => BR r (60 ≤ a_rn σ))) 0 0 (fun _ => False) := by
  refine x_enter (by decide) (Nat.le_of_ble_eq_true rfl) ?_
  intro p e s m below meth c ls hx hb hr hml hT hown hlk hnm hl hB
  obtain ⟨hP, hK, hN⟩ := hB
  have hl : lv_has ls 1 [(0, .ref (a 15))] := hl
  have hown : s.vm.findClass R_R = some m.cls := hown
  obtain ⟨g_sn, g_sg, g_tn, g_tx, g_kd, g_lv, g_le, g_ln, g_hn, g_lf, g_lt, g_lc, g_rh, g_rn, g_ws, g_wn⟩ := hG
  refine lv_aload_n hx hb d_R_isFull_0 rfl (lv_at hl 0 rfl) ?_
  refine va_get (D := (dC, dI)) (C := R_R) (T := F_R) (N := 3) hx hb hT i_R hown hK hP 15 rfl rfl 2 (by decide) (hT _ k_R_19) (fun _ h9 => h9) (v := .int (nI (a_rn σ))) rfl d_R_isFull_1 ?_
  refine lv_bipush (v := nI 60) hx hb d_R_isFull_4 (by decide) ?_
  refine x_icmp_lt (tgt := 13) hx hb d_R_isFull_6 (by decide) (fun c6 => ?_) (fun c6 => ?_)
  · refine lv_iconst (v := nI 0) hx hb d_R_isFull_13 (by decide) ?_
    exact x_rz hx hb hr hlk d_R_isFull_14 rfl (Or.inr ⟨rfl, by omega⟩)
  · refine lv_iconst (v := nI 1) hx hb d_R_isFull_9 (by decide) ?_
    refine lv_goto (tgt := 14) hx hb d_R_isFull_10 (by decide) ?_
    exact x_rz hx hb hr hlk d_R_isFull_14 rfl (Or.inl ⟨rfl, by omega⟩)

set_option maxRecDepth 100000 in
set_option maxHeartbeats 4000000 in
theorem c_H_isThere (l : Launch) (dC : Nat → ClassId) (dI : Nat → Nat → Nat) (a : Nat → Nat) (t : Nat → ClassId) (σ : SA) (hG : GA σ) (x : Int32) : Met l y_H_isThere (wS y_H_isThere b_H_isThere 2 (some .boolean)) (rD 0) (va_Pc [.ref (a 5), .int x] (RB (dC, dI) (yA t) (wA a t σ))) (vp_Si (fun r => BR r (∃ j, 1 ≤ j ∧ j ≤ a_hn σ ∧ x = nI j))) 0 0 (fun _ => False) := by
  refine x_enter (by decide) (Nat.le_of_ble_eq_true rfl) ?_
  intro p e s m below meth c ls hx hb hr hml hT hown hlk hnm hl hB
  obtain ⟨hP, hK, hN⟩ := hB
  have hl : lv_has ls 2 [(0, .ref (a 5)), (1, .int x)] := hl
  have hown : s.vm.findClass R_H = some m.cls := hown
  obtain ⟨g_sn, g_sg, g_tn, g_tx, g_kd, g_lv, g_le, g_ln, g_hn, g_lf, g_lt, g_lc, g_rh, g_rn, g_ws, g_wn⟩ := hG
  refine lv_iload_n hx hb d_H_isThere_0 rfl (lv_at hl 1 rfl) ?_
  refine lv_iconst (v := nI 1) hx hb d_H_isThere_1 (by decide) ?_
  refine lv_icmp_lt (tgt := 17) hx hb d_H_isThere_2 (by decide) (fun c2 => ?_) (fun c2 => ?_)
  · refine lv_iconst (v := nI 0) hx hb d_H_isThere_17 (by decide) ?_
    exact x_rz hx hb hr hlk d_H_isThere_18 rfl (Or.inr ⟨rfl, by first | exact x_there1 (by omega) (by assumption) | exact x_there2 (by omega) (by assumption)⟩)
  · refine lv_iload_n hx hb d_H_isThere_5 rfl (lv_at hl 1 rfl) ?_
    refine lv_aload_n hx hb d_H_isThere_6 rfl (lv_at hl 0 rfl) ?_
    refine va_get (D := (dC, dI)) (C := R_H) (T := F_H) (N := 5) hx hb hT i_H hown hK hP 5 rfl rfl 4 (by decide) (hT _ k_H_26) (fun _ h9 => h9) (v := .int (nI (a_hn σ))) rfl d_H_isThere_7 ?_
    refine lv_icmp_gt (tgt := 17) hx hb d_H_isThere_10 (by decide) (fun c10 => ?_) (fun c10 => ?_)
    · refine lv_iconst (v := nI 0) hx hb d_H_isThere_17 (by decide) ?_
      exact x_rz hx hb hr hlk d_H_isThere_18 rfl (Or.inr ⟨rfl, by first | exact x_there1 (by omega) (by assumption) | exact x_there2 (by omega) (by assumption)⟩)
    · refine lv_iconst (v := nI 1) hx hb d_H_isThere_13 (by decide) ?_
      refine lv_goto (tgt := 18) hx hb d_H_isThere_14 (by decide) ?_
      exact x_rz hx hb hr hlk d_H_isThere_18 rfl (Or.inl ⟨rfl, x_there (by omega) (by assumption) (by assumption)⟩)

set_option maxRecDepth 100000 in
set_option maxHeartbeats 4000000 in
theorem c_H_isLive (l : Launch) (dC : Nat → ClassId) (dI : Nat → Nat → Nat) (a : Nat → Nat) (t : Nat → ClassId) (σ : SA) (hG : GA σ) (x : Int32) : Met l y_H_isLive (wS y_H_isLive b_H_isLive 2 (some .boolean)) (rD 1) (va_Pc [.ref (a 5), .int x] (RB (dC, dI) (yA t) (wA a t σ))) (vp_Si (fun r => BR r (∃ j, 1 ≤ j ∧ j ≤ a_hn σ ∧ a_lv σ j = 1 ∧ x = nI j))) 0 0 (fun _ => False) := by
  refine x_enter (by decide) (Nat.le_of_ble_eq_true rfl) ?_
  intro p e s m below meth c ls hx hb hr hml hT hown hlk hnm hl hB
  obtain ⟨hP, hK, hN⟩ := hB
  have hl : lv_has ls 2 [(0, .ref (a 5)), (1, .int x)] := hl
  have hown : s.vm.findClass R_H = some m.cls := hown
  have hG2 := hG
  obtain ⟨g_sn, g_sg, g_tn, g_tx, g_kd, g_lv, g_le, g_ln, g_hn, g_lf, g_lt, g_lc, g_rh, g_rn, g_ws, g_wn⟩ := hG
  refine lv_aload_n hx hb d_H_isLive_0 rfl (lv_at hl 0 rfl) ?_
  refine lv_iload_n hx hb d_H_isLive_1 rfl (lv_at hl 1 rfl) ?_
  refine x_ci (x_runV ⟨hx, hb, hml, hown, hT⟩ (c_H_isThere l dC dI a t σ hG2 x) f_H_isThere k_H_30 blR (va_recv hK hP (ci := 2) (q0 := 5) rfl rfl) (x_bR hK hP hN) hl.1 d_H_isLive_2 rfl (lv_room (Nat.le_of_ble_eq_true rfl)) ⟨Nat.le_of_ble_eq_true rfl, Nat.le_of_ble_eq_true rfl⟩ ⟨rfl, rfl⟩ ⟨Nat.le_refl 0, Nat.le_refl 0⟩ rfl) (fun r2 q2 => ?_)
  rcases q2 with ⟨rfl, j, hj1, hj2, rfl⟩ | ⟨rfl, hj⟩
  · refine x_if_eq (tgt := 21) hx hb d_H_isLive_5 (by decide) (fun h => absurd h (by decide)) (fun _ => ?_)
    refine lv_aload_n hx hb d_H_isLive_8 rfl (lv_at hl 0 rfl) ?_
    refine va_get (D := (dC, dI)) (C := R_H) (T := F_H) (N := 5) hx hb hT i_H hown hK hP 5 rfl rfl 1 (by decide) (hT _ k_H_15) (fun _ h9 => h9) (v := .ref (a 7)) rfl d_H_isLive_9 ?_
    refine lv_iload_n hx hb d_H_isLive_12 rfl (lv_at hl 1 rfl) ?_
    refine x_zald hx hb hK hP 7 3 (f := (a_lv σ)) rfl rfl d_H_isLive_13 (by omega) ?_
    have g1 := g_lv j
    refine x_if_eq (tgt := 21) hx hb d_H_isLive_14 (by decide) (fun c14 => ?_) (fun c14 => ?_)
    · refine lv_iconst (v := nI 0) hx hb d_H_isLive_21 (by decide) ?_
      exact x_rz hx hb hr hlk d_H_isLive_22 rfl (Or.inr ⟨rfl, by first | exact fun ⟨j, h1, h2, _, h4⟩ => hj ⟨j, h1, h2, h4⟩ | (rintro ⟨i, h1, h2, h3, h4⟩; have h5 := (nI_eq (by omega) (by omega)).mp h4; subst h5; omega)⟩)
    · refine lv_iconst (v := nI 1) hx hb d_H_isLive_17 (by decide) ?_
      refine lv_goto (tgt := 22) hx hb d_H_isLive_18 (by decide) ?_
      exact x_rz hx hb hr hlk d_H_isLive_22 rfl (Or.inl ⟨rfl, j, hj1, hj2, by omega, rfl⟩)
  · refine x_if_eq (tgt := 21) hx hb d_H_isLive_5 (by decide) (fun _ => ?_) (fun h => absurd h (by decide))
    refine lv_iconst (v := nI 0) hx hb d_H_isLive_21 (by decide) ?_
    exact x_rz hx hb hr hlk d_H_isLive_22 rfl (Or.inr ⟨rfl, by first | exact fun ⟨j, h1, h2, _, h4⟩ => hj ⟨j, h1, h2, h4⟩ | (rintro ⟨i, h1, h2, h3, h4⟩; have h5 := (nI_eq (by omega) (by omega)).mp h4; subst h5; omega)⟩)

