theorem P_l {D : va_G} {cl : List vw_C} {w1 w2 : va_W} {H : Heap} (h : va_P D cl (w1 ++ w2) H) : va_P D cl w1 H := fun k q hk => h k q (by rw [List.getElem?_append_left (by rcases Nat.lt_or_ge k w1.length with h1 | h1; exact h1; rw [List.getElem?_eq_none h1] at hk; cases hk)]; exact hk)
theorem P_r {D : va_G} {cl : List vw_C} {w1 w2 : va_W} {H : Heap} (h : va_P D cl (w1 ++ w2) H) : va_P D cl w2 H := fun k q hk => h (w1.length + k) q (by rw [List.getElem?_append_right (by omega), show w1.length + k - w1.length = k by omega]; exact hk)
theorem D_l {A : Nat → Prop} {w1 w2 : va_W} (h : va_D A (w1 ++ w2)) : va_D A w1 := by
  have e : ∀ (k : Nat) (q : Nat × va_E), w1[k]? = some q → (w1 ++ w2)[k]? = some q := fun k q hk => by rw [List.getElem?_append_left (by rcases Nat.lt_or_ge k w1.length with h1 | h1; exact h1; rw [List.getElem?_eq_none h1] at hk; cases hk)]; exact hk
  exact ⟨fun i j p q hp hq => h.1 i j p q (e i p hp) (e j q hq), fun k q hk => h.2 k q (e k q hk)⟩
theorem D_r {A : Nat → Prop} {w1 w2 : va_W} (h : va_D A (w1 ++ w2)) : va_D A w2 := by
  have e : ∀ (k : Nat) (q : Nat × va_E), w2[k]? = some q → (w1 ++ w2)[w1.length + k]? = some q := fun k q hk => by rw [List.getElem?_append_right (by omega), show w1.length + k - w1.length = k by omega]; exact hk
  exact ⟨fun i j p q hp hq hpq => by have := h.1 _ _ p q (e i p hp) (e j q hq) hpq; omega, fun k q hk => h.2 _ q (e k q hk)⟩
theorem D_x {A : Nat → Prop} {w1 w2 : va_W} (h : va_D A (w1 ++ w2)) {i j : Nat} {p q : Nat × va_E} (hp : w1[i]? = some p) (hq : w2[j]? = some q) : p.1 ≠ q.1 := fun hpq => by
  have hi : i < w1.length := by
    rcases Nat.lt_or_ge i w1.length with h1 | h1
    · exact h1
    · rw [List.getElem?_eq_none h1] at hp; cases hp
  have := h.1 i (w1.length + j) p q (by rw [List.getElem?_append_left hi]; exact hp) (by rw [List.getElem?_append_right (by omega), show w1.length + j - w1.length = j by omega]; exact hq) hpq
  omega
theorem K_l {D : va_G} {cl : List vw_C} {t1 t2 : List (ClassId × FieldType)} {U : State} (h : va_K D cl (t1 ++ t2) U) : va_K D cl t1 U := ⟨h.1, fun k q hk => h.2 k q (by rw [List.getElem?_append_left (by rcases Nat.lt_or_ge k t1.length with h1 | h1; exact h1; rw [List.getElem?_eq_none h1] at hk; cases hk)]; exact hk)⟩
theorem K_r {D : va_G} {cl : List vw_C} {t1 t2 : List (ClassId × FieldType)} {U : State} (h : va_K D cl (t1 ++ t2) U) : va_K D cl t2 U := ⟨h.1, fun k q hk => h.2 (t1.length + k) q (by rw [List.getElem?_append_right (by omega), show t1.length + k - t1.length = k by omega]; exact hk)⟩
theorem join_l {A0 : Nat → Prop} {D : va_G} {cl : List vw_C} {w1 w2 w3 : va_W} {H H1 : Heap} (hP : va_P D cl (w1 ++ w2) H) (hD : va_D A0 (w1 ++ w2)) (hk : ∀ q : Nat, q < H.size → ¬ va_A w1 H.size q → H1[q]? = H[q]?) (hF : ∀ q, va_A w1 H.size q → A0 q) (hP1 : va_P D cl w3 H1) (hD1 : va_D (va_A w1 H.size) w3) : va_P D cl (w3 ++ w2) H1 ∧ va_D A0 (w3 ++ w2) := by
  have ap : ∀ (k : Nat) (q : Nat × va_E), w2[k]? = some q → q.1 < H.size ∧ ¬ va_A w1 H.size q.1 := fun k q hq => by
    have hl := (P_r hP k q hq).lt
    refine ⟨hl, fun h => ?_⟩
    rcases h with ⟨k2, e, h⟩ | h
    · exact D_x hD h hq rfl
    · omega
  refine ⟨va_P.app hP1 (fun k q hq => (P_r hP k q hq).kept (hk q.1 (ap k q hq).1 (ap k q hq).2)), va_D.app (hD1.weaken (fun k q _ h => hF q.1 h)) (D_r hD) (fun i j x y hx hy hxy => ?_)⟩
  exact (ap j y hy).2 (by rw [← hxy]; exact hD1.2 i x hx)
theorem join_r {A0 : Nat → Prop} {D : va_G} {cl : List vw_C} {w1 w2 w3 : va_W} {H H1 : Heap} (hP : va_P D cl (w1 ++ w2) H) (hD : va_D A0 (w1 ++ w2)) (hk : ∀ q : Nat, q < H.size → ¬ va_A w2 H.size q → H1[q]? = H[q]?) (hF : ∀ q, va_A w2 H.size q → A0 q) (hP1 : va_P D cl w3 H1) (hD1 : va_D (va_A w2 H.size) w3) : va_P D cl (w1 ++ w3) H1 ∧ va_D A0 (w1 ++ w3) := by
  have ap : ∀ (k : Nat) (q : Nat × va_E), w1[k]? = some q → q.1 < H.size ∧ ¬ va_A w2 H.size q.1 := fun k q hq => by
    have hl := (P_l hP k q hq).lt
    refine ⟨hl, fun h => ?_⟩
    rcases h with ⟨k2, e, h⟩ | h
    · exact D_x hD hq h rfl
    · omega
  refine ⟨va_P.app (fun k q hq => (P_l hP k q hq).kept (hk q.1 (ap k q hq).1 (ap k q hq).2)) hP1, va_D.app (D_l hD) (hD1.weaken (fun k q _ h => hF q.1 h)) (fun i j x y hx hy hxy => ?_)⟩
  exact (ap i x hx).2 (by rw [hxy]; exact hD1.2 j y hy)
section XL
variable {p : Program} {l : Launch} {e : Env} {R : Room} {s : State} {m : MethodId} {args : Array Value} {below : List Frame} {meth : Method} {c : Code} {H : Heap} {locs : List Loc} {cells slots : Nat} {Q : State → Prop}
variable {cc : ByteArray} {pc : Nat} {ls : Array Slot} {rest st0 : List Value} {D : va_G} {A : Nat → Prop} {a : Nat} {tys : List (ClassId × FieldType)} {ws : va_W} {H0 : Heap}
theorem x_sld (hx : p.tables.exec = Jvm.exec) (hb : c.code = cc) {b L n : Nat} {xs : Nat → Int32} (hX : va_X b L xs s H0) (hbl : b < H0.size) (hbA : ¬ A b) (hS : va_S A H0 H locs) (hn : n < L) (hL : L < 2 ^ 31) (hdg : decode cc pc = .ok (.iaload, 1)) (kk : W p l e R s m args below meth c H locs cells slots Q (F0 m (pc + 1) ls (.int (xs n) :: rest))) : W p l e R s m args below meth c H locs cells slots Q (F0 m pc ls (.int (nI n) :: .ref b :: rest)) :=
  va_sld hx hb hX hbl hbA hS (vp_in_nI hn hL) hdg (by rw [nI_clamp (Nat.lt_trans hn hL)]; exact kk)
theorem x_Lli {S : Type} {post : Int32 → S → Prop} {wl : S → va_W} {w1 w2 : va_W} {a0 : Array Value} (hr : va_Run p l e R s m args below meth c H locs cells slots 0 0 (F0 m pc ls st0) rest (va_Qi post (fun u => ME D tys (va_A w1 H.size) (wl u)) (va_A w1 H.size) a0) (va_A w1 H.size)) (hP : va_P D classes (w1 ++ w2) H) (hD : va_D A (w1 ++ w2)) (hS : va_S A H0 H locs) (hA : ∀ q, H0.size ≤ q → A q) (kk : ∀ (r : Int32) (u : S) (H1 : Heap) (locs1 : List Loc), post r u → va_P D classes (wl u ++ w2) H1 → va_D A (wl u ++ w2) → va_S A H0 H1 locs1 → W p l e R s m args below meth c H1 locs1 cells slots Q (F0 m (pc + 3) ls (.int r :: rest))) : W p l e R s m args below meth c H locs cells slots Q (F0 m pc ls st0) :=
  va_calli hr hS (fun q _ h => x_free (D_l hD) hS hA q h) (x_free (D_l hD) hS hA) (fun r u t H1 locs1 ht _ hp hB _ hk hS1 => by
    have hj := join_l hP hD hk (x_free (D_l hD) hS hA) (by rw [← ht]; exact hB.1) hB.2.2
    exact kk r u H1 locs1 hp hj.1 hj.2 hS1)
theorem x_Llv {S : Type} {post : S → Prop} {wl : S → va_W} {w1 w2 : va_W} {a0 : Array Value} (hr : va_Run p l e R s m args below meth c H locs cells slots 0 0 (F0 m pc ls st0) rest (va_Qv post (fun u => ME D tys (va_A w1 H.size) (wl u)) (va_A w1 H.size) a0) (va_A w1 H.size)) (hP : va_P D classes (w1 ++ w2) H) (hD : va_D A (w1 ++ w2)) (hS : va_S A H0 H locs) (hA : ∀ q, H0.size ≤ q → A q) (kk : ∀ (u : S) (H1 : Heap) (locs1 : List Loc), post u → va_P D classes (wl u ++ w2) H1 → va_D A (wl u ++ w2) → va_S A H0 H1 locs1 → W p l e R s m args below meth c H1 locs1 cells slots Q (F0 m (pc + 3) ls rest)) : W p l e R s m args below meth c H locs cells slots Q (F0 m pc ls st0) :=
  va_callv hr hS (fun q _ h => x_free (D_l hD) hS hA q h) (x_free (D_l hD) hS hA) (fun u t H1 locs1 ht _ hp hB _ hk hS1 => by
    have hj := join_l hP hD hk (x_free (D_l hD) hS hA) (by rw [← ht]; exact hB.1) hB.2.2
    exact kk u H1 locs1 hp hj.1 hj.2 hS1)
theorem x_Lri {S : Type} {post : Int32 → S → Prop} {wl : S → va_W} {w1 w2 : va_W} {a0 : Array Value} (hr : va_Run p l e R s m args below meth c H locs cells slots 0 0 (F0 m pc ls st0) rest (va_Qi post (fun u => ME D tys (va_A w2 H.size) (wl u)) (va_A w2 H.size) a0) (va_A w2 H.size)) (hP : va_P D classes (w1 ++ w2) H) (hD : va_D A (w1 ++ w2)) (hS : va_S A H0 H locs) (hA : ∀ q, H0.size ≤ q → A q) (kk : ∀ (r : Int32) (u : S) (H1 : Heap) (locs1 : List Loc), post r u → va_P D classes (w1 ++ wl u) H1 → va_D A (w1 ++ wl u) → va_S A H0 H1 locs1 → W p l e R s m args below meth c H1 locs1 cells slots Q (F0 m (pc + 3) ls (.int r :: rest))) : W p l e R s m args below meth c H locs cells slots Q (F0 m pc ls st0) :=
  va_calli hr hS (fun q _ h => x_free (D_r hD) hS hA q h) (x_free (D_r hD) hS hA) (fun r u t H1 locs1 ht _ hp hB _ hk hS1 => by
    have hj := join_r hP hD hk (x_free (D_r hD) hS hA) (by rw [← ht]; exact hB.1) hB.2.2
    exact kk r u H1 locs1 hp hj.1 hj.2 hS1)
theorem x_Lrv {S : Type} {post : S → Prop} {wl : S → va_W} {w1 w2 : va_W} {a0 : Array Value} (hr : va_Run p l e R s m args below meth c H locs cells slots 0 0 (F0 m pc ls st0) rest (va_Qv post (fun u => ME D tys (va_A w2 H.size) (wl u)) (va_A w2 H.size) a0) (va_A w2 H.size)) (hP : va_P D classes (w1 ++ w2) H) (hD : va_D A (w1 ++ w2)) (hS : va_S A H0 H locs) (hA : ∀ q, H0.size ≤ q → A q) (kk : ∀ (u : S) (H1 : Heap) (locs1 : List Loc), post u → va_P D classes (w1 ++ wl u) H1 → va_D A (w1 ++ wl u) → va_S A H0 H1 locs1 → W p l e R s m args below meth c H1 locs1 cells slots Q (F0 m (pc + 3) ls rest)) : W p l e R s m args below meth c H locs cells slots Q (F0 m pc ls st0) :=
  va_callv hr hS (fun q _ h => x_free (D_r hD) hS hA q h) (x_free (D_r hD) hS hA) (fun u t H1 locs1 ht _ hp hB _ hk hS1 => by
    have hj := join_r hP hD hk (x_free (D_r hD) hS hA) (by rw [← ht]; exact hB.1) hB.2.2
    exact kk u H1 locs1 hp hj.1 hj.2 hS1)
end XL
set_option maxRecDepth 100000 in
set_option maxHeartbeats 16000000 in
/-- the law's loop, with cl calls done -/
theorem law_loop {p : Program} {l : Launch} {e : Env} {s : State} {m : MethodId} {below : List Frame} {meth : Method} {c : Code} {dC : Nat → ClassId} {dI : Nat → Nat → Nat} {b L : Nat} {xs : Nat → Int32} (hL : L ≤ 3072) (C0 : lw_At p s m meth c b L xs) : ∀ (n cl : Nat) (σ : SA) (μ : SM) (a : Nat → Nat) (t : Nat → ClassId) (a2 : Nat → Nat) (t2 : Nat → ClassId) (H : Heap) (locs : List Loc) (ls : Array Slot), INV8 cl σ μ → 6 * cl ≤ L + 5 → L + 6 < 6 * cl + n → va_K (dC, dI) classes (yA t ++ yM t2) s → va_P (dC, dI) classes (wA a t σ ++ wM a2 t2 μ) H → va_D (fun q : Nat => s.heap.size ≤ q) (wA a t σ ++ wM a2 t2 μ) → va_S (fun q : Nat => s.heap.size ≤ q) s.heap H locs → lv_has ls 4 [(0, .ref b), (1, .ref (a 0)), (2, .ref (a2 0)), (3, .int (nI (6 * cl)))] → W p l e room_1 s m #[Value.ref b] below meth c H locs 35 85219 (lw_Z below #[Value.ref b] s) (F0 m 18 ls []) := by
  obtain ⟨hx, hb, hr, hml, hown, hts, hX, hbl, hlocks, hgv⟩ := C0
  have hT : ∀ w ∈ tb, w.before #[Value.ref b] s = true := fun w h => hts w (tb_lw h)
  have hN : NWs s := fun w hw hn => va_Nw.of (by cases w <;> first | rfl | (simp [isNest] at hn; done)) (hts w hw)
  have hA : ∀ q : Nat, s.heap.size ≤ q → (fun q : Nat => s.heap.size ≤ q) q := fun _ h => h
  have hbA : ¬ (fun q : Nat => s.heap.size ≤ q) b := Nat.not_le.mpr hbl
  intro n
  induction n with
  | zero => intro cl σ μ a t a2 t2 H locs ls hI h1 h2; omega
  | succ n ih =>
    intro cl σ μ a t a2 t2 H locs ls hI hcl hn hK hP hD hS hl
    refine lv_iload_n hx hb d_L_law_18 rfl (lv_at hl 3 rfl) ?_
    refine lv_aload_n hx hb d_L_law_19 rfl (lv_at hl 0 rfl) ?_
    refine va_slen hx hb hX hbl hbA hS d_L_law_20 ?_
    refine lv_bipush (v := nI 6) hx hb d_L_law_21 (by decide) ?_
    refine lv_isub hx hb d_L_law_23 ?_
    refine lv_icmp_gt (tgt := 697) hx hb d_L_law_24 (by decide) (fun c24 => ?_) (fun c24 => ?_)
    · refine lv_iconst (v := 1) hx hb d_L_law_697 (by decide) ?_
      refine va_forget (fun q hq => hS.2.2 q hq) ?_
      exact lw_ret hx hb hr hlocks d_L_law_698
    · have hge : 6 * cl + 6 ≤ L := by
        rcases Nat.lt_or_ge L 6 with q | q
        · exact absurd (Int32.lt_of_lt_of_le (show nI L - nI 6 < 0 from pk_sneg (by decide) q) (nI_pos' (show 6 * cl < 2 ^ 31 by omega))) c24
        · rw [show Int32.ofNat L - nI 6 = nI (L - 6) from pk_sub q] at c24
          rcases Nat.lt_or_ge (L - 6) (6 * cl) with q2 | q2
          · exact absurd (nI_lt q2 (by omega)) c24
          · omega
      have hBs : BASE σ μ := base_of hI.1 (by omega)
      obtain ⟨hGA, hGM, hGL, hHE, hlc, hltA, ⟨rk, hrk⟩, hltM⟩ := id hBs
      refine lv_aload_n hx hb d_L_law_27 rfl (lv_at hl 0 rfl) ?_
      refine lv_iload_n hx hb d_L_law_28 rfl (lv_at hl 3 rfl) ?_
      refine x_sld hx hb hX hbl hbA hS (n := 6 * cl) (by omega) (by omega) d_L_law_29 ?_
      refine lv_bipush (v := nI 15) hx hb d_L_law_30 (by decide) ?_
      refine lv_iand hx hb d_L_law_32 ?_
      obtain ⟨kd, hkd, ekd⟩ := pk_andE (xs (6 * cl)) (m := nI 15) 4 (by decide)
      rw [ekd]
      have hkd16 : kd < 16 := hkd
      rcases (show kd = 0 ∨ kd = 1 ∨ kd = 2 ∨ kd = 3 ∨ kd = 4 ∨ kd = 5 ∨ kd = 6 ∨ kd = 7 ∨ kd = 8 ∨ kd = 9 ∨ kd = 10 ∨ kd = 11 ∨ kd = 12 ∨ kd = 13 ∨ kd = 14 ∨ kd = 15 by omega) with rfl | rfl | rfl | rfl | rfl | rfl | rfl | rfl | rfl | rfl | rfl | rfl | rfl | rfl | rfl | rfl
      · refine lv_tableIn (off := 75) (tgt := 108) hx hb d_L_law_33 (by decide) (by decide) (by decide) (by decide) ?_
        refine lv_aload_n hx hb d_L_law_108 rfl (lv_at hl 1 rfl) ?_
        refine lv_aload_n hx hb d_L_law_109 rfl (lv_at hl 0 rfl) ?_
        refine lv_iload_n hx hb d_L_law_110 rfl (lv_at hl 3 rfl) ?_
        refine lv_iconst (v := nI 1) hx hb d_L_law_111 (by decide) ?_
        refine x_iadd hx hb d_L_law_112 ?_
        refine x_sld hx hb hX hbl hbA hS (n := (6 * cl) + 1) (by omega) (by omega) d_L_law_113 ?_
        refine x_Llv (wl := wA a t) (x_runV ⟨hx, hb, hml, hown, hT⟩ (c_A_sign l dC dI a t σ H.size hGA ((xs ((6 * cl) + 1)))) f_A_sign k_L_13 blM (va_recv (K_l hK) (P_l hP) (ci := 6) (q0 := 0) rfl rfl) (x_bM (K_l hK) (P_l hP) hN (D_l hD)) hl.1 d_L_law_114 rfl (lv_room (Nat.le_of_ble_eq_true rfl)) ⟨Nat.le_of_ble_eq_true rfl, Nat.le_of_ble_eq_true rfl⟩ ⟨rfl, rfl⟩ ⟨Nat.le_of_ble_eq_true rfl, Nat.le_of_ble_eq_true rfl⟩ rfl) hP hD hS hA (fun σ2 H locs qA hP hD hS => ?_)
        refine lv_aload_n hx hb d_L_law_117 rfl (lv_at hl 2 rfl) ?_
        refine lv_aload_n hx hb d_L_law_118 rfl (lv_at hl 0 rfl) ?_
        refine lv_iload_n hx hb d_L_law_119 rfl (lv_at hl 3 rfl) ?_
        refine lv_iconst (v := nI 1) hx hb d_L_law_120 (by decide) ?_
        refine x_iadd hx hb d_L_law_121 ?_
        refine x_sld hx hb hX hbl hbA hS (n := (6 * cl) + 1) (by omega) (by omega) d_L_law_122 ?_
        refine x_Lrv (wl := wM a2 t2) (x_runV ⟨hx, hb, hml, hown, hT⟩ (c_M_sign l dC dI a2 t2 μ H.size hGM ((xs ((6 * cl) + 1)))) f_M_sign k_L_17 blM (va_recv (K_r hK) (P_r hP) (ci := 7) (q0 := 0) rfl rfl) (x_bM (K_r hK) (P_r hP) hN (D_r hD)) hl.1 d_L_law_123 rfl (lv_room (Nat.le_of_ble_eq_true rfl)) ⟨Nat.le_of_ble_eq_true rfl, Nat.le_of_ble_eq_true rfl⟩ ⟨rfl, rfl⟩ ⟨Nat.le_of_ble_eq_true rfl, Nat.le_of_ble_eq_true rfl⟩ rfl) hP hD hS hA (fun μ2 H locs qM hP hD hS => ?_)
        refine lv_goto (tgt := 691) hx hb d_L_law_126 (by decide) ?_
        have htie := tie_sign0 hI.1 qA qM
        refine lv_iinc (v := nI (6 * cl + 6)) (lv' := [(3, .int (nI (6 * cl + 6))), (0, .ref b), (1, .ref (a 0)), (2, .ref (a2 0))]) hx hb d_L_law_691 hl (k := 3) rfl (nI_add (6 * cl) 6) (by decide) rfl (fun ls hl => ?_)
        refine lv_goto (tgt := 18) hx hb d_L_law_694 (by decide) ?_
        exact ih (cl + 1) σ2 μ2 a t a2 t2 H locs ls ⟨htie, ns_sign hI.2 qM⟩ (by omega) (by omega) hK hP hD hS (lv_sub hl [1, 2, 3, 0] rfl)
      · refine lv_tableIn (off := 96) (tgt := 129) hx hb d_L_law_33 (by decide) (by decide) (by decide) (by decide) ?_
        refine lv_aload_n hx hb d_L_law_129 rfl (lv_at hl 1 rfl) ?_
        refine lv_aload_n hx hb d_L_law_130 rfl (lv_at hl 0 rfl) ?_
        refine lv_iload_n hx hb d_L_law_131 rfl (lv_at hl 3 rfl) ?_
        refine lv_iconst (v := nI 1) hx hb d_L_law_132 (by decide) ?_
        refine x_iadd hx hb d_L_law_133 ?_
        refine x_sld hx hb hX hbl hbA hS (n := (6 * cl) + 1) (by omega) (by omega) d_L_law_134 ?_
        refine x_Lli (wl := wA a t) (x_runV ⟨hx, hb, hml, hown, hT⟩ (c_A_heading l dC dI a t σ H.size hGA ((xs ((6 * cl) + 1)))) f_A_heading k_L_18 blM (va_recv (K_l hK) (P_l hP) (ci := 6) (q0 := 0) rfl rfl) (x_bM (K_l hK) (P_l hP) hN (D_l hD)) hl.1 d_L_law_135 rfl (lv_room (Nat.le_of_ble_eq_true rfl)) ⟨Nat.le_of_ble_eq_true rfl, Nat.le_of_ble_eq_true rfl⟩ ⟨rfl, rfl⟩ ⟨Nat.le_of_ble_eq_true rfl, Nat.le_of_ble_eq_true rfl⟩ rfl) hP hD hS hA (fun rA σ2 H locs qA hP hD hS => ?_)
        refine lv_pop hx hb d_L_law_138 rfl ?_
        refine lv_aload_n hx hb d_L_law_139 rfl (lv_at hl 2 rfl) ?_
        refine lv_aload_n hx hb d_L_law_140 rfl (lv_at hl 0 rfl) ?_
        refine lv_iload_n hx hb d_L_law_141 rfl (lv_at hl 3 rfl) ?_
        refine lv_iconst (v := nI 1) hx hb d_L_law_142 (by decide) ?_
        refine x_iadd hx hb d_L_law_143 ?_
        refine x_sld hx hb hX hbl hbA hS (n := (6 * cl) + 1) (by omega) (by omega) d_L_law_144 ?_
        refine x_Lri (wl := wM a2 t2) (x_runV ⟨hx, hb, hml, hown, hT⟩ (c_M_heading l dC dI a2 t2 μ H.size hGM ((xs ((6 * cl) + 1)))) f_M_heading k_L_22 blM (va_recv (K_r hK) (P_r hP) (ci := 7) (q0 := 0) rfl rfl) (x_bM (K_r hK) (P_r hP) hN (D_r hD)) hl.1 d_L_law_145 rfl (lv_room (Nat.le_of_ble_eq_true rfl)) ⟨Nat.le_of_ble_eq_true rfl, Nat.le_of_ble_eq_true rfl⟩ ⟨rfl, rfl⟩ ⟨Nat.le_of_ble_eq_true rfl, Nat.le_of_ble_eq_true rfl⟩ rfl) hP hD hS hA (fun rM μ2 H locs qM hP hD hS => ?_)
        refine lv_pop hx hb d_L_law_148 rfl ?_
        refine lv_goto (tgt := 691) hx hb d_L_law_149 (by decide) ?_
        have htie := tie_heading0 hI.1 qA qM
        refine lv_iinc (v := nI (6 * cl + 6)) (lv' := [(3, .int (nI (6 * cl + 6))), (0, .ref b), (1, .ref (a 0)), (2, .ref (a2 0))]) hx hb d_L_law_691 hl (k := 3) rfl (nI_add (6 * cl) 6) (by decide) rfl (fun ls hl => ?_)
        refine lv_goto (tgt := 18) hx hb d_L_law_694 (by decide) ?_
        exact ih (cl + 1) σ2 μ2 a t a2 t2 H locs ls ⟨htie.1, ns_heading hI.2 qM⟩ (by omega) (by omega) hK hP hD hS (lv_sub hl [1, 2, 3, 0] rfl)
      · refine lv_tableIn (off := 119) (tgt := 152) hx hb d_L_law_33 (by decide) (by decide) (by decide) (by decide) ?_
        refine lv_aload_n hx hb d_L_law_152 rfl (lv_at hl 1 rfl) ?_
        refine lv_aload_n hx hb d_L_law_153 rfl (lv_at hl 0 rfl) ?_
        refine lv_iload_n hx hb d_L_law_154 rfl (lv_at hl 3 rfl) ?_
        refine lv_iconst (v := nI 1) hx hb d_L_law_155 (by decide) ?_
        refine x_iadd hx hb d_L_law_156 ?_
        refine x_sld hx hb hX hbl hbA hS (n := (6 * cl) + 1) (by omega) (by omega) d_L_law_157 ?_
        refine lv_aload_n hx hb d_L_law_158 rfl (lv_at hl 0 rfl) ?_
        refine lv_iload_n hx hb d_L_law_159 rfl (lv_at hl 3 rfl) ?_
        refine lv_iconst (v := nI 2) hx hb d_L_law_160 (by decide) ?_
        refine x_iadd hx hb d_L_law_161 ?_
        refine x_sld hx hb hX hbl hbA hS (n := (6 * cl) + 2) (by omega) (by omega) d_L_law_162 ?_
        refine lv_aload_n hx hb d_L_law_163 rfl (lv_at hl 0 rfl) ?_
        refine lv_iload_n hx hb d_L_law_164 rfl (lv_at hl 3 rfl) ?_
        refine lv_iconst (v := nI 3) hx hb d_L_law_165 (by decide) ?_
        refine x_iadd hx hb d_L_law_166 ?_
        refine x_sld hx hb hX hbl hbA hS (n := (6 * cl) + 3) (by omega) (by omega) d_L_law_167 ?_
        refine lv_aload_n hx hb d_L_law_168 rfl (lv_at hl 0 rfl) ?_
        refine lv_iload_n hx hb d_L_law_169 rfl (lv_at hl 3 rfl) ?_
        refine lv_iconst (v := nI 4) hx hb d_L_law_170 (by decide) ?_
        refine x_iadd hx hb d_L_law_171 ?_
        refine x_sld hx hb hX hbl hbA hS (n := (6 * cl) + 4) (by omega) (by omega) d_L_law_172 ?_
        refine lv_i2l (v := (xs ((6 * cl) + 4)).toInt64) hx hb d_L_law_173 rfl ?_
        refine lv_bipush (v := nI 32) hx hb d_L_law_174 (by decide) ?_
        refine lv_lshl (v := ((xs ((6 * cl) + 4)).toInt64) <<< ((nI 32).toInt64 &&& 63)) hx hb d_L_law_176 rfl ?_
        refine lv_aload_n hx hb d_L_law_177 rfl (lv_at hl 0 rfl) ?_
        refine lv_iload_n hx hb d_L_law_178 rfl (lv_at hl 3 rfl) ?_
        refine lv_iconst (v := nI 5) hx hb d_L_law_179 (by decide) ?_
        refine x_iadd hx hb d_L_law_180 ?_
        refine x_sld hx hb hX hbl hbA hS (n := (6 * cl) + 5) (by omega) (by omega) d_L_law_181 ?_
        refine lv_i2l (v := (xs ((6 * cl) + 5)).toInt64) hx hb d_L_law_182 rfl ?_
        refine lv_ldc2 (v := 4294967295) hx hb hown (hT _ k_L_23) d_L_law_183 ?_
        refine lv_land hx hb d_L_law_186 ?_
        refine lv_lor hx hb d_L_law_187 ?_
        refine x_Lli (wl := wA a t) (x_runV ⟨hx, hb, hml, hown, hT⟩ (c_A_link l dC dI a t σ H.size hGA ((xs ((6 * cl) + 1))) ((xs ((6 * cl) + 2))) ((xs ((6 * cl) + 3))) ((((xs ((6 * cl) + 4)).toInt64) <<< ((nI 32).toInt64 &&& 63)) ||| (((xs ((6 * cl) + 5)).toInt64) &&& ((4294967295)))) hlc) f_A_link k_L_25 blM (va_recv (K_l hK) (P_l hP) (ci := 6) (q0 := 0) rfl rfl) (x_bM (K_l hK) (P_l hP) hN (D_l hD)) hl.1 d_L_law_188 rfl (lv_room (Nat.le_of_ble_eq_true rfl)) ⟨Nat.le_of_ble_eq_true rfl, Nat.le_of_ble_eq_true rfl⟩ ⟨rfl, rfl⟩ ⟨Nat.le_of_ble_eq_true rfl, Nat.le_of_ble_eq_true rfl⟩ rfl) hP hD hS hA (fun rA σ2 H locs qA hP hD hS => ?_)
        refine lv_pop hx hb d_L_law_191 rfl ?_
        refine lv_aload_n hx hb d_L_law_192 rfl (lv_at hl 2 rfl) ?_
        refine lv_aload_n hx hb d_L_law_193 rfl (lv_at hl 0 rfl) ?_
        refine lv_iload_n hx hb d_L_law_194 rfl (lv_at hl 3 rfl) ?_
        refine lv_iconst (v := nI 1) hx hb d_L_law_195 (by decide) ?_
        refine x_iadd hx hb d_L_law_196 ?_
        refine x_sld hx hb hX hbl hbA hS (n := (6 * cl) + 1) (by omega) (by omega) d_L_law_197 ?_
        refine lv_aload_n hx hb d_L_law_198 rfl (lv_at hl 0 rfl) ?_
        refine lv_iload_n hx hb d_L_law_199 rfl (lv_at hl 3 rfl) ?_
        refine lv_iconst (v := nI 2) hx hb d_L_law_200 (by decide) ?_
        refine x_iadd hx hb d_L_law_201 ?_
        refine x_sld hx hb hX hbl hbA hS (n := (6 * cl) + 2) (by omega) (by omega) d_L_law_202 ?_
        refine lv_aload_n hx hb d_L_law_203 rfl (lv_at hl 0 rfl) ?_
        refine lv_iload_n hx hb d_L_law_204 rfl (lv_at hl 3 rfl) ?_
        refine lv_iconst (v := nI 3) hx hb d_L_law_205 (by decide) ?_
        refine x_iadd hx hb d_L_law_206 ?_
        refine x_sld hx hb hX hbl hbA hS (n := (6 * cl) + 3) (by omega) (by omega) d_L_law_207 ?_
        refine lv_aload_n hx hb d_L_law_208 rfl (lv_at hl 0 rfl) ?_
        refine lv_iload_n hx hb d_L_law_209 rfl (lv_at hl 3 rfl) ?_
        refine lv_iconst (v := nI 4) hx hb d_L_law_210 (by decide) ?_
        refine x_iadd hx hb d_L_law_211 ?_
        refine x_sld hx hb hX hbl hbA hS (n := (6 * cl) + 4) (by omega) (by omega) d_L_law_212 ?_
        refine lv_i2l (v := (xs ((6 * cl) + 4)).toInt64) hx hb d_L_law_213 rfl ?_
        refine lv_bipush (v := nI 32) hx hb d_L_law_214 (by decide) ?_
        refine lv_lshl (v := ((xs ((6 * cl) + 4)).toInt64) <<< ((nI 32).toInt64 &&& 63)) hx hb d_L_law_216 rfl ?_
        refine lv_aload_n hx hb d_L_law_217 rfl (lv_at hl 0 rfl) ?_
        refine lv_iload_n hx hb d_L_law_218 rfl (lv_at hl 3 rfl) ?_
        refine lv_iconst (v := nI 5) hx hb d_L_law_219 (by decide) ?_
        refine x_iadd hx hb d_L_law_220 ?_
        refine x_sld hx hb hX hbl hbA hS (n := (6 * cl) + 5) (by omega) (by omega) d_L_law_221 ?_
        refine lv_i2l (v := (xs ((6 * cl) + 5)).toInt64) hx hb d_L_law_222 rfl ?_
        refine lv_ldc2 (v := 4294967295) hx hb hown (hT _ k_L_23) d_L_law_223 ?_
        refine lv_land hx hb d_L_law_226 ?_
        refine lv_lor hx hb d_L_law_227 ?_
        refine x_Lri (wl := wM a2 t2) (x_runV ⟨hx, hb, hml, hown, hT⟩ (c_M_link l dC dI a2 t2 μ H.size hGM hGL hHE ((xs ((6 * cl) + 1))) ((xs ((6 * cl) + 2))) ((xs ((6 * cl) + 3))) ((((xs ((6 * cl) + 4)).toInt64) <<< ((nI 32).toInt64 &&& 63)) ||| (((xs ((6 * cl) + 5)).toInt64) &&& ((4294967295))))) f_M_link k_L_29 blM (va_recv (K_r hK) (P_r hP) (ci := 7) (q0 := 0) rfl rfl) (x_bM (K_r hK) (P_r hP) hN (D_r hD)) hl.1 d_L_law_228 rfl (lv_room (Nat.le_of_ble_eq_true rfl)) ⟨Nat.le_of_ble_eq_true rfl, Nat.le_of_ble_eq_true rfl⟩ ⟨rfl, rfl⟩ ⟨Nat.le_of_ble_eq_true rfl, Nat.le_of_ble_eq_true rfl⟩ rfl) hP hD hS hA (fun rM μ2 H locs qM hP hD hS => ?_)
        refine lv_pop hx hb d_L_law_231 rfl ?_
        refine lv_goto (tgt := 691) hx hb d_L_law_232 (by decide) ?_
        have htie := tie_link0 hI.1 (by omega) qA qM
        refine lv_iinc (v := nI (6 * cl + 6)) (lv' := [(3, .int (nI (6 * cl + 6))), (0, .ref b), (1, .ref (a 0)), (2, .ref (a2 0))]) hx hb d_L_law_691 hl (k := 3) rfl (nI_add (6 * cl) 6) (by decide) rfl (fun ls hl => ?_)
        refine lv_goto (tgt := 18) hx hb d_L_law_694 (by decide) ?_
        exact ih (cl + 1) σ2 μ2 a t a2 t2 H locs ls ⟨htie.1, ns_link hI.2 qM⟩ (by omega) (by omega) hK hP hD hS (lv_sub hl [1, 2, 3, 0] rfl)
      · refine lv_tableIn (off := 202) (tgt := 235) hx hb d_L_law_33 (by decide) (by decide) (by decide) (by decide) ?_
        refine lv_aload_n hx hb d_L_law_235 rfl (lv_at hl 1 rfl) ?_
        refine lv_aload_n hx hb d_L_law_236 rfl (lv_at hl 0 rfl) ?_
        refine lv_iload_n hx hb d_L_law_237 rfl (lv_at hl 3 rfl) ?_
        refine lv_iconst (v := nI 1) hx hb d_L_law_238 (by decide) ?_
        refine x_iadd hx hb d_L_law_239 ?_
        refine x_sld hx hb hX hbl hbA hS (n := (6 * cl) + 1) (by omega) (by omega) d_L_law_240 ?_
        refine x_Lli (wl := wA a t) (x_runV ⟨hx, hb, hml, hown, hT⟩ (c_A_rename l dC dI a t σ H.size hGA ((xs ((6 * cl) + 1)))) f_A_rename k_L_30 blM (va_recv (K_l hK) (P_l hP) (ci := 6) (q0 := 0) rfl rfl) (x_bM (K_l hK) (P_l hP) hN (D_l hD)) hl.1 d_L_law_241 rfl (lv_room (Nat.le_of_ble_eq_true rfl)) ⟨Nat.le_of_ble_eq_true rfl, Nat.le_of_ble_eq_true rfl⟩ ⟨rfl, rfl⟩ ⟨Nat.le_of_ble_eq_true rfl, Nat.le_of_ble_eq_true rfl⟩ rfl) hP hD hS hA (fun rA σ2 H locs qA hP hD hS => ?_)
        refine lv_pop hx hb d_L_law_244 rfl ?_
        refine lv_aload_n hx hb d_L_law_245 rfl (lv_at hl 2 rfl) ?_
        refine lv_aload_n hx hb d_L_law_246 rfl (lv_at hl 0 rfl) ?_
        refine lv_iload_n hx hb d_L_law_247 rfl (lv_at hl 3 rfl) ?_
        refine lv_iconst (v := nI 1) hx hb d_L_law_248 (by decide) ?_
        refine x_iadd hx hb d_L_law_249 ?_
        refine x_sld hx hb hX hbl hbA hS (n := (6 * cl) + 1) (by omega) (by omega) d_L_law_250 ?_
        refine x_Lri (wl := wM a2 t2) (x_runV ⟨hx, hb, hml, hown, hT⟩ (c_M_rename l dC dI a2 t2 μ H.size hGM ((xs ((6 * cl) + 1)))) f_M_rename k_L_33 blM (va_recv (K_r hK) (P_r hP) (ci := 7) (q0 := 0) rfl rfl) (x_bM (K_r hK) (P_r hP) hN (D_r hD)) hl.1 d_L_law_251 rfl (lv_room (Nat.le_of_ble_eq_true rfl)) ⟨Nat.le_of_ble_eq_true rfl, Nat.le_of_ble_eq_true rfl⟩ ⟨rfl, rfl⟩ ⟨Nat.le_of_ble_eq_true rfl, Nat.le_of_ble_eq_true rfl⟩ rfl) hP hD hS hA (fun rM μ2 H locs qM hP hD hS => ?_)
        refine lv_pop hx hb d_L_law_254 rfl ?_
        refine lv_goto (tgt := 691) hx hb d_L_law_255 (by decide) ?_
        have htie := tie_rename0 hI.1 qA qM
        refine lv_iinc (v := nI (6 * cl + 6)) (lv' := [(3, .int (nI (6 * cl + 6))), (0, .ref b), (1, .ref (a 0)), (2, .ref (a2 0))]) hx hb d_L_law_691 hl (k := 3) rfl (nI_add (6 * cl) 6) (by decide) rfl (fun ls hl => ?_)
        refine lv_goto (tgt := 18) hx hb d_L_law_694 (by decide) ?_
        exact ih (cl + 1) σ2 μ2 a t a2 t2 H locs ls ⟨htie.1, ns_rename hI.2 qM⟩ (by omega) (by omega) hK hP hD hS (lv_sub hl [1, 2, 3, 0] rfl)
      · refine lv_tableIn (off := 225) (tgt := 258) hx hb d_L_law_33 (by decide) (by decide) (by decide) (by decide) ?_
        refine lv_aload_n hx hb d_L_law_258 rfl (lv_at hl 1 rfl) ?_
        refine x_Lli (wl := wA a t) (x_runV ⟨hx, hb, hml, hown, hT⟩ (c_A_find l dC dI a t σ H.size hGA) f_A_find k_L_34 blM (va_recv (K_l hK) (P_l hP) (ci := 6) (q0 := 0) rfl rfl) (x_bM (K_l hK) (P_l hP) hN (D_l hD)) hl.1 d_L_law_259 rfl (lv_room (Nat.le_of_ble_eq_true rfl)) ⟨Nat.le_of_ble_eq_true rfl, Nat.le_of_ble_eq_true rfl⟩ ⟨rfl, rfl⟩ ⟨Nat.le_of_ble_eq_true rfl, Nat.le_of_ble_eq_true rfl⟩ rfl) hP hD hS hA (fun rA σ2 H locs qA hP hD hS => ?_)
        refine lv_pop hx hb d_L_law_262 rfl ?_
        refine lv_aload_n hx hb d_L_law_263 rfl (lv_at hl 2 rfl) ?_
        refine x_Lri (wl := wM a2 t2) (x_runV ⟨hx, hb, hml, hown, hT⟩ (c_M_find l dC dI a2 t2 μ H.size hGM) f_M_find k_L_38 blM (va_recv (K_r hK) (P_r hP) (ci := 7) (q0 := 0) rfl rfl) (x_bM (K_r hK) (P_r hP) hN (D_r hD)) hl.1 d_L_law_264 rfl (lv_room (Nat.le_of_ble_eq_true rfl)) ⟨Nat.le_of_ble_eq_true rfl, Nat.le_of_ble_eq_true rfl⟩ ⟨rfl, rfl⟩ ⟨Nat.le_of_ble_eq_true rfl, Nat.le_of_ble_eq_true rfl⟩ rfl) hP hD hS hA (fun rM μ2 H locs qM hP hD hS => ?_)
        refine lv_pop hx hb d_L_law_267 rfl ?_
        refine lv_goto (tgt := 691) hx hb d_L_law_268 (by decide) ?_
        have htie := tie_find0 hI.1 qA qM
        refine lv_iinc (v := nI (6 * cl + 6)) (lv' := [(3, .int (nI (6 * cl + 6))), (0, .ref b), (1, .ref (a 0)), (2, .ref (a2 0))]) hx hb d_L_law_691 hl (k := 3) rfl (nI_add (6 * cl) 6) (by decide) rfl (fun ls hl => ?_)
        refine lv_goto (tgt := 18) hx hb d_L_law_694 (by decide) ?_
        exact ih (cl + 1) σ2 μ2 a t a2 t2 H locs ls ⟨htie.1, ns_find hI.2 qM⟩ (by omega) (by omega) hK hP hD hS (lv_sub hl [1, 2, 3, 0] rfl)
      · refine lv_tableIn (off := 238) (tgt := 271) hx hb d_L_law_33 (by decide) (by decide) (by decide) (by decide) ?_
        refine lv_aload_n hx hb d_L_law_271 rfl (lv_at hl 1 rfl) ?_
        refine lv_aload_n hx hb d_L_law_272 rfl (lv_at hl 0 rfl) ?_
        refine lv_iload_n hx hb d_L_law_273 rfl (lv_at hl 3 rfl) ?_
        refine lv_iconst (v := nI 1) hx hb d_L_law_274 (by decide) ?_
        refine x_iadd hx hb d_L_law_275 ?_
        refine x_sld hx hb hX hbl hbA hS (n := (6 * cl) + 1) (by omega) (by omega) d_L_law_276 ?_
        refine lv_aload_n hx hb d_L_law_277 rfl (lv_at hl 0 rfl) ?_
        refine lv_iload_n hx hb d_L_law_278 rfl (lv_at hl 3 rfl) ?_
        refine lv_iconst (v := nI 2) hx hb d_L_law_279 (by decide) ?_
        refine x_iadd hx hb d_L_law_280 ?_
        refine x_sld hx hb hX hbl hbA hS (n := (6 * cl) + 2) (by omega) (by omega) d_L_law_281 ?_
        refine x_ci (x_runV ⟨hx, hb, hml, hown, hT⟩ (c_A_see l dC dI a t σ hGA ((xs ((6 * cl) + 1))) ((xs ((6 * cl) + 2)))) f_A_see k_L_39 blR (va_recv (K_l hK) (P_l hP) (ci := 6) (q0 := 0) rfl rfl) (x_bR (K_l hK) (P_l hP) hN) hl.1 d_L_law_282 rfl (lv_room (Nat.le_of_ble_eq_true rfl)) ⟨Nat.le_of_ble_eq_true rfl, Nat.le_of_ble_eq_true rfl⟩ ⟨rfl, rfl⟩ ⟨Nat.le_of_ble_eq_true rfl, Nat.le_of_ble_eq_true rfl⟩ rfl) (fun rA qA => ?_)
        refine lv_pop hx hb d_L_law_285 rfl ?_
        refine lv_aload_n hx hb d_L_law_286 rfl (lv_at hl 2 rfl) ?_
        refine lv_aload_n hx hb d_L_law_287 rfl (lv_at hl 0 rfl) ?_
        refine lv_iload_n hx hb d_L_law_288 rfl (lv_at hl 3 rfl) ?_
        refine lv_iconst (v := nI 1) hx hb d_L_law_289 (by decide) ?_
        refine x_iadd hx hb d_L_law_290 ?_
        refine x_sld hx hb hX hbl hbA hS (n := (6 * cl) + 1) (by omega) (by omega) d_L_law_291 ?_
        refine lv_aload_n hx hb d_L_law_292 rfl (lv_at hl 0 rfl) ?_
        refine lv_iload_n hx hb d_L_law_293 rfl (lv_at hl 3 rfl) ?_
        refine lv_iconst (v := nI 2) hx hb d_L_law_294 (by decide) ?_
        refine x_iadd hx hb d_L_law_295 ?_
        refine x_sld hx hb hX hbl hbA hS (n := (6 * cl) + 2) (by omega) (by omega) d_L_law_296 ?_
        refine x_Lri (wl := wM a2 t2) (x_runV ⟨hx, hb, hml, hown, hT⟩ (c_M_see l dC dI a2 t2 μ H.size hGM hGL ((xs ((6 * cl) + 1))) ((xs ((6 * cl) + 2)))) f_M_see k_L_43 blM (va_recv (K_r hK) (P_r hP) (ci := 7) (q0 := 0) rfl rfl) (x_bM (K_r hK) (P_r hP) hN (D_r hD)) hl.1 d_L_law_297 rfl (lv_room (Nat.le_of_ble_eq_true rfl)) ⟨Nat.le_of_ble_eq_true rfl, Nat.le_of_ble_eq_true rfl⟩ ⟨rfl, rfl⟩ ⟨Nat.le_of_ble_eq_true rfl, Nat.le_of_ble_eq_true rfl⟩ rfl) hP hD hS hA (fun rM μ2 H locs qM hP hD hS => ?_)
        refine lv_pop hx hb d_L_law_300 rfl ?_
        refine lv_goto (tgt := 691) hx hb d_L_law_301 (by decide) ?_
        have htie := tie_see0 hI.1 qA qM
        refine lv_iinc (v := nI (6 * cl + 6)) (lv' := [(3, .int (nI (6 * cl + 6))), (0, .ref b), (1, .ref (a 0)), (2, .ref (a2 0))]) hx hb d_L_law_691 hl (k := 3) rfl (nI_add (6 * cl) 6) (by decide) rfl (fun ls hl => ?_)
        refine lv_goto (tgt := 18) hx hb d_L_law_694 (by decide) ?_
        exact ih (cl + 1) σ μ2 a t a2 t2 H locs ls ⟨htie.1, ns_see hI.2 qM⟩ (by omega) (by omega) hK hP hD hS (lv_sub hl [1, 2, 3, 0] rfl)
      · refine lv_tableIn (off := 271) (tgt := 304) hx hb d_L_law_33 (by decide) (by decide) (by decide) (by decide) ?_
        refine lv_aload_n hx hb d_L_law_304 rfl (lv_at hl 1 rfl) ?_
        refine lv_aload_n hx hb d_L_law_305 rfl (lv_at hl 0 rfl) ?_
        refine lv_iload_n hx hb d_L_law_306 rfl (lv_at hl 3 rfl) ?_
        refine lv_iconst (v := nI 1) hx hb d_L_law_307 (by decide) ?_
        refine x_iadd hx hb d_L_law_308 ?_
        refine x_sld hx hb hX hbl hbA hS (n := (6 * cl) + 1) (by omega) (by omega) d_L_law_309 ?_
        refine lv_aload_n hx hb d_L_law_310 rfl (lv_at hl 0 rfl) ?_
        refine lv_iload_n hx hb d_L_law_311 rfl (lv_at hl 3 rfl) ?_
        refine lv_iconst (v := nI 2) hx hb d_L_law_312 (by decide) ?_
        refine x_iadd hx hb d_L_law_313 ?_
        refine x_sld hx hb hX hbl hbA hS (n := (6 * cl) + 2) (by omega) (by omega) d_L_law_314 ?_
        refine x_ci (x_runV ⟨hx, hb, hml, hown, hT⟩ (c_A_broaderX l dC dI a t σ hGA ((xs ((6 * cl) + 1))) ((xs ((6 * cl) + 2))) (tb_of hI.1)) f_A_broader k_L_44 blR (va_recv (K_l hK) (P_l hP) (ci := 6) (q0 := 0) rfl rfl) (x_bR (K_l hK) (P_l hP) hN) hl.1 d_L_law_315 rfl (lv_room (Nat.le_of_ble_eq_true rfl)) ⟨Nat.le_of_ble_eq_true rfl, Nat.le_of_ble_eq_true rfl⟩ ⟨rfl, rfl⟩ ⟨Nat.le_of_ble_eq_true rfl, Nat.le_of_ble_eq_true rfl⟩ rfl) (fun rA qA => ?_)
        refine lv_aload_n hx hb d_L_law_318 rfl (lv_at hl 2 rfl) ?_
        refine lv_aload_n hx hb d_L_law_319 rfl (lv_at hl 0 rfl) ?_
        refine lv_iload_n hx hb d_L_law_320 rfl (lv_at hl 3 rfl) ?_
        refine lv_iconst (v := nI 1) hx hb d_L_law_321 (by decide) ?_
        refine x_iadd hx hb d_L_law_322 ?_
        refine x_sld hx hb hX hbl hbA hS (n := (6 * cl) + 1) (by omega) (by omega) d_L_law_323 ?_
        refine lv_aload_n hx hb d_L_law_324 rfl (lv_at hl 0 rfl) ?_
        refine lv_iload_n hx hb d_L_law_325 rfl (lv_at hl 3 rfl) ?_
        refine lv_iconst (v := nI 2) hx hb d_L_law_326 (by decide) ?_
        refine x_iadd hx hb d_L_law_327 ?_
        refine x_sld hx hb hX hbl hbA hS (n := (6 * cl) + 2) (by omega) (by omega) d_L_law_328 ?_
        refine x_Lri (wl := wM a2 t2) (x_runV ⟨hx, hb, hml, hown, hT⟩ (c_M_broader l dC dI a2 t2 μ H.size hGM hGL hHE ((xs ((6 * cl) + 1))) ((xs ((6 * cl) + 2)))) f_M_broader k_L_47 blM (va_recv (K_r hK) (P_r hP) (ci := 7) (q0 := 0) rfl rfl) (x_bM (K_r hK) (P_r hP) hN (D_r hD)) hl.1 d_L_law_329 rfl (lv_room (Nat.le_of_ble_eq_true rfl)) ⟨Nat.le_of_ble_eq_true rfl, Nat.le_of_ble_eq_true rfl⟩ ⟨rfl, rfl⟩ ⟨Nat.le_of_ble_eq_true rfl, Nat.le_of_ble_eq_true rfl⟩ rfl) hP hD hS hA (fun rM μ2 H locs qM hP hD hS => ?_)
        have htie := tie_broaderX hI.1 hI.2 qA qM
        refine lv_icmp_eq (tgt := 691) hx hb d_L_law_332 (by decide) (fun _ => ?_) (fun h9 => absurd htie.2 h9)
        refine lv_iinc (v := nI (6 * cl + 6)) (lv' := [(3, .int (nI (6 * cl + 6))), (0, .ref b), (1, .ref (a 0)), (2, .ref (a2 0))]) hx hb d_L_law_691 hl (k := 3) rfl (nI_add (6 * cl) 6) (by decide) rfl (fun ls hl => ?_)
        refine lv_goto (tgt := 18) hx hb d_L_law_694 (by decide) ?_
        exact ih (cl + 1) σ μ2 a t a2 t2 H locs ls ⟨htie.1, ns_broader hI.2 qM⟩ (by omega) (by omega) hK hP hD hS (lv_sub hl [1, 2, 3, 0] rfl)
      · refine lv_tableIn (off := 304) (tgt := 337) hx hb d_L_law_33 (by decide) (by decide) (by decide) (by decide) ?_
        refine lv_aload_n hx hb d_L_law_337 rfl (lv_at hl 1 rfl) ?_
        refine lv_aload_n hx hb d_L_law_338 rfl (lv_at hl 0 rfl) ?_
        refine lv_iload_n hx hb d_L_law_339 rfl (lv_at hl 3 rfl) ?_
        refine lv_iconst (v := nI 1) hx hb d_L_law_340 (by decide) ?_
        refine x_iadd hx hb d_L_law_341 ?_
        refine x_sld hx hb hX hbl hbA hS (n := (6 * cl) + 1) (by omega) (by omega) d_L_law_342 ?_
        refine x_Lli (wl := wA a t) (x_runV ⟨hx, hb, hml, hown, hT⟩ (c_A_delete l dC dI a t σ H.size hGA ((xs ((6 * cl) + 1)))) f_A_delete k_L_48 blM (va_recv (K_l hK) (P_l hP) (ci := 6) (q0 := 0) rfl rfl) (x_bM (K_l hK) (P_l hP) hN (D_l hD)) hl.1 d_L_law_343 rfl (lv_room (Nat.le_of_ble_eq_true rfl)) ⟨Nat.le_of_ble_eq_true rfl, Nat.le_of_ble_eq_true rfl⟩ ⟨rfl, rfl⟩ ⟨Nat.le_of_ble_eq_true rfl, Nat.le_of_ble_eq_true rfl⟩ rfl) hP hD hS hA (fun rA σ2 H locs qA hP hD hS => ?_)
        refine lv_pop hx hb d_L_law_346 rfl ?_
        refine lv_aload_n hx hb d_L_law_347 rfl (lv_at hl 2 rfl) ?_
        refine lv_aload_n hx hb d_L_law_348 rfl (lv_at hl 0 rfl) ?_
        refine lv_iload_n hx hb d_L_law_349 rfl (lv_at hl 3 rfl) ?_
        refine lv_iconst (v := nI 1) hx hb d_L_law_350 (by decide) ?_
        refine x_iadd hx hb d_L_law_351 ?_
        refine x_sld hx hb hX hbl hbA hS (n := (6 * cl) + 1) (by omega) (by omega) d_L_law_352 ?_
        refine x_Lri (wl := wM a2 t2) (x_runV ⟨hx, hb, hml, hown, hT⟩ (c_M_delete l dC dI a2 t2 μ H.size hGM hGL ((xs ((6 * cl) + 1)))) f_M_delete k_L_51 blM (va_recv (K_r hK) (P_r hP) (ci := 7) (q0 := 0) rfl rfl) (x_bM (K_r hK) (P_r hP) hN (D_r hD)) hl.1 d_L_law_353 rfl (lv_room (Nat.le_of_ble_eq_true rfl)) ⟨Nat.le_of_ble_eq_true rfl, Nat.le_of_ble_eq_true rfl⟩ ⟨rfl, rfl⟩ ⟨Nat.le_of_ble_eq_true rfl, Nat.le_of_ble_eq_true rfl⟩ rfl) hP hD hS hA (fun rM μ2 H locs qM hP hD hS => ?_)
        refine lv_pop hx hb d_L_law_356 rfl ?_
        refine lv_goto (tgt := 691) hx hb d_L_law_357 (by decide) ?_
        have htie := tie_delete0 hI.1 qA qM
        refine lv_iinc (v := nI (6 * cl + 6)) (lv' := [(3, .int (nI (6 * cl + 6))), (0, .ref b), (1, .ref (a 0)), (2, .ref (a2 0))]) hx hb d_L_law_691 hl (k := 3) rfl (nI_add (6 * cl) 6) (by decide) rfl (fun ls hl => ?_)
        refine lv_goto (tgt := 18) hx hb d_L_law_694 (by decide) ?_
        exact ih (cl + 1) σ2 μ2 a t a2 t2 H locs ls ⟨htie.1, ns_delete hI.2 qM⟩ (by omega) (by omega) hK hP hD hS (lv_sub hl [1, 2, 3, 0] rfl)
      · refine lv_tableIn (off := 327) (tgt := 360) hx hb d_L_law_33 (by decide) (by decide) (by decide) (by decide) ?_
        refine lv_aload_n hx hb d_L_law_360 rfl (lv_at hl 1 rfl) ?_
        refine lv_aload_n hx hb d_L_law_361 rfl (lv_at hl 0 rfl) ?_
        refine lv_iload_n hx hb d_L_law_362 rfl (lv_at hl 3 rfl) ?_
        refine lv_iconst (v := nI 1) hx hb d_L_law_363 (by decide) ?_
        refine x_iadd hx hb d_L_law_364 ?_
        refine x_sld hx hb hX hbl hbA hS (n := (6 * cl) + 1) (by omega) (by omega) d_L_law_365 ?_
        refine lv_aload_n hx hb d_L_law_366 rfl (lv_at hl 0 rfl) ?_
        refine lv_iload_n hx hb d_L_law_367 rfl (lv_at hl 3 rfl) ?_
        refine lv_iconst (v := nI 2) hx hb d_L_law_368 (by decide) ?_
        refine x_iadd hx hb d_L_law_369 ?_
        refine x_sld hx hb hX hbl hbA hS (n := (6 * cl) + 2) (by omega) (by omega) d_L_law_370 ?_
        refine lv_i2l (v := (xs ((6 * cl) + 2)).toInt64) hx hb d_L_law_371 rfl ?_
        refine lv_bipush (v := nI 32) hx hb d_L_law_372 (by decide) ?_
        refine lv_lshl (v := ((xs ((6 * cl) + 2)).toInt64) <<< ((nI 32).toInt64 &&& 63)) hx hb d_L_law_374 rfl ?_
        refine lv_aload_n hx hb d_L_law_375 rfl (lv_at hl 0 rfl) ?_
        refine lv_iload_n hx hb d_L_law_376 rfl (lv_at hl 3 rfl) ?_
        refine lv_iconst (v := nI 3) hx hb d_L_law_377 (by decide) ?_
        refine x_iadd hx hb d_L_law_378 ?_
        refine x_sld hx hb hX hbl hbA hS (n := (6 * cl) + 3) (by omega) (by omega) d_L_law_379 ?_
        refine lv_i2l (v := (xs ((6 * cl) + 3)).toInt64) hx hb d_L_law_380 rfl ?_
        refine lv_ldc2 (v := 4294967295) hx hb hown (hT _ k_L_23) d_L_law_381 ?_
        refine lv_land hx hb d_L_law_384 ?_
        refine lv_lor hx hb d_L_law_385 ?_
        refine x_Lli (wl := wA a t) (x_runV ⟨hx, hb, hml, hown, hT⟩ (c_A_split l dC dI a t σ H.size hGA ((xs ((6 * cl) + 1))) ((((xs ((6 * cl) + 2)).toInt64) <<< ((nI 32).toInt64 &&& 63)) ||| (((xs ((6 * cl) + 3)).toInt64) &&& ((4294967295)))) hlc) f_A_split k_L_52 blM (va_recv (K_l hK) (P_l hP) (ci := 6) (q0 := 0) rfl rfl) (x_bM (K_l hK) (P_l hP) hN (D_l hD)) hl.1 d_L_law_386 rfl (lv_room (Nat.le_of_ble_eq_true rfl)) ⟨Nat.le_of_ble_eq_true rfl, Nat.le_of_ble_eq_true rfl⟩ ⟨rfl, rfl⟩ ⟨Nat.le_of_ble_eq_true rfl, Nat.le_of_ble_eq_true rfl⟩ rfl) hP hD hS hA (fun rA σ2 H locs qA hP hD hS => ?_)
        refine lv_pop hx hb d_L_law_389 rfl ?_
        refine lv_aload_n hx hb d_L_law_390 rfl (lv_at hl 2 rfl) ?_
        refine lv_aload_n hx hb d_L_law_391 rfl (lv_at hl 0 rfl) ?_
        refine lv_iload_n hx hb d_L_law_392 rfl (lv_at hl 3 rfl) ?_
        refine lv_iconst (v := nI 1) hx hb d_L_law_393 (by decide) ?_
        refine x_iadd hx hb d_L_law_394 ?_
        refine x_sld hx hb hX hbl hbA hS (n := (6 * cl) + 1) (by omega) (by omega) d_L_law_395 ?_
        refine lv_aload_n hx hb d_L_law_396 rfl (lv_at hl 0 rfl) ?_
        refine lv_iload_n hx hb d_L_law_397 rfl (lv_at hl 3 rfl) ?_
        refine lv_iconst (v := nI 2) hx hb d_L_law_398 (by decide) ?_
        refine x_iadd hx hb d_L_law_399 ?_
        refine x_sld hx hb hX hbl hbA hS (n := (6 * cl) + 2) (by omega) (by omega) d_L_law_400 ?_
        refine lv_i2l (v := (xs ((6 * cl) + 2)).toInt64) hx hb d_L_law_401 rfl ?_
        refine lv_bipush (v := nI 32) hx hb d_L_law_402 (by decide) ?_
        refine lv_lshl (v := ((xs ((6 * cl) + 2)).toInt64) <<< ((nI 32).toInt64 &&& 63)) hx hb d_L_law_404 rfl ?_
        refine lv_aload_n hx hb d_L_law_405 rfl (lv_at hl 0 rfl) ?_
        refine lv_iload_n hx hb d_L_law_406 rfl (lv_at hl 3 rfl) ?_
        refine lv_iconst (v := nI 3) hx hb d_L_law_407 (by decide) ?_
        refine x_iadd hx hb d_L_law_408 ?_
        refine x_sld hx hb hX hbl hbA hS (n := (6 * cl) + 3) (by omega) (by omega) d_L_law_409 ?_
        refine lv_i2l (v := (xs ((6 * cl) + 3)).toInt64) hx hb d_L_law_410 rfl ?_
        refine lv_ldc2 (v := 4294967295) hx hb hown (hT _ k_L_23) d_L_law_411 ?_
        refine lv_land hx hb d_L_law_414 ?_
        refine lv_lor hx hb d_L_law_415 ?_
        refine x_Lri (wl := wM a2 t2) (x_runV ⟨hx, hb, hml, hown, hT⟩ (c_M_split l dC dI a2 t2 μ H.size hGM ((xs ((6 * cl) + 1))) ((((xs ((6 * cl) + 2)).toInt64) <<< ((nI 32).toInt64 &&& 63)) ||| (((xs ((6 * cl) + 3)).toInt64) &&& ((4294967295))))) f_M_split k_L_56 blM (va_recv (K_r hK) (P_r hP) (ci := 7) (q0 := 0) rfl rfl) (x_bM (K_r hK) (P_r hP) hN (D_r hD)) hl.1 d_L_law_416 rfl (lv_room (Nat.le_of_ble_eq_true rfl)) ⟨Nat.le_of_ble_eq_true rfl, Nat.le_of_ble_eq_true rfl⟩ ⟨rfl, rfl⟩ ⟨Nat.le_of_ble_eq_true rfl, Nat.le_of_ble_eq_true rfl⟩ rfl) hP hD hS hA (fun rM μ2 H locs qM hP hD hS => ?_)
        refine lv_pop hx hb d_L_law_419 rfl ?_
        refine lv_goto (tgt := 691) hx hb d_L_law_420 (by decide) ?_
        have htie := tie_split0 hI.1 (by omega) qA qM
        refine lv_iinc (v := nI (6 * cl + 6)) (lv' := [(3, .int (nI (6 * cl + 6))), (0, .ref b), (1, .ref (a 0)), (2, .ref (a2 0))]) hx hb d_L_law_691 hl (k := 3) rfl (nI_add (6 * cl) 6) (by decide) rfl (fun ls hl => ?_)
        refine lv_goto (tgt := 18) hx hb d_L_law_694 (by decide) ?_
        exact ih (cl + 1) σ2 μ2 a t a2 t2 H locs ls ⟨htie.1, ns_split hI.2 qM⟩ (by omega) (by omega) hK hP hD hS (lv_sub hl [1, 2, 3, 0] rfl)
      · refine lv_tableIn (off := 390) (tgt := 423) hx hb d_L_law_33 (by decide) (by decide) (by decide) (by decide) ?_
        refine lv_aload_n hx hb d_L_law_423 rfl (lv_at hl 1 rfl) ?_
        refine lv_aload_n hx hb d_L_law_424 rfl (lv_at hl 0 rfl) ?_
        refine lv_iload_n hx hb d_L_law_425 rfl (lv_at hl 3 rfl) ?_
        refine lv_iconst (v := nI 1) hx hb d_L_law_426 (by decide) ?_
        refine x_iadd hx hb d_L_law_427 ?_
        refine x_sld hx hb hX hbl hbA hS (n := (6 * cl) + 1) (by omega) (by omega) d_L_law_428 ?_
        refine lv_aload_n hx hb d_L_law_429 rfl (lv_at hl 0 rfl) ?_
        refine lv_iload_n hx hb d_L_law_430 rfl (lv_at hl 3 rfl) ?_
        refine lv_iconst (v := nI 2) hx hb d_L_law_431 (by decide) ?_
        refine x_iadd hx hb d_L_law_432 ?_
        refine x_sld hx hb hX hbl hbA hS (n := (6 * cl) + 2) (by omega) (by omega) d_L_law_433 ?_
        refine lv_i2l (v := (xs ((6 * cl) + 2)).toInt64) hx hb d_L_law_434 rfl ?_
        refine lv_bipush (v := nI 32) hx hb d_L_law_435 (by decide) ?_
        refine lv_lshl (v := ((xs ((6 * cl) + 2)).toInt64) <<< ((nI 32).toInt64 &&& 63)) hx hb d_L_law_437 rfl ?_
        refine lv_aload_n hx hb d_L_law_438 rfl (lv_at hl 0 rfl) ?_
        refine lv_iload_n hx hb d_L_law_439 rfl (lv_at hl 3 rfl) ?_
        refine lv_iconst (v := nI 3) hx hb d_L_law_440 (by decide) ?_
        refine x_iadd hx hb d_L_law_441 ?_
        refine x_sld hx hb hX hbl hbA hS (n := (6 * cl) + 3) (by omega) (by omega) d_L_law_442 ?_
        refine lv_i2l (v := (xs ((6 * cl) + 3)).toInt64) hx hb d_L_law_443 rfl ?_
        refine lv_ldc2 (v := 4294967295) hx hb hown (hT _ k_L_23) d_L_law_444 ?_
        refine lv_land hx hb d_L_law_447 ?_
        refine lv_lor hx hb d_L_law_448 ?_
        refine x_ci (x_runV ⟨hx, hb, hml, hown, hT⟩ (c_A_shown l dC dI a t σ hGA ((xs ((6 * cl) + 1))) ((((xs ((6 * cl) + 2)).toInt64) <<< ((nI 32).toInt64 &&& 63)) ||| (((xs ((6 * cl) + 3)).toInt64) &&& ((4294967295)))) hltA) f_A_shown k_L_57 blR (va_recv (K_l hK) (P_l hP) (ci := 6) (q0 := 0) rfl rfl) (x_bR (K_l hK) (P_l hP) hN) hl.1 d_L_law_449 rfl (lv_room (Nat.le_of_ble_eq_true rfl)) ⟨Nat.le_of_ble_eq_true rfl, Nat.le_of_ble_eq_true rfl⟩ ⟨rfl, rfl⟩ ⟨Nat.le_of_ble_eq_true rfl, Nat.le_of_ble_eq_true rfl⟩ rfl) (fun rA qA => ?_)
        refine lv_pop hx hb d_L_law_452 rfl ?_
        refine lv_aload_n hx hb d_L_law_453 rfl (lv_at hl 2 rfl) ?_
        refine lv_aload_n hx hb d_L_law_454 rfl (lv_at hl 0 rfl) ?_
        refine lv_iload_n hx hb d_L_law_455 rfl (lv_at hl 3 rfl) ?_
        refine lv_iconst (v := nI 1) hx hb d_L_law_456 (by decide) ?_
        refine x_iadd hx hb d_L_law_457 ?_
        refine x_sld hx hb hX hbl hbA hS (n := (6 * cl) + 1) (by omega) (by omega) d_L_law_458 ?_
        refine lv_aload_n hx hb d_L_law_459 rfl (lv_at hl 0 rfl) ?_
        refine lv_iload_n hx hb d_L_law_460 rfl (lv_at hl 3 rfl) ?_
        refine lv_iconst (v := nI 2) hx hb d_L_law_461 (by decide) ?_
        refine x_iadd hx hb d_L_law_462 ?_
        refine x_sld hx hb hX hbl hbA hS (n := (6 * cl) + 2) (by omega) (by omega) d_L_law_463 ?_
        refine lv_i2l (v := (xs ((6 * cl) + 2)).toInt64) hx hb d_L_law_464 rfl ?_
        refine lv_bipush (v := nI 32) hx hb d_L_law_465 (by decide) ?_
        refine lv_lshl (v := ((xs ((6 * cl) + 2)).toInt64) <<< ((nI 32).toInt64 &&& 63)) hx hb d_L_law_467 rfl ?_
        refine lv_aload_n hx hb d_L_law_468 rfl (lv_at hl 0 rfl) ?_
        refine lv_iload_n hx hb d_L_law_469 rfl (lv_at hl 3 rfl) ?_
        refine lv_iconst (v := nI 3) hx hb d_L_law_470 (by decide) ?_
        refine x_iadd hx hb d_L_law_471 ?_
        refine x_sld hx hb hX hbl hbA hS (n := (6 * cl) + 3) (by omega) (by omega) d_L_law_472 ?_
        refine lv_i2l (v := (xs ((6 * cl) + 3)).toInt64) hx hb d_L_law_473 rfl ?_
        refine lv_ldc2 (v := 4294967295) hx hb hown (hT _ k_L_23) d_L_law_474 ?_
        refine lv_land hx hb d_L_law_477 ?_
        refine lv_lor hx hb d_L_law_478 ?_
        refine x_Lri (wl := wM a2 t2) (x_runV ⟨hx, hb, hml, hown, hT⟩ (c_M_shown l dC dI a2 t2 μ H.size hGM hGL ((xs ((6 * cl) + 1))) ((((xs ((6 * cl) + 2)).toInt64) <<< ((nI 32).toInt64 &&& 63)) ||| (((xs ((6 * cl) + 3)).toInt64) &&& ((4294967295)))) rk hrk hltM) f_M_shown k_L_60 blM (va_recv (K_r hK) (P_r hP) (ci := 7) (q0 := 0) rfl rfl) (x_bM (K_r hK) (P_r hP) hN (D_r hD)) hl.1 d_L_law_479 rfl (lv_room (Nat.le_of_ble_eq_true rfl)) ⟨Nat.le_of_ble_eq_true rfl, Nat.le_of_ble_eq_true rfl⟩ ⟨rfl, rfl⟩ ⟨Nat.le_of_ble_eq_true rfl, Nat.le_of_ble_eq_true rfl⟩ rfl) hP hD hS hA (fun rM μ2 H locs qM hP hD hS => ?_)
        refine lv_pop hx hb d_L_law_482 rfl ?_
        refine lv_goto (tgt := 691) hx hb d_L_law_483 (by decide) ?_
        have htie := tie_shown0 hI.1 qA qM
        refine lv_iinc (v := nI (6 * cl + 6)) (lv' := [(3, .int (nI (6 * cl + 6))), (0, .ref b), (1, .ref (a 0)), (2, .ref (a2 0))]) hx hb d_L_law_691 hl (k := 3) rfl (nI_add (6 * cl) 6) (by decide) rfl (fun ls hl => ?_)
        refine lv_goto (tgt := 18) hx hb d_L_law_694 (by decide) ?_
        exact ih (cl + 1) σ μ2 a t a2 t2 H locs ls ⟨htie.1, ns_shown hI.2 qM⟩ (by omega) (by omega) hK hP hD hS (lv_sub hl [1, 2, 3, 0] rfl)
      · refine lv_tableIn (off := 453) (tgt := 486) hx hb d_L_law_33 (by decide) (by decide) (by decide) (by decide) ?_
        refine lv_aload_n hx hb d_L_law_486 rfl (lv_at hl 1 rfl) ?_
        refine lv_aload_n hx hb d_L_law_487 rfl (lv_at hl 0 rfl) ?_
        refine lv_iload_n hx hb d_L_law_488 rfl (lv_at hl 3 rfl) ?_
        refine lv_iconst (v := nI 1) hx hb d_L_law_489 (by decide) ?_
        refine x_iadd hx hb d_L_law_490 ?_
        refine x_sld hx hb hX hbl hbA hS (n := (6 * cl) + 1) (by omega) (by omega) d_L_law_491 ?_
        refine lv_aload_n hx hb d_L_law_492 rfl (lv_at hl 0 rfl) ?_
        refine lv_iload_n hx hb d_L_law_493 rfl (lv_at hl 3 rfl) ?_
        refine lv_iconst (v := nI 2) hx hb d_L_law_494 (by decide) ?_
        refine x_iadd hx hb d_L_law_495 ?_
        refine x_sld hx hb hX hbl hbA hS (n := (6 * cl) + 2) (by omega) (by omega) d_L_law_496 ?_
        refine lv_i2l (v := (xs ((6 * cl) + 2)).toInt64) hx hb d_L_law_497 rfl ?_
        refine lv_bipush (v := nI 32) hx hb d_L_law_498 (by decide) ?_
        refine lv_lshl (v := ((xs ((6 * cl) + 2)).toInt64) <<< ((nI 32).toInt64 &&& 63)) hx hb d_L_law_500 rfl ?_
        refine lv_aload_n hx hb d_L_law_501 rfl (lv_at hl 0 rfl) ?_
        refine lv_iload_n hx hb d_L_law_502 rfl (lv_at hl 3 rfl) ?_
        refine lv_iconst (v := nI 3) hx hb d_L_law_503 (by decide) ?_
        refine x_iadd hx hb d_L_law_504 ?_
        refine x_sld hx hb hX hbl hbA hS (n := (6 * cl) + 3) (by omega) (by omega) d_L_law_505 ?_
        refine lv_i2l (v := (xs ((6 * cl) + 3)).toInt64) hx hb d_L_law_506 rfl ?_
        refine lv_ldc2 (v := 4294967295) hx hb hown (hT _ k_L_23) d_L_law_507 ?_
        refine lv_land hx hb d_L_law_510 ?_
        refine lv_lor hx hb d_L_law_511 ?_
        refine x_Lli (wl := wA a t) (x_runV ⟨hx, hb, hml, hown, hT⟩ (c_A_record l dC dI a t σ H.size hGA ((xs ((6 * cl) + 1))) ((((xs ((6 * cl) + 2)).toInt64) <<< ((nI 32).toInt64 &&& 63)) ||| (((xs ((6 * cl) + 3)).toInt64) &&& ((4294967295))))) f_A_record k_L_61 blM (va_recv (K_l hK) (P_l hP) (ci := 6) (q0 := 0) rfl rfl) (x_bM (K_l hK) (P_l hP) hN (D_l hD)) hl.1 d_L_law_512 rfl (lv_room (Nat.le_of_ble_eq_true rfl)) ⟨Nat.le_of_ble_eq_true rfl, Nat.le_of_ble_eq_true rfl⟩ ⟨rfl, rfl⟩ ⟨Nat.le_of_ble_eq_true rfl, Nat.le_of_ble_eq_true rfl⟩ rfl) hP hD hS hA (fun rA σ2 H locs qA hP hD hS => ?_)
        refine lv_pop hx hb d_L_law_515 rfl ?_
        refine lv_aload_n hx hb d_L_law_516 rfl (lv_at hl 2 rfl) ?_
        refine lv_aload_n hx hb d_L_law_517 rfl (lv_at hl 0 rfl) ?_
        refine lv_iload_n hx hb d_L_law_518 rfl (lv_at hl 3 rfl) ?_
        refine lv_iconst (v := nI 1) hx hb d_L_law_519 (by decide) ?_
        refine x_iadd hx hb d_L_law_520 ?_
        refine x_sld hx hb hX hbl hbA hS (n := (6 * cl) + 1) (by omega) (by omega) d_L_law_521 ?_
        refine lv_aload_n hx hb d_L_law_522 rfl (lv_at hl 0 rfl) ?_
        refine lv_iload_n hx hb d_L_law_523 rfl (lv_at hl 3 rfl) ?_
        refine lv_iconst (v := nI 2) hx hb d_L_law_524 (by decide) ?_
        refine x_iadd hx hb d_L_law_525 ?_
        refine x_sld hx hb hX hbl hbA hS (n := (6 * cl) + 2) (by omega) (by omega) d_L_law_526 ?_
        refine lv_i2l (v := (xs ((6 * cl) + 2)).toInt64) hx hb d_L_law_527 rfl ?_
        refine lv_bipush (v := nI 32) hx hb d_L_law_528 (by decide) ?_
        refine lv_lshl (v := ((xs ((6 * cl) + 2)).toInt64) <<< ((nI 32).toInt64 &&& 63)) hx hb d_L_law_530 rfl ?_
        refine lv_aload_n hx hb d_L_law_531 rfl (lv_at hl 0 rfl) ?_
        refine lv_iload_n hx hb d_L_law_532 rfl (lv_at hl 3 rfl) ?_
        refine lv_iconst (v := nI 3) hx hb d_L_law_533 (by decide) ?_
        refine x_iadd hx hb d_L_law_534 ?_
        refine x_sld hx hb hX hbl hbA hS (n := (6 * cl) + 3) (by omega) (by omega) d_L_law_535 ?_
        refine lv_i2l (v := (xs ((6 * cl) + 3)).toInt64) hx hb d_L_law_536 rfl ?_
        refine lv_ldc2 (v := 4294967295) hx hb hown (hT _ k_L_23) d_L_law_537 ?_
        refine lv_land hx hb d_L_law_540 ?_
        refine lv_lor hx hb d_L_law_541 ?_
        refine x_Lri (wl := wM a2 t2) (x_runV ⟨hx, hb, hml, hown, hT⟩ (c_M_record l dC dI a2 t2 μ H.size hGM hGL ((xs ((6 * cl) + 1))) ((((xs ((6 * cl) + 2)).toInt64) <<< ((nI 32).toInt64 &&& 63)) ||| (((xs ((6 * cl) + 3)).toInt64) &&& ((4294967295)))) hltM) f_M_record k_L_64 blM (va_recv (K_r hK) (P_r hP) (ci := 7) (q0 := 0) rfl rfl) (x_bM (K_r hK) (P_r hP) hN (D_r hD)) hl.1 d_L_law_542 rfl (lv_room (Nat.le_of_ble_eq_true rfl)) ⟨Nat.le_of_ble_eq_true rfl, Nat.le_of_ble_eq_true rfl⟩ ⟨rfl, rfl⟩ ⟨Nat.le_of_ble_eq_true rfl, Nat.le_of_ble_eq_true rfl⟩ rfl) hP hD hS hA (fun rM μ2 H locs qM hP hD hS => ?_)
        refine lv_pop hx hb d_L_law_545 rfl ?_
        refine lv_goto (tgt := 691) hx hb d_L_law_546 (by decide) ?_
        have htie := tie_record0 hI.1 qA qM
        refine lv_iinc (v := nI (6 * cl + 6)) (lv' := [(3, .int (nI (6 * cl + 6))), (0, .ref b), (1, .ref (a 0)), (2, .ref (a2 0))]) hx hb d_L_law_691 hl (k := 3) rfl (nI_add (6 * cl) 6) (by decide) rfl (fun ls hl => ?_)
        refine lv_goto (tgt := 18) hx hb d_L_law_694 (by decide) ?_
        exact ih (cl + 1) σ2 μ2 a t a2 t2 H locs ls ⟨htie.1, ns_record hI.2 qM⟩ (by omega) (by omega) hK hP hD hS (lv_sub hl [1, 2, 3, 0] rfl)
      · refine lv_tableIn (off := 516) (tgt := 549) hx hb d_L_law_33 (by decide) (by decide) (by decide) (by decide) ?_
        refine lv_aload_n hx hb d_L_law_549 rfl (lv_at hl 1 rfl) ?_
        refine lv_aload_n hx hb d_L_law_550 rfl (lv_at hl 0 rfl) ?_
        refine lv_iload_n hx hb d_L_law_551 rfl (lv_at hl 3 rfl) ?_
        refine lv_iconst (v := nI 1) hx hb d_L_law_552 (by decide) ?_
        refine x_iadd hx hb d_L_law_553 ?_
        refine x_sld hx hb hX hbl hbA hS (n := (6 * cl) + 1) (by omega) (by omega) d_L_law_554 ?_
        refine x_ci (x_runV ⟨hx, hb, hml, hown, hT⟩ (c_A_linked l dC dI a t σ hGA ((xs ((6 * cl) + 1)))) f_A_linked k_L_65 blR (va_recv (K_l hK) (P_l hP) (ci := 6) (q0 := 0) rfl rfl) (x_bR (K_l hK) (P_l hP) hN) hl.1 d_L_law_555 rfl (lv_room (Nat.le_of_ble_eq_true rfl)) ⟨Nat.le_of_ble_eq_true rfl, Nat.le_of_ble_eq_true rfl⟩ ⟨rfl, rfl⟩ ⟨Nat.le_of_ble_eq_true rfl, Nat.le_of_ble_eq_true rfl⟩ rfl) (fun rA qA => ?_)
        refine lv_pop hx hb d_L_law_558 rfl ?_
        refine lv_aload_n hx hb d_L_law_559 rfl (lv_at hl 2 rfl) ?_
        refine lv_aload_n hx hb d_L_law_560 rfl (lv_at hl 0 rfl) ?_
        refine lv_iload_n hx hb d_L_law_561 rfl (lv_at hl 3 rfl) ?_
        refine lv_iconst (v := nI 1) hx hb d_L_law_562 (by decide) ?_
        refine x_iadd hx hb d_L_law_563 ?_
        refine x_sld hx hb hX hbl hbA hS (n := (6 * cl) + 1) (by omega) (by omega) d_L_law_564 ?_
        refine x_Lri (wl := wM a2 t2) (x_runV ⟨hx, hb, hml, hown, hT⟩ (c_M_linked l dC dI a2 t2 μ H.size hGM ((xs ((6 * cl) + 1)))) f_M_linked k_L_68 blM (va_recv (K_r hK) (P_r hP) (ci := 7) (q0 := 0) rfl rfl) (x_bM (K_r hK) (P_r hP) hN (D_r hD)) hl.1 d_L_law_565 rfl (lv_room (Nat.le_of_ble_eq_true rfl)) ⟨Nat.le_of_ble_eq_true rfl, Nat.le_of_ble_eq_true rfl⟩ ⟨rfl, rfl⟩ ⟨Nat.le_of_ble_eq_true rfl, Nat.le_of_ble_eq_true rfl⟩ rfl) hP hD hS hA (fun rM μ2 H locs qM hP hD hS => ?_)
        refine lv_pop hx hb d_L_law_568 rfl ?_
        refine lv_goto (tgt := 691) hx hb d_L_law_569 (by decide) ?_
        have htie := tie_linked0 hI.1 qA qM
        refine lv_iinc (v := nI (6 * cl + 6)) (lv' := [(3, .int (nI (6 * cl + 6))), (0, .ref b), (1, .ref (a 0)), (2, .ref (a2 0))]) hx hb d_L_law_691 hl (k := 3) rfl (nI_add (6 * cl) 6) (by decide) rfl (fun ls hl => ?_)
        refine lv_goto (tgt := 18) hx hb d_L_law_694 (by decide) ?_
        exact ih (cl + 1) σ μ2 a t a2 t2 H locs ls ⟨htie.1, ns_linked hI.2 qM⟩ (by omega) (by omega) hK hP hD hS (lv_sub hl [1, 2, 3, 0] rfl)
      · refine lv_tableIn (off := 539) (tgt := 572) hx hb d_L_law_33 (by decide) (by decide) (by decide) (by decide) ?_
        refine lv_aload_n hx hb d_L_law_572 rfl (lv_at hl 1 rfl) ?_
        refine lv_aload_n hx hb d_L_law_573 rfl (lv_at hl 0 rfl) ?_
        refine lv_iload_n hx hb d_L_law_574 rfl (lv_at hl 3 rfl) ?_
        refine lv_iconst (v := nI 1) hx hb d_L_law_575 (by decide) ?_
        refine x_iadd hx hb d_L_law_576 ?_
        refine x_sld hx hb hX hbl hbA hS (n := (6 * cl) + 1) (by omega) (by omega) d_L_law_577 ?_
        refine lv_aload_n hx hb d_L_law_578 rfl (lv_at hl 0 rfl) ?_
        refine lv_iload_n hx hb d_L_law_579 rfl (lv_at hl 3 rfl) ?_
        refine lv_iconst (v := nI 2) hx hb d_L_law_580 (by decide) ?_
        refine x_iadd hx hb d_L_law_581 ?_
        refine x_sld hx hb hX hbl hbA hS (n := (6 * cl) + 2) (by omega) (by omega) d_L_law_582 ?_
        refine lv_i2l (v := (xs ((6 * cl) + 2)).toInt64) hx hb d_L_law_583 rfl ?_
        refine lv_bipush (v := nI 32) hx hb d_L_law_584 (by decide) ?_
        refine lv_lshl (v := ((xs ((6 * cl) + 2)).toInt64) <<< ((nI 32).toInt64 &&& 63)) hx hb d_L_law_586 rfl ?_
        refine lv_aload_n hx hb d_L_law_587 rfl (lv_at hl 0 rfl) ?_
        refine lv_iload_n hx hb d_L_law_588 rfl (lv_at hl 3 rfl) ?_
        refine lv_iconst (v := nI 3) hx hb d_L_law_589 (by decide) ?_
        refine x_iadd hx hb d_L_law_590 ?_
        refine x_sld hx hb hX hbl hbA hS (n := (6 * cl) + 3) (by omega) (by omega) d_L_law_591 ?_
        refine lv_i2l (v := (xs ((6 * cl) + 3)).toInt64) hx hb d_L_law_592 rfl ?_
        refine lv_ldc2 (v := 4294967295) hx hb hown (hT _ k_L_23) d_L_law_593 ?_
        refine lv_land hx hb d_L_law_596 ?_
        refine lv_lor hx hb d_L_law_597 ?_
        refine x_ci (x_runV ⟨hx, hb, hml, hown, hT⟩ (c_A_form l dC dI a t σ hGA ((xs ((6 * cl) + 1))) ((((xs ((6 * cl) + 2)).toInt64) <<< ((nI 32).toInt64 &&& 63)) ||| (((xs ((6 * cl) + 3)).toInt64) &&& ((4294967295)))) hltA) f_A_form k_L_69 blR (va_recv (K_l hK) (P_l hP) (ci := 6) (q0 := 0) rfl rfl) (x_bR (K_l hK) (P_l hP) hN) hl.1 d_L_law_598 rfl (lv_room (Nat.le_of_ble_eq_true rfl)) ⟨Nat.le_of_ble_eq_true rfl, Nat.le_of_ble_eq_true rfl⟩ ⟨rfl, rfl⟩ ⟨Nat.le_of_ble_eq_true rfl, Nat.le_of_ble_eq_true rfl⟩ rfl) (fun rA qA => ?_)
        refine lv_pop hx hb d_L_law_601 rfl ?_
        refine lv_aload_n hx hb d_L_law_602 rfl (lv_at hl 2 rfl) ?_
        refine lv_aload_n hx hb d_L_law_603 rfl (lv_at hl 0 rfl) ?_
        refine lv_iload_n hx hb d_L_law_604 rfl (lv_at hl 3 rfl) ?_
        refine lv_iconst (v := nI 1) hx hb d_L_law_605 (by decide) ?_
        refine x_iadd hx hb d_L_law_606 ?_
        refine x_sld hx hb hX hbl hbA hS (n := (6 * cl) + 1) (by omega) (by omega) d_L_law_607 ?_
        refine lv_aload_n hx hb d_L_law_608 rfl (lv_at hl 0 rfl) ?_
        refine lv_iload_n hx hb d_L_law_609 rfl (lv_at hl 3 rfl) ?_
        refine lv_iconst (v := nI 2) hx hb d_L_law_610 (by decide) ?_
        refine x_iadd hx hb d_L_law_611 ?_
        refine x_sld hx hb hX hbl hbA hS (n := (6 * cl) + 2) (by omega) (by omega) d_L_law_612 ?_
        refine lv_i2l (v := (xs ((6 * cl) + 2)).toInt64) hx hb d_L_law_613 rfl ?_
        refine lv_bipush (v := nI 32) hx hb d_L_law_614 (by decide) ?_
        refine lv_lshl (v := ((xs ((6 * cl) + 2)).toInt64) <<< ((nI 32).toInt64 &&& 63)) hx hb d_L_law_616 rfl ?_
        refine lv_aload_n hx hb d_L_law_617 rfl (lv_at hl 0 rfl) ?_
        refine lv_iload_n hx hb d_L_law_618 rfl (lv_at hl 3 rfl) ?_
        refine lv_iconst (v := nI 3) hx hb d_L_law_619 (by decide) ?_
        refine x_iadd hx hb d_L_law_620 ?_
        refine x_sld hx hb hX hbl hbA hS (n := (6 * cl) + 3) (by omega) (by omega) d_L_law_621 ?_
        refine lv_i2l (v := (xs ((6 * cl) + 3)).toInt64) hx hb d_L_law_622 rfl ?_
        refine lv_ldc2 (v := 4294967295) hx hb hown (hT _ k_L_23) d_L_law_623 ?_
        refine lv_land hx hb d_L_law_626 ?_
        refine lv_lor hx hb d_L_law_627 ?_
        refine x_Lri (wl := wM a2 t2) (x_runV ⟨hx, hb, hml, hown, hT⟩ (c_M_form l dC dI a2 t2 μ H.size hGM hGL ((xs ((6 * cl) + 1))) ((((xs ((6 * cl) + 2)).toInt64) <<< ((nI 32).toInt64 &&& 63)) ||| (((xs ((6 * cl) + 3)).toInt64) &&& ((4294967295)))) rk hrk hltM) f_M_form k_L_72 blM (va_recv (K_r hK) (P_r hP) (ci := 7) (q0 := 0) rfl rfl) (x_bM (K_r hK) (P_r hP) hN (D_r hD)) hl.1 d_L_law_628 rfl (lv_room (Nat.le_of_ble_eq_true rfl)) ⟨Nat.le_of_ble_eq_true rfl, Nat.le_of_ble_eq_true rfl⟩ ⟨rfl, rfl⟩ ⟨Nat.le_of_ble_eq_true rfl, Nat.le_of_ble_eq_true rfl⟩ rfl) hP hD hS hA (fun rM μ2 H locs qM hP hD hS => ?_)
        refine lv_pop hx hb d_L_law_631 rfl ?_
        refine lv_goto (tgt := 691) hx hb d_L_law_632 (by decide) ?_
        have htie := tie_form0 hI.1 qA qM
        refine lv_iinc (v := nI (6 * cl + 6)) (lv' := [(3, .int (nI (6 * cl + 6))), (0, .ref b), (1, .ref (a 0)), (2, .ref (a2 0))]) hx hb d_L_law_691 hl (k := 3) rfl (nI_add (6 * cl) 6) (by decide) rfl (fun ls hl => ?_)
        refine lv_goto (tgt := 18) hx hb d_L_law_694 (by decide) ?_
        exact ih (cl + 1) σ μ2 a t a2 t2 H locs ls ⟨htie.1, ns_form hI.2 qM⟩ (by omega) (by omega) hK hP hD hS (lv_sub hl [1, 2, 3, 0] rfl)
      · refine lv_tableIn (off := 602) (tgt := 635) hx hb d_L_law_33 (by decide) (by decide) (by decide) (by decide) ?_
        refine lv_aload_n hx hb d_L_law_635 rfl (lv_at hl 1 rfl) ?_
        refine lv_aload_n hx hb d_L_law_636 rfl (lv_at hl 0 rfl) ?_
        refine lv_iload_n hx hb d_L_law_637 rfl (lv_at hl 3 rfl) ?_
        refine lv_iconst (v := nI 1) hx hb d_L_law_638 (by decide) ?_
        refine x_iadd hx hb d_L_law_639 ?_
        refine x_sld hx hb hX hbl hbA hS (n := (6 * cl) + 1) (by omega) (by omega) d_L_law_640 ?_
        refine x_ci (x_runV ⟨hx, hb, hml, hown, hT⟩ (c_A_ring l dC dI a t σ hGA ((xs ((6 * cl) + 1)))) f_A_ring k_L_73 blR (va_recv (K_l hK) (P_l hP) (ci := 6) (q0 := 0) rfl rfl) (x_bR (K_l hK) (P_l hP) hN) hl.1 d_L_law_641 rfl (lv_room (Nat.le_of_ble_eq_true rfl)) ⟨Nat.le_of_ble_eq_true rfl, Nat.le_of_ble_eq_true rfl⟩ ⟨rfl, rfl⟩ ⟨Nat.le_of_ble_eq_true rfl, Nat.le_of_ble_eq_true rfl⟩ rfl) (fun rA qA => ?_)
        refine lv_pop hx hb d_L_law_644 rfl ?_
        refine lv_aload_n hx hb d_L_law_645 rfl (lv_at hl 2 rfl) ?_
        refine lv_aload_n hx hb d_L_law_646 rfl (lv_at hl 0 rfl) ?_
        refine lv_iload_n hx hb d_L_law_647 rfl (lv_at hl 3 rfl) ?_
        refine lv_iconst (v := nI 1) hx hb d_L_law_648 (by decide) ?_
        refine x_iadd hx hb d_L_law_649 ?_
        refine x_sld hx hb hX hbl hbA hS (n := (6 * cl) + 1) (by omega) (by omega) d_L_law_650 ?_
        refine x_Lri (wl := wM a2 t2) (x_runV ⟨hx, hb, hml, hown, hT⟩ (c_M_ring l dC dI a2 t2 μ H.size hGM ((xs ((6 * cl) + 1)))) f_M_ring k_L_76 blM (va_recv (K_r hK) (P_r hP) (ci := 7) (q0 := 0) rfl rfl) (x_bM (K_r hK) (P_r hP) hN (D_r hD)) hl.1 d_L_law_651 rfl (lv_room (Nat.le_of_ble_eq_true rfl)) ⟨Nat.le_of_ble_eq_true rfl, Nat.le_of_ble_eq_true rfl⟩ ⟨rfl, rfl⟩ ⟨Nat.le_of_ble_eq_true rfl, Nat.le_of_ble_eq_true rfl⟩ rfl) hP hD hS hA (fun rM μ2 H locs qM hP hD hS => ?_)
        refine lv_pop hx hb d_L_law_654 rfl ?_
        refine lv_goto (tgt := 691) hx hb d_L_law_655 (by decide) ?_
        have htie := tie_ring0 hI.1 qA qM
        refine lv_iinc (v := nI (6 * cl + 6)) (lv' := [(3, .int (nI (6 * cl + 6))), (0, .ref b), (1, .ref (a 0)), (2, .ref (a2 0))]) hx hb d_L_law_691 hl (k := 3) rfl (nI_add (6 * cl) 6) (by decide) rfl (fun ls hl => ?_)
        refine lv_goto (tgt := 18) hx hb d_L_law_694 (by decide) ?_
        exact ih (cl + 1) σ μ2 a t a2 t2 H locs ls ⟨htie.1, ns_ring hI.2 qM⟩ (by omega) (by omega) hK hP hD hS (lv_sub hl [1, 2, 3, 0] rfl)
      · refine lv_tableIn (off := 625) (tgt := 658) hx hb d_L_law_33 (by decide) (by decide) (by decide) (by decide) ?_
        refine lv_aload_n hx hb d_L_law_658 rfl (lv_at hl 1 rfl) ?_
        refine lv_aload_n hx hb d_L_law_659 rfl (lv_at hl 0 rfl) ?_
        refine lv_iload_n hx hb d_L_law_660 rfl (lv_at hl 3 rfl) ?_
        refine lv_iconst (v := nI 1) hx hb d_L_law_661 (by decide) ?_
        refine x_iadd hx hb d_L_law_662 ?_
        refine x_sld hx hb hX hbl hbA hS (n := (6 * cl) + 1) (by omega) (by omega) d_L_law_663 ?_
        refine lv_aload_n hx hb d_L_law_664 rfl (lv_at hl 0 rfl) ?_
        refine lv_iload_n hx hb d_L_law_665 rfl (lv_at hl 3 rfl) ?_
        refine lv_iconst (v := nI 2) hx hb d_L_law_666 (by decide) ?_
        refine x_iadd hx hb d_L_law_667 ?_
        refine x_sld hx hb hX hbl hbA hS (n := (6 * cl) + 2) (by omega) (by omega) d_L_law_668 ?_
        refine x_ci (x_runV ⟨hx, hb, hml, hown, hT⟩ (c_A_letter l dC dI a t σ hGA ((xs ((6 * cl) + 1))) ((xs ((6 * cl) + 2)))) f_A_letter k_L_77 blR (va_recv (K_l hK) (P_l hP) (ci := 6) (q0 := 0) rfl rfl) (x_bR (K_l hK) (P_l hP) hN) hl.1 d_L_law_669 rfl (lv_room (Nat.le_of_ble_eq_true rfl)) ⟨Nat.le_of_ble_eq_true rfl, Nat.le_of_ble_eq_true rfl⟩ ⟨rfl, rfl⟩ ⟨Nat.le_of_ble_eq_true rfl, Nat.le_of_ble_eq_true rfl⟩ rfl) (fun rA qA => ?_)
        refine lv_pop hx hb d_L_law_672 rfl ?_
        refine lv_aload_n hx hb d_L_law_673 rfl (lv_at hl 2 rfl) ?_
        refine lv_aload_n hx hb d_L_law_674 rfl (lv_at hl 0 rfl) ?_
        refine lv_iload_n hx hb d_L_law_675 rfl (lv_at hl 3 rfl) ?_
        refine lv_iconst (v := nI 1) hx hb d_L_law_676 (by decide) ?_
        refine x_iadd hx hb d_L_law_677 ?_
        refine x_sld hx hb hX hbl hbA hS (n := (6 * cl) + 1) (by omega) (by omega) d_L_law_678 ?_
        refine lv_aload_n hx hb d_L_law_679 rfl (lv_at hl 0 rfl) ?_
        refine lv_iload_n hx hb d_L_law_680 rfl (lv_at hl 3 rfl) ?_
        refine lv_iconst (v := nI 2) hx hb d_L_law_681 (by decide) ?_
        refine x_iadd hx hb d_L_law_682 ?_
        refine x_sld hx hb hX hbl hbA hS (n := (6 * cl) + 2) (by omega) (by omega) d_L_law_683 ?_
        refine x_Lri (wl := wM a2 t2) (x_runV ⟨hx, hb, hml, hown, hT⟩ (c_M_letter l dC dI a2 t2 μ H.size hGM ((xs ((6 * cl) + 1))) ((xs ((6 * cl) + 2)))) f_M_letter k_L_80 blM (va_recv (K_r hK) (P_r hP) (ci := 7) (q0 := 0) rfl rfl) (x_bM (K_r hK) (P_r hP) hN (D_r hD)) hl.1 d_L_law_684 rfl (lv_room (Nat.le_of_ble_eq_true rfl)) ⟨Nat.le_of_ble_eq_true rfl, Nat.le_of_ble_eq_true rfl⟩ ⟨rfl, rfl⟩ ⟨Nat.le_of_ble_eq_true rfl, Nat.le_of_ble_eq_true rfl⟩ rfl) hP hD hS hA (fun rM μ2 H locs qM hP hD hS => ?_)
        refine lv_pop hx hb d_L_law_687 rfl ?_
        refine lv_goto (tgt := 691) hx hb d_L_law_688 (by decide) ?_
        have htie := tie_letter0 hI.1 qA qM
        refine lv_iinc (v := nI (6 * cl + 6)) (lv' := [(3, .int (nI (6 * cl + 6))), (0, .ref b), (1, .ref (a 0)), (2, .ref (a2 0))]) hx hb d_L_law_691 hl (k := 3) rfl (nI_add (6 * cl) 6) (by decide) rfl (fun ls hl => ?_)
        refine lv_goto (tgt := 18) hx hb d_L_law_694 (by decide) ?_
        exact ih (cl + 1) σ μ2 a t a2 t2 H locs ls ⟨htie.1, ns_letter hI.2 qM⟩ (by omega) (by omega) hK hP hD hS (lv_sub hl [1, 2, 3, 0] rfl)
      · refine lv_tableOut (tgt := 691) hx hb d_L_law_33 (by decide) (by decide) ?_
        refine lv_iinc (v := nI (6 * cl + 6)) (lv' := [(3, .int (nI (6 * cl + 6))), (0, .ref b), (1, .ref (a 0)), (2, .ref (a2 0))]) hx hb d_L_law_691 hl (k := 3) rfl (nI_add (6 * cl) 6) (by decide) rfl (fun ls hl => ?_)
        refine lv_goto (tgt := 18) hx hb d_L_law_694 (by decide) ?_
        exact ih (cl + 1) σ μ a t a2 t2 H locs ls ⟨inv_skip hI.1, hI.2⟩ (by omega) (by omega) hK hP hD hS (lv_sub hl [1, 2, 3, 0] rfl)
