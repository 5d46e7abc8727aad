def GM (σ : SM) : Prop := m_sz σ ≤ 40 ∧ (∀ j, m_sd σ j < 256) ∧ m_hn σ ≤ 60 ∧ (∀ j, m_kd σ j < 4) ∧ (∀ j, m_lv σ j < 2) ∧ (∀ j, m_tx σ j < 128) ∧ (∀ j, m_zs σ j ≤ 20) ∧ m_ln σ ≤ 512 ∧ (∀ j, m_lf σ j ≤ 60) ∧ (∀ j, m_lt σ j ≤ 60) ∧ m_rn σ ≤ 60 ∧ (∀ j, m_lk σ j ≤ 60) ∧ (∀ j, m_wy σ j ≤ 60) ∧ m_wn σ ≤ 61 ∧ (∀ j, m_di σ j ≤ 100) ∧ m_co σ ≤ 40
theorem GM_sd {σ : SM} {f : (Nat → Nat)} (h : GM σ) (hf : ∀ j, f j < 256) : GM (mu_sd σ f) := by
  obtain ⟨g_sz, g_sd, g_hn, g_kd, g_lv, g_tx, g_zs, g_ln, g_lf, g_lt, g_rn, g_lk, g_wy, g_wn, g_di, g_co⟩ := h
  exact ⟨g_sz, hf, g_hn, g_kd, g_lv, g_tx, g_zs, g_ln, g_lf, g_lt, g_rn, g_lk, g_wy, g_wn, g_di, g_co⟩
theorem GM_sz {σ : SM} {f : Nat} (h : GM σ) (hf : f ≤ 40) : GM (mu_sz σ f) := by
  obtain ⟨g_sz, g_sd, g_hn, g_kd, g_lv, g_tx, g_zs, g_ln, g_lf, g_lt, g_rn, g_lk, g_wy, g_wn, g_di, g_co⟩ := h
  exact ⟨hf, g_sd, g_hn, g_kd, g_lv, g_tx, g_zs, g_ln, g_lf, g_lt, g_rn, g_lk, g_wy, g_wn, g_di, g_co⟩
theorem GM_hn {σ : SM} {f : Nat} (h : GM σ) (hf : f ≤ 60) : GM (mu_hn σ f) := by
  obtain ⟨g_sz, g_sd, g_hn, g_kd, g_lv, g_tx, g_zs, g_ln, g_lf, g_lt, g_rn, g_lk, g_wy, g_wn, g_di, g_co⟩ := h
  exact ⟨g_sz, g_sd, hf, g_kd, g_lv, g_tx, g_zs, g_ln, g_lf, g_lt, g_rn, g_lk, g_wy, g_wn, g_di, g_co⟩
theorem GM_kd {σ : SM} {f : (Nat → Nat)} (h : GM σ) (hf : ∀ j, f j < 4) : GM (mu_kd σ f) := by
  obtain ⟨g_sz, g_sd, g_hn, g_kd, g_lv, g_tx, g_zs, g_ln, g_lf, g_lt, g_rn, g_lk, g_wy, g_wn, g_di, g_co⟩ := h
  exact ⟨g_sz, g_sd, g_hn, hf, g_lv, g_tx, g_zs, g_ln, g_lf, g_lt, g_rn, g_lk, g_wy, g_wn, g_di, g_co⟩
theorem GM_lv {σ : SM} {f : (Nat → Nat)} (h : GM σ) (hf : ∀ j, f j < 2) : GM (mu_lv σ f) := by
  obtain ⟨g_sz, g_sd, g_hn, g_kd, g_lv, g_tx, g_zs, g_ln, g_lf, g_lt, g_rn, g_lk, g_wy, g_wn, g_di, g_co⟩ := h
  exact ⟨g_sz, g_sd, g_hn, g_kd, hf, g_tx, g_zs, g_ln, g_lf, g_lt, g_rn, g_lk, g_wy, g_wn, g_di, g_co⟩
theorem GM_tx {σ : SM} {f : (Nat → Nat)} (h : GM σ) (hf : ∀ j, f j < 128) : GM (mu_tx σ f) := by
  obtain ⟨g_sz, g_sd, g_hn, g_kd, g_lv, g_tx, g_zs, g_ln, g_lf, g_lt, g_rn, g_lk, g_wy, g_wn, g_di, g_co⟩ := h
  exact ⟨g_sz, g_sd, g_hn, g_kd, g_lv, hf, g_zs, g_ln, g_lf, g_lt, g_rn, g_lk, g_wy, g_wn, g_di, g_co⟩
theorem GM_zs {σ : SM} {f : (Nat → Nat)} (h : GM σ) (hf : ∀ j, f j ≤ 20) : GM (mu_zs σ f) := by
  obtain ⟨g_sz, g_sd, g_hn, g_kd, g_lv, g_tx, g_zs, g_ln, g_lf, g_lt, g_rn, g_lk, g_wy, g_wn, g_di, g_co⟩ := h
  exact ⟨g_sz, g_sd, g_hn, g_kd, g_lv, g_tx, hf, g_ln, g_lf, g_lt, g_rn, g_lk, g_wy, g_wn, g_di, g_co⟩
theorem GM_ln {σ : SM} {f : Nat} (h : GM σ) (hf : f ≤ 512) : GM (mu_ln σ f) := by
  obtain ⟨g_sz, g_sd, g_hn, g_kd, g_lv, g_tx, g_zs, g_ln, g_lf, g_lt, g_rn, g_lk, g_wy, g_wn, g_di, g_co⟩ := h
  exact ⟨g_sz, g_sd, g_hn, g_kd, g_lv, g_tx, g_zs, hf, g_lf, g_lt, g_rn, g_lk, g_wy, g_wn, g_di, g_co⟩
theorem GM_ls {σ : SM} {f : (Nat → Nat)} (h : GM σ) : GM (mu_ls σ f) := by
  obtain ⟨g_sz, g_sd, g_hn, g_kd, g_lv, g_tx, g_zs, g_ln, g_lf, g_lt, g_rn, g_lk, g_wy, g_wn, g_di, g_co⟩ := h
  exact ⟨g_sz, g_sd, g_hn, g_kd, g_lv, g_tx, g_zs, g_ln, g_lf, g_lt, g_rn, g_lk, g_wy, g_wn, g_di, g_co⟩
theorem GM_lf {σ : SM} {f : (Nat → Nat)} (h : GM σ) (hf : ∀ j, f j ≤ 60) : GM (mu_lf σ f) := by
  obtain ⟨g_sz, g_sd, g_hn, g_kd, g_lv, g_tx, g_zs, g_ln, g_lf, g_lt, g_rn, g_lk, g_wy, g_wn, g_di, g_co⟩ := h
  exact ⟨g_sz, g_sd, g_hn, g_kd, g_lv, g_tx, g_zs, g_ln, hf, g_lt, g_rn, g_lk, g_wy, g_wn, g_di, g_co⟩
theorem GM_lt {σ : SM} {f : (Nat → Nat)} (h : GM σ) (hf : ∀ j, f j ≤ 60) : GM (mu_lt σ f) := by
  obtain ⟨g_sz, g_sd, g_hn, g_kd, g_lv, g_tx, g_zs, g_ln, g_lf, g_lt, g_rn, g_lk, g_wy, g_wn, g_di, g_co⟩ := h
  exact ⟨g_sz, g_sd, g_hn, g_kd, g_lv, g_tx, g_zs, g_ln, g_lf, hf, g_rn, g_lk, g_wy, g_wn, g_di, g_co⟩
theorem GM_ld {σ : SM} {f : (Nat → Int64)} (h : GM σ) : GM (mu_ld σ f) := by
  obtain ⟨g_sz, g_sd, g_hn, g_kd, g_lv, g_tx, g_zs, g_ln, g_lf, g_lt, g_rn, g_lk, g_wy, g_wn, g_di, g_co⟩ := h
  exact ⟨g_sz, g_sd, g_hn, g_kd, g_lv, g_tx, g_zs, g_ln, g_lf, g_lt, g_rn, g_lk, g_wy, g_wn, g_di, g_co⟩
theorem GM_rn {σ : SM} {f : Nat} (h : GM σ) (hf : f ≤ 60) : GM (mu_rn σ f) := by
  obtain ⟨g_sz, g_sd, g_hn, g_kd, g_lv, g_tx, g_zs, g_ln, g_lf, g_lt, g_rn, g_lk, g_wy, g_wn, g_di, g_co⟩ := h
  exact ⟨g_sz, g_sd, g_hn, g_kd, g_lv, g_tx, g_zs, g_ln, g_lf, g_lt, hf, g_lk, g_wy, g_wn, g_di, g_co⟩
theorem GM_lk {σ : SM} {f : (Nat → Nat)} (h : GM σ) (hf : ∀ j, f j ≤ 60) : GM (mu_lk σ f) := by
  obtain ⟨g_sz, g_sd, g_hn, g_kd, g_lv, g_tx, g_zs, g_ln, g_lf, g_lt, g_rn, g_lk, g_wy, g_wn, g_di, g_co⟩ := h
  exact ⟨g_sz, g_sd, g_hn, g_kd, g_lv, g_tx, g_zs, g_ln, g_lf, g_lt, g_rn, hf, g_wy, g_wn, g_di, g_co⟩
theorem GM_rd {σ : SM} {f : (Nat → Int64)} (h : GM σ) : GM (mu_rd σ f) := by
  obtain ⟨g_sz, g_sd, g_hn, g_kd, g_lv, g_tx, g_zs, g_ln, g_lf, g_lt, g_rn, g_lk, g_wy, g_wn, g_di, g_co⟩ := h
  exact ⟨g_sz, g_sd, g_hn, g_kd, g_lv, g_tx, g_zs, g_ln, g_lf, g_lt, g_rn, g_lk, g_wy, g_wn, g_di, g_co⟩
theorem GM_wy {σ : SM} {f : (Nat → Nat)} (h : GM σ) (hf : ∀ j, f j ≤ 60) : GM (mu_wy σ f) := by
  obtain ⟨g_sz, g_sd, g_hn, g_kd, g_lv, g_tx, g_zs, g_ln, g_lf, g_lt, g_rn, g_lk, g_wy, g_wn, g_di, g_co⟩ := h
  exact ⟨g_sz, g_sd, g_hn, g_kd, g_lv, g_tx, g_zs, g_ln, g_lf, g_lt, g_rn, g_lk, hf, g_wn, g_di, g_co⟩
theorem GM_wn {σ : SM} {f : Nat} (h : GM σ) (hf : f ≤ 61) : GM (mu_wn σ f) := by
  obtain ⟨g_sz, g_sd, g_hn, g_kd, g_lv, g_tx, g_zs, g_ln, g_lf, g_lt, g_rn, g_lk, g_wy, g_wn, g_di, g_co⟩ := h
  exact ⟨g_sz, g_sd, g_hn, g_kd, g_lv, g_tx, g_zs, g_ln, g_lf, g_lt, g_rn, g_lk, g_wy, hf, g_di, g_co⟩
theorem GM_di {σ : SM} {f : (Nat → Nat)} (h : GM σ) (hf : ∀ j, f j ≤ 100) : GM (mu_di σ f) := by
  obtain ⟨g_sz, g_sd, g_hn, g_kd, g_lv, g_tx, g_zs, g_ln, g_lf, g_lt, g_rn, g_lk, g_wy, g_wn, g_di, g_co⟩ := h
  exact ⟨g_sz, g_sd, g_hn, g_kd, g_lv, g_tx, g_zs, g_ln, g_lf, g_lt, g_rn, g_lk, g_wy, g_wn, hf, g_co⟩
theorem GM_co {σ : SM} {f : Nat} (h : GM σ) (hf : f ≤ 40) : GM (mu_co σ f) := by
  obtain ⟨g_sz, g_sd, g_hn, g_kd, g_lv, g_tx, g_zs, g_ln, g_lf, g_lt, g_rn, g_lk, g_wy, g_wn, g_di, g_co⟩ := h
  exact ⟨g_sz, g_sd, g_hn, g_kd, g_lv, g_tx, g_zs, g_ln, g_lf, g_lt, g_rn, g_lk, g_wy, g_wn, g_di, hf⟩
theorem sb_pos : ∀ q, q < 128 → sb_b q = nI q := by decide +kernel
theorem sb_neg : ∀ q, q < 256 → 128 ≤ q → sb_b q < 0 := by decide +kernel
theorem sb_nar : ∀ q, q < 256 → vp_nar .byte (sb_b q) = sb_b q := by decide +kernel
theorem nar_b : ∀ q, q < 128 → vp_nar .byte (nI q) = nI q := by decide +kernel
theorem neg_ltN {x : Int32} {k : Nat} (h : x < 0) (hk : k < 2 ^ 31) : x < nI k := Int32.lt_of_lt_of_le h (nI_pos' hk)
theorem lowB_b (x : Int32) : x.toInt8.toInt32 = sb_b (lowB x) := by
  have h1 : nI (lowB x) = x &&& 255 := (pk_and x 8 (by decide)).symm
  unfold sb_b
  rw [h1]
  apply Int32.toBitVec_inj.mp
  show (x.toBitVec.signExtend 8).signExtend 32 = ((x.toBitVec &&& 255#32).signExtend 8).signExtend 32
  congr 1
  apply BitVec.eq_of_getLsbD_eq
  intro i hi
  have hb : (255#32).getLsbD i = true := by
    have : ∀ i, i < 8 → (255#32).getLsbD i = true := by decide
    exact this i hi
  have hb8 : ∀ (i : Nat) (h : i < 8), (255#8)[i] = true := by decide
  simp [BitVec.getLsbD_signExtend, hi, hb, show i < 32 by omega]
  intro _
  exact hb8 i hi
theorem upd_sb (f : Nat → Nat) (k x : Nat) : upd (fun j => sb_b (f j)) k (sb_b x) = fun j => sb_b (updN f k x j) := by
  funext j
  by_cases h : j = k
  · subst h; simp [upd, updN]
  · simp [upd, updN, h]
section XM
variable {p : Program} {l : Launch} {e : Env} {R : Room} {s : State} {m : MethodId} {args : Array Value} {below : List Frame} {meth : Method} {c : Code} {H : Heap} {locs : List Loc} {cells slots : Nat} {Q : State → Prop}
variable {cc : ByteArray} {pc : Nat} {ls : Array Slot} {rest : List Value} {D : va_G} {cl : List vw_C} {A : Nat → Prop} {a : Nat} {tys : List (ClassId × FieldType)} {ws : va_W} {H0 : Heap}
theorem x_Rald (hx : p.tables.exec = Jvm.exec) (hb : c.code = cc) (hK : va_K D cl tys s) (hP : va_P D cl ws H) (q0 t0 : Nat) {cA : ClassId} {N n : Nat} {f : Nat → Nat} (ha : ws[q0]? = some (a, .inl (cA, N, .inl (fun j => sb_b (f j))))) (ht : tys[t0]? = some (cA, .byte)) (hdg : decode cc pc = .ok (.baload, 1)) (hn : n < N) (kk : W p l e R s m args below meth c H locs cells slots Q (F0 m (pc + 1) ls (.int (sb_b (f n)) :: rest))) (hN : N < 2 ^ 31 := by decide) : W p l e R s m args below meth c H locs cells slots Q (F0 m pc ls (.int (nI n) :: .ref a :: rest)) :=
  va_bald hx hb hK hP q0 t0 ha ht (vp_in_nI hn hN) hdg (by rw [nI_clamp (Nat.lt_trans hn hN)]; exact kk)
theorem x_Bald (hx : p.tables.exec = Jvm.exec) (hb : c.code = cc) (hK : va_K D cl tys s) (hP : va_P D cl ws H) (q0 t0 : Nat) {cA : ClassId} {N n : Nat} {f : Nat → Nat} (ha : ws[q0]? = some (a, .inl (cA, N, .inl (fun j => sb_b (f j))))) (ht : tys[t0]? = some (cA, .byte)) (hdg : decode cc pc = .ok (.baload, 1)) (hn : n < N) (hq : f n < 128) (kk : W p l e R s m args below meth c H locs cells slots Q (F0 m (pc + 1) ls (.int (nI (f n)) :: rest))) (hN : N < 2 ^ 31 := by decide) : W p l e R s m args below meth c H locs cells slots Q (F0 m pc ls (.int (nI n) :: .ref a :: rest)) :=
  va_bald hx hb hK hP q0 t0 ha ht (vp_in_nI hn hN) hdg (by rw [nI_clamp (Nat.lt_trans hn hN)]; rw [sb_pos _ hq]; exact kk)
theorem x_Bast (hx : p.tables.exec = Jvm.exec) (hb : c.code = cc) (hK : va_K D cl tys s) (hP : va_P D cl ws H) (hD : va_D A ws) (hS : va_S A H0 H locs) (q0 t0 : Nat) {cA : ClassId} {N n x : Nat} {f : Nat → Nat} (ha : ws[q0]? = some (a, .inl (cA, N, .inl (fun j => sb_b (f j))))) (ht : tys[t0]? = some (cA, .byte)) (hdg : decode cc pc = .ok (.bastore, 1)) (hn : n < N) (kk : ∀ (H1 : Heap) (locs1 : List Loc), va_P D cl (ws.set q0 (a, .inl (cA, N, .inl (fun j => sb_b (updN f n x j))))) H1 → va_D A (ws.set q0 (a, .inl (cA, N, .inl (fun j => sb_b (updN f n x j))))) → va_S A H0 H1 locs1 → W p l e R s m args below meth c H1 locs1 cells slots Q (F0 m (pc + 1) ls rest)) (hN : N < 2 ^ 31 := by decide) (hr : x < 256 := by omega) : W p l e R s m args below meth c H locs cells slots Q (F0 m pc ls (.int (sb_b x) :: .int (nI n) :: .ref a :: rest)) :=
  va_bast hx hb hK hP hD hS q0 t0 ha ht (vp_in_nI hn hN) hdg (fun H1 locs1 hP hD hS => by
    rw [nI_clamp (Nat.lt_trans hn hN), sb_nar _ hr, upd_sb] at hP hD
    exact kk H1 locs1 hP hD hS)
theorem x_bast (hx : p.tables.exec = Jvm.exec) (hb : c.code = cc) (hK : va_K D cl tys s) (hP : va_P D cl ws H) (hD : va_D A ws) (hS : va_S A H0 H locs) (q0 t0 : Nat) {cA : ClassId} {N n x : Nat} {f : Nat → Nat} (ha : ws[q0]? = some (a, .inl (cA, N, .inl (fun j => nI (f j))))) (ht : tys[t0]? = some (cA, .byte)) (hdg : decode cc pc = .ok (.bastore, 1)) (hn : n < N) (kk : ∀ (H1 : Heap) (locs1 : List Loc), va_P D cl (ws.set q0 (a, .inl (cA, N, .inl (fun j => nI (updN f n x j))))) H1 → va_D A (ws.set q0 (a, .inl (cA, N, .inl (fun j => nI (updN f n x j))))) → va_S A H0 H1 locs1 → W p l e R s m args below meth c H1 locs1 cells slots Q (F0 m (pc + 1) ls rest)) (hN : N < 2 ^ 31 := by decide) (hr : x < 128 := by omega) : W p l e R s m args below meth c H locs cells slots Q (F0 m pc ls (.int (nI x) :: .int (nI n) :: .ref a :: rest)) :=
  va_bast hx hb hK hP hD hS q0 t0 ha ht (vp_in_nI hn hN) hdg (fun H1 locs1 hP hD hS => by
    rw [nI_clamp (Nat.lt_trans hn hN), nar_b _ hr, upd_nI] at hP hD
    exact kk H1 locs1 hP hD hS)
end XM
set_option maxRecDepth 100000 in
set_option maxHeartbeats 4000000 in
theorem c_M_sign (l : Launch) (dC : Nat → ClassId) (dI : Nat → Nat → Nat) (a : Nat → Nat) (t : Nat → ClassId) (σ : SM) (sz : Nat) (hG : GM σ) (x : Int32) : Met l y_M_sign (wS y_M_sign b_M_sign 2 none) (rD 0) (va_Pc [.ref (a 0), .int x] (MB (dC, dI) (yM t) (wM a t σ) sz)) (va_Qv (fun u : SM => u = if m_sz σ < 40 then mu_sz (mu_sd σ (updN (m_sd σ) (m_sz σ) (lowB x))) (m_sz σ + 1) else σ) (fun u => ME (dC, dI) (yM t) (va_A (wM a t σ) sz) (wM a t u)) (va_A (wM a t σ) sz)) 0 0 (va_A (wM a t σ) sz) := by
  refine x_enter (by decide) (Nat.le_of_ble_eq_true rfl) ?_
  intro p e s m below meth c ls hx hb hr hml hT hown hlk hnm hl hB
  obtain ⟨rfl, hP, hK, hN, hD0⟩ := hB
  have hD := hD0.self (sz := s.heap.size)
  generalize hAe : va_A (wM a t σ) s.heap.size = A at hD ⊢
  have hA : ∀ q : Nat, s.heap.size ≤ q → A q := fun q h => by rw [← hAe]; exact Or.inr h
  have hS : va_S A s.heap s.heap [] := va_S.rf
  have hP : va_P (dC, dI) classes (wM a t σ) s.heap := hP
  have hl : lv_has ls 2 [(0, .ref (a 0)), (1, .int x)] := hl
  have hown : s.vm.findClass R_M = some m.cls := hown
  have hG2 := hG
  obtain ⟨g_sz, g_sd, g_hn, g_kd, g_lv, g_tx, g_zs, g_ln, g_lf, g_lt, g_rn, g_lk, g_wy, g_wn, g_di, g_co⟩ := hG
  have hlb := lowB_lt x
  refine lv_aload_n hx hb d_M_sign_0 rfl (lv_at hl 0 rfl) ?_
  refine lv_iconst (v := nI 0) hx hb d_M_sign_1 (by decide) ?_
  refine va_put (D := (dC, dI)) (v := .int (nI 0)) (ty := .int) (C := R_M) (T := F_M) (N := 20) hx hb hT i_M ft_M ft_M_ok n_M hown hK hP hD hS 0 rfl rfl 0 (by decide) (hT _ k_M_52) (fun _ h9 => h9) rfl (by decide +kernel) rfl rfl (Nat.le_of_ble_eq_true rfl) d_M_sign_2 (fun H locs hP hD hS => ?_)
  have hP : va_P (dC, dI) classes (wM a t σ) H := hP
  have hD : va_D A (wM a t σ) := hD
  refine lv_aload_n hx hb d_M_sign_5 rfl (lv_at hl 0 rfl) ?_
  refine va_get (D := (dC, dI)) (C := R_M) (T := F_M) (N := 20) hx hb hT i_M hown hK hP 0 rfl rfl 2 (by decide) (hT _ k_M_56) (fun _ h9 => h9) (v := .int (nI (m_sz σ))) rfl d_M_sign_6 ?_
  refine lv_bipush (v := nI 40) hx hb d_M_sign_9 (by decide) ?_
  refine x_icmp_ge (tgt := 35) hx hb d_M_sign_11 (by decide) (fun c11 => ?_) (fun c11 => ?_)
  · exact x_mv (wl := wM a t) σ hx hb hr hlk hK hP hD hS d_M_sign_35 (by rw [if_neg (by omega)])
  · refine lv_aload_n hx hb d_M_sign_14 rfl (lv_at hl 0 rfl) ?_
    refine va_get (D := (dC, dI)) (C := R_M) (T := F_M) (N := 20) hx hb hT i_M hown hK hP 0 rfl rfl 1 (by decide) (hT _ k_M_7) (fun _ h9 => h9) (v := .ref (a 1)) rfl d_M_sign_15 ?_
    refine lv_aload_n hx hb d_M_sign_18 rfl (lv_at hl 0 rfl) ?_
    refine va_get (D := (dC, dI)) (C := R_M) (T := F_M) (N := 20) hx hb hT i_M hown hK hP 0 rfl rfl 2 (by decide) (hT _ k_M_56) (fun _ h9 => h9) (v := .int (nI (m_sz σ))) rfl d_M_sign_19 ?_
    refine lv_iload_n hx hb d_M_sign_22 rfl (lv_at hl 1 rfl) ?_
    refine lv_i2b (v := (sb_b (lowB x))) hx hb d_M_sign_23 (lowB_b x) ?_
    refine x_Bast hx hb hK hP hD hS 1 0 (f := (m_sd σ)) rfl rfl d_M_sign_24 (by omega) (fun H locs hP hD hS => ?_)
    have hP : va_P (dC, dI) classes (wM a t (mu_sd σ (updN (m_sd σ) (m_sz σ) (lowB x)))) H := hP
    have hD : va_D A (wM a t (mu_sd σ (updN (m_sd σ) (m_sz σ) (lowB x)))) := hD
    refine lv_aload_n hx hb d_M_sign_25 rfl (lv_at hl 0 rfl) ?_
    refine lv_dup hx hb d_M_sign_26 rfl ?_
    refine va_get (D := (dC, dI)) (C := R_M) (T := F_M) (N := 20) hx hb hT i_M hown hK hP 0 rfl rfl 2 (by decide) (hT _ k_M_56) (fun _ h9 => h9) (v := .int (nI (m_sz σ))) rfl d_M_sign_27 ?_
    refine lv_iconst (v := nI 1) hx hb d_M_sign_30 (by decide) ?_
    refine x_iadd hx hb d_M_sign_31 ?_
    refine va_put (D := (dC, dI)) (v := .int (nI ((m_sz σ) + 1))) (ty := .int) (C := R_M) (T := F_M) (N := 20) hx hb hT i_M ft_M ft_M_ok n_M hown hK hP hD hS 0 rfl rfl 2 (by decide) (hT _ k_M_56) (fun _ h9 => h9) rfl (by decide +kernel) rfl rfl (Nat.le_of_ble_eq_true rfl) d_M_sign_32 (fun H locs hP hD hS => ?_)
    have hP : va_P (dC, dI) classes (wM a t (mu_sz (mu_sd σ (updN (m_sd σ) (m_sz σ) (lowB x))) ((m_sz σ) + 1))) H := hP
    have hD : va_D A (wM a t (mu_sz (mu_sd σ (updN (m_sd σ) (m_sz σ) (lowB x))) ((m_sz σ) + 1))) := hD
    exact x_mv (wl := wM a t) (mu_sz (mu_sd σ (updN (m_sd σ) (m_sz σ) (lowB x))) ((m_sz σ) + 1)) hx hb hr hlk hK hP hD hS d_M_sign_35 (by rw [if_pos (by omega)])

set_option maxRecDepth 100000 in
set_option maxHeartbeats 4000000 in
theorem c_M_small (l : Launch) (q : Nat) (hq : q < 65536) : Met l y_M_small (wS y_M_small b_M_small 1 (some .int)) (rD 0) (va_Pc [.int (nI q)] (fun U => NWs U)) (vp_Si (fun r => r = nI (smN q))) 0 0 (fun _ => False) := by
  refine x_enter (by decide) (Nat.le_of_ble_eq_true rfl) ?_
  intro p e s m below meth c ls hx hb hr hml hT hown hlk hnm hl hB
  have hN : NWs s := hB
  have hl : lv_has ls 1 [(0, .int (nI q))] := hl
  have hown : s.vm.findClass R_M = some m.cls := hown
  refine lv_iload_n hx hb d_M_small_0 rfl (lv_at hl 0 rfl) ?_
  refine lv_bipush (v := nI 65) hx hb d_M_small_1 (by decide) ?_
  refine x_icmp_lt (tgt := 19) hx hb d_M_small_3 (by decide) (fun c3 => ?_) (fun c3 => ?_)
  · refine lv_iload_n hx hb d_M_small_19 rfl (lv_at hl 0 rfl) ?_
    exact x_ri hx hb hr hlk d_M_small_20 (by unfold smN; congr 1; split <;> omega)
  · refine lv_iload_n hx hb d_M_small_6 rfl (lv_at hl 0 rfl) ?_
    refine lv_bipush (v := nI 90) hx hb d_M_small_7 (by decide) ?_
    refine x_icmp_gt (tgt := 19) hx hb d_M_small_9 (by decide) (fun c9 => ?_) (fun c9 => ?_)
    · refine lv_iload_n hx hb d_M_small_19 rfl (lv_at hl 0 rfl) ?_
      exact x_ri hx hb hr hlk d_M_small_20 (by unfold smN; congr 1; split <;> omega)
    · refine lv_iload_n hx hb d_M_small_12 rfl (lv_at hl 0 rfl) ?_
      refine lv_bipush (v := nI 32) hx hb d_M_small_13 (by decide) ?_
      refine x_iadd hx hb d_M_small_15 ?_
      refine lv_goto (tgt := 20) hx hb d_M_small_16 (by decide) ?_
      exact x_ri hx hb hr hlk d_M_small_20 (by unfold smN; congr 1; split <;> omega)

set_option maxRecDepth 100000 in
set_option maxHeartbeats 4000000 in
theorem c_M_takes (l : Launch) (dC : Nat → ClassId) (dI : Nat → Nat → Nat) (a : Nat → Nat) (t : Nat → ClassId) (σ : SM) (sz : Nat) (hG : GM σ) : Met l y_M_takes (wS y_M_takes b_M_takes 4 (some .boolean)) (rD 0) (va_Pc [.ref (a 0)] (MB (dC, dI) (yM t) (wM a t σ) sz)) (va_Qi (fun (r : Int32) (u : SM) => BR r (okT (m_sd σ) (m_sz σ)) ∧ u = mu_co (mu_sz σ 0) (m_sz σ)) (fun u => ME (dC, dI) (yM t) (va_A (wM a t σ) sz) (wM a t u)) (va_A (wM a t σ) sz)) 0 0 (va_A (wM a t σ) sz) := by
  refine x_enter (by decide) (Nat.le_of_ble_eq_true rfl) ?_
  intro p e s m below meth c ls hx hb hr hml hT hown hlk hnm hl hB
  obtain ⟨rfl, hP, hK, hN, hD0⟩ := hB
  have hD := hD0.self (sz := s.heap.size)
  generalize hAe : va_A (wM a t σ) s.heap.size = A at hD ⊢
  have hA : ∀ q : Nat, s.heap.size ≤ q → A q := fun q h => by rw [← hAe]; exact Or.inr h
  have hS : va_S A s.heap s.heap [] := va_S.rf
  have hP : va_P (dC, dI) classes (wM a t σ) s.heap := hP
  have hl : lv_has ls 4 [(0, .ref (a 0))] := hl
  have hown : s.vm.findClass R_M = some m.cls := hown
  have hG2 := hG
  obtain ⟨g_sz, g_sd, g_hn, g_kd, g_lv, g_tx, g_zs, g_ln, g_lf, g_lt, g_rn, g_lk, g_wy, g_wn, g_di, g_co⟩ := hG
  refine lv_aload_n hx hb d_M_takes_0 rfl (lv_at hl 0 rfl) ?_
  refine lv_aload_n hx hb d_M_takes_1 rfl (lv_at hl 0 rfl) ?_
  refine va_get (D := (dC, dI)) (C := R_M) (T := F_M) (N := 20) hx hb hT i_M hown hK hP 0 rfl rfl 2 (by decide) (hT _ k_M_56) (fun _ h9 => h9) (v := .int (nI (m_sz σ))) rfl d_M_takes_2 ?_
  refine va_put (D := (dC, dI)) (v := .int (nI (m_sz σ))) (ty := .int) (C := R_M) (T := F_M) (N := 20) hx hb hT i_M ft_M ft_M_ok n_M hown hK hP hD hS 0 rfl rfl 19 (by decide) (hT _ k_M_59) (fun _ h9 => h9) rfl (by decide +kernel) rfl rfl (Nat.le_of_ble_eq_true rfl) d_M_takes_5 (fun H locs hP hD hS => ?_)
  have hP : va_P (dC, dI) classes (wM a t (mu_co σ (m_sz σ))) H := hP
  have hD : va_D A (wM a t (mu_co σ (m_sz σ))) := hD
  refine lv_aload_n hx hb d_M_takes_8 rfl (lv_at hl 0 rfl) ?_
  refine lv_iconst (v := nI 0) hx hb d_M_takes_9 (by decide) ?_
  refine va_put (D := (dC, dI)) (v := .int (nI 0)) (ty := .int) (C := R_M) (T := F_M) (N := 20) hx hb hT i_M ft_M ft_M_ok n_M hown hK hP hD hS 0 rfl rfl 2 (by decide) (hT _ k_M_56) (fun _ h9 => h9) rfl (by decide +kernel) rfl rfl (Nat.le_of_ble_eq_true rfl) d_M_takes_10 (fun H locs hP hD hS => ?_)
  have hP : va_P (dC, dI) classes (wM a t (mu_co (mu_sz σ (0)) (m_sz σ))) H := hP
  have hD : va_D A (wM a t (mu_co (mu_sz σ (0)) (m_sz σ))) := hD
  have hloop37 : ∀ (n37 : Nat) (k : Nat) (y : Int32) (H : Heap) (locs : List Loc) (ls : Array Slot), k ≤ m_sz σ → ((y = nI 1 ∧ 1 ≤ m_sz σ ∧ m_sz σ ≤ 20 ∧ ∀ k', k' < k → isLD (m_sd σ k')) ∨ (y = nI 0 ∧ ¬ okT (m_sd σ) (m_sz σ))) → m_sz σ + 1 - k < n37 → va_P (dC, dI) classes (wM a t (mu_co (mu_sz σ (0)) (m_sz σ))) H → va_D A (wM a t (mu_co (mu_sz σ (0)) (m_sz σ))) → va_S A s.heap H locs → lv_has ls 4 [(0, .ref (a 0)), (1, .int y), (2, .int (nI k))] → W p l e (rD 0) s m ([.ref (a 0)] : List Value).toArray below meth c H locs 0 0 (MQ below (va_Qi (fun (r : Int32) (u : SM) => BR r (okT (m_sd σ) (m_sz σ)) ∧ u = mu_co (mu_sz σ 0) (m_sz σ)) (fun u => ME (dC, dI) (yM t) A (wM a t u)) A) ([.ref (a 0)] : List Value).toArray s 0 0 A) (F0 m 37 ls []) := by
    intro n37
    induction n37 with
    | zero => intro k y H locs ls _ _ h9; exact absurd h9 (Nat.not_lt_zero _)
    | succ n37 ih37 =>
      intro k y H locs ls hk hy hmu37 hP hD hS hl
      rcases hy with ⟨rfl, h1n, h2n, hall⟩ | ⟨rfl, hno⟩
      · refine lv_iload_n hx hb d_M_takes_37 rfl (lv_at hl 2 rfl) ?_
        refine lv_aload_n hx hb d_M_takes_38 rfl (lv_at hl 0 rfl) ?_
        refine va_get (D := (dC, dI)) (C := R_M) (T := F_M) (N := 20) hx hb hT i_M hown hK hP 0 rfl rfl 19 (by decide) (hT _ k_M_59) (fun _ h9 => h9) (v := .int (nI (m_sz σ))) rfl d_M_takes_39 ?_
        refine x_icmp_ge (tgt := 104) hx hb d_M_takes_42 (by decide) (fun c42 => ?_) (fun c42 => ?_)
        · refine lv_iload_n hx hb d_M_takes_104 rfl (lv_at hl 1 rfl) ?_
          exact x_mz (wl := wM a t) (mu_co (mu_sz σ (0)) (m_sz σ)) hx hb hr hlk hK hP hD hS d_M_takes_105 rfl ⟨Or.inl ⟨rfl, h1n, h2n, fun k' h9 => hall k' (by omega)⟩, rfl⟩
        · refine lv_aload_n hx hb d_M_takes_45 rfl (lv_at hl 0 rfl) ?_
          refine va_get (D := (dC, dI)) (C := R_M) (T := F_M) (N := 20) hx hb hT i_M hown hK hP 0 rfl rfl 1 (by decide) (hT _ k_M_7) (fun _ h9 => h9) (v := .ref (a 1)) rfl d_M_takes_46 ?_
          refine lv_iload_n hx hb d_M_takes_49 rfl (lv_at hl 2 rfl) ?_
          refine x_Rald hx hb hK hP 1 0 (f := (m_sd σ)) rfl rfl d_M_takes_50 (by omega) ?_
          have gk := g_sd k
          rcases Nat.lt_or_ge (m_sd σ k) 128 with h128 | h128
          · rw [sb_pos _ h128]
            refine lv_istore_n (lv' := [(3, .int (nI (m_sd σ k))), (0, .ref (a 0)), (1, .int (nI 1)), (2, .int (nI k))]) hx hb d_M_takes_51 rfl hl (by decide) rfl (fun ls hl => ?_)
            refine lv_iload_n hx hb d_M_takes_52 rfl (lv_at hl 2 rfl) ?_
            refine x_if_eq (tgt := 96) hx hb d_M_takes_53 (by decide) (fun h => absurd h (by decide)) (fun _ => ?_)
            refine lv_iload_n hx hb d_M_takes_56 rfl (lv_at hl 0 rfl) ?_
            refine lv_bipush (v := nI 48) hx hb d_M_takes_57 (by decide) ?_
            refine x_icmp_lt (tgt := 68) hx hb d_M_takes_59 (by decide) (fun c59 => ?_) (fun c59 => ?_)
            · refine lv_iload_n hx hb d_M_takes_68 rfl (lv_at hl 0 rfl) ?_
              refine lv_bipush (v := nI 65) hx hb d_M_takes_69 (by decide) ?_
              refine x_icmp_lt (tgt := 80) hx hb d_M_takes_71 (by decide) (fun c71 => ?_) (fun c71 => ?_)
              · refine lv_iload_n hx hb d_M_takes_80 rfl (lv_at hl 0 rfl) ?_
                refine lv_bipush (v := nI 97) hx hb d_M_takes_81 (by decide) ?_
                refine x_icmp_lt (tgt := 96) hx hb d_M_takes_83 (by decide) (fun c83 => ?_) (fun c83 => ?_)
                · refine lv_iconst (v := nI 0) hx hb d_M_takes_96 (by decide) ?_
                  refine lv_istore_n (lv' := [(1, .int (nI 0)), (3, .int (nI (m_sd σ k))), (0, .ref (a 0)), (2, .int (nI k))]) hx hb d_M_takes_97 rfl hl (by decide) rfl (fun ls hl => ?_)
                  refine x_iinc (lv' := [(2, .int (nI (k + 1))), (1, .int (nI 0)), (3, .int (nI (m_sd σ k))), (0, .ref (a 0))]) hx hb d_M_takes_98 hl (k := 3) rfl (by decide) rfl (fun ls hl => ?_)
                  refine lv_goto (tgt := 37) hx hb d_M_takes_101 (by decide) ?_
                  exact ih37 (k + 1) _ H locs ls (by omega) (Or.inr ⟨rfl, by first | exact hno | (intro h9; have h8 := h9.2.2 k (by omega); unfold isLD at h8; omega)⟩) (by omega) hP hD hS (lv_sub hl [3, 1, 0] rfl)
                · refine lv_iload_n hx hb d_M_takes_86 rfl (lv_at hl 0 rfl) ?_
                  refine lv_bipush (v := nI 122) hx hb d_M_takes_87 (by decide) ?_
                  refine x_icmp_gt (tgt := 96) hx hb d_M_takes_89 (by decide) (fun c89 => ?_) (fun c89 => ?_)
                  · refine lv_iconst (v := nI 0) hx hb d_M_takes_96 (by decide) ?_
                    refine lv_istore_n (lv' := [(1, .int (nI 0)), (3, .int (nI (m_sd σ k))), (0, .ref (a 0)), (2, .int (nI k))]) hx hb d_M_takes_97 rfl hl (by decide) rfl (fun ls hl => ?_)
                    refine x_iinc (lv' := [(2, .int (nI (k + 1))), (1, .int (nI 0)), (3, .int (nI (m_sd σ k))), (0, .ref (a 0))]) hx hb d_M_takes_98 hl (k := 3) rfl (by decide) rfl (fun ls hl => ?_)
                    refine lv_goto (tgt := 37) hx hb d_M_takes_101 (by decide) ?_
                    exact ih37 (k + 1) _ H locs ls (by omega) (Or.inr ⟨rfl, by first | exact hno | (intro h9; have h8 := h9.2.2 k (by omega); unfold isLD at h8; omega)⟩) (by omega) hP hD hS (lv_sub hl [3, 1, 0] rfl)
                  · refine lv_iconst (v := nI 1) hx hb d_M_takes_92 (by decide) ?_
                    refine lv_goto (tgt := 97) hx hb d_M_takes_93 (by decide) ?_
                    refine lv_istore_n (lv' := [(1, .int (nI 1)), (3, .int (nI (m_sd σ k))), (0, .ref (a 0)), (2, .int (nI k))]) hx hb d_M_takes_97 rfl hl (by decide) rfl (fun ls hl => ?_)
                    refine x_iinc (lv' := [(2, .int (nI (k + 1))), (1, .int (nI 1)), (3, .int (nI (m_sd σ k))), (0, .ref (a 0))]) hx hb d_M_takes_98 hl (k := 3) rfl (by decide) rfl (fun ls hl => ?_)
                    refine lv_goto (tgt := 37) hx hb d_M_takes_101 (by decide) ?_
                    exact ih37 (k + 1) _ H locs ls (by omega) (Or.inl ⟨rfl, h1n, h2n, fun k' h9 => by rcases Nat.lt_succ_iff_lt_or_eq.mp h9 with h8 | h8; exact hall k' h8; rw [h8]; unfold isLD; omega⟩) (by omega) hP hD hS (lv_sub hl [3, 1, 0] rfl)
              · refine lv_iload_n hx hb d_M_takes_74 rfl (lv_at hl 0 rfl) ?_
                refine lv_bipush (v := nI 90) hx hb d_M_takes_75 (by decide) ?_
                refine x_icmp_le (tgt := 92) hx hb d_M_takes_77 (by decide) (fun c77 => ?_) (fun c77 => ?_)
                · refine lv_iconst (v := nI 1) hx hb d_M_takes_92 (by decide) ?_
                  refine lv_goto (tgt := 97) hx hb d_M_takes_93 (by decide) ?_
                  refine lv_istore_n (lv' := [(1, .int (nI 1)), (3, .int (nI (m_sd σ k))), (0, .ref (a 0)), (2, .int (nI k))]) hx hb d_M_takes_97 rfl hl (by decide) rfl (fun ls hl => ?_)
                  refine x_iinc (lv' := [(2, .int (nI (k + 1))), (1, .int (nI 1)), (3, .int (nI (m_sd σ k))), (0, .ref (a 0))]) hx hb d_M_takes_98 hl (k := 3) rfl (by decide) rfl (fun ls hl => ?_)
                  refine lv_goto (tgt := 37) hx hb d_M_takes_101 (by decide) ?_
                  exact ih37 (k + 1) _ H locs ls (by omega) (Or.inl ⟨rfl, h1n, h2n, fun k' h9 => by rcases Nat.lt_succ_iff_lt_or_eq.mp h9 with h8 | h8; exact hall k' h8; rw [h8]; unfold isLD; omega⟩) (by omega) hP hD hS (lv_sub hl [3, 1, 0] rfl)
                · refine lv_iload_n hx hb d_M_takes_80 rfl (lv_at hl 0 rfl) ?_
                  refine lv_bipush (v := nI 97) hx hb d_M_takes_81 (by decide) ?_
                  refine x_icmp_lt (tgt := 96) hx hb d_M_takes_83 (by decide) (fun c83 => ?_) (fun c83 => ?_)
                  · refine lv_iconst (v := nI 0) hx hb d_M_takes_96 (by decide) ?_
                    refine lv_istore_n (lv' := [(1, .int (nI 0)), (3, .int (nI (m_sd σ k))), (0, .ref (a 0)), (2, .int (nI k))]) hx hb d_M_takes_97 rfl hl (by decide) rfl (fun ls hl => ?_)
                    refine x_iinc (lv' := [(2, .int (nI (k + 1))), (1, .int (nI 0)), (3, .int (nI (m_sd σ k))), (0, .ref (a 0))]) hx hb d_M_takes_98 hl (k := 3) rfl (by decide) rfl (fun ls hl => ?_)
                    refine lv_goto (tgt := 37) hx hb d_M_takes_101 (by decide) ?_
                    exact ih37 (k + 1) _ H locs ls (by omega) (Or.inr ⟨rfl, by first | exact hno | (intro h9; have h8 := h9.2.2 k (by omega); unfold isLD at h8; omega)⟩) (by omega) hP hD hS (lv_sub hl [3, 1, 0] rfl)
                  · refine lv_iload_n hx hb d_M_takes_86 rfl (lv_at hl 0 rfl) ?_
                    refine lv_bipush (v := nI 122) hx hb d_M_takes_87 (by decide) ?_
                    refine x_icmp_gt (tgt := 96) hx hb d_M_takes_89 (by decide) (fun c89 => ?_) (fun c89 => ?_)
                    · refine lv_iconst (v := nI 0) hx hb d_M_takes_96 (by decide) ?_
                      refine lv_istore_n (lv' := [(1, .int (nI 0)), (3, .int (nI (m_sd σ k))), (0, .ref (a 0)), (2, .int (nI k))]) hx hb d_M_takes_97 rfl hl (by decide) rfl (fun ls hl => ?_)
                      refine x_iinc (lv' := [(2, .int (nI (k + 1))), (1, .int (nI 0)), (3, .int (nI (m_sd σ k))), (0, .ref (a 0))]) hx hb d_M_takes_98 hl (k := 3) rfl (by decide) rfl (fun ls hl => ?_)
                      refine lv_goto (tgt := 37) hx hb d_M_takes_101 (by decide) ?_
                      exact ih37 (k + 1) _ H locs ls (by omega) (Or.inr ⟨rfl, by first | exact hno | (intro h9; have h8 := h9.2.2 k (by omega); unfold isLD at h8; omega)⟩) (by omega) hP hD hS (lv_sub hl [3, 1, 0] rfl)
                    · refine lv_iconst (v := nI 1) hx hb d_M_takes_92 (by decide) ?_
                      refine lv_goto (tgt := 97) hx hb d_M_takes_93 (by decide) ?_
                      refine lv_istore_n (lv' := [(1, .int (nI 1)), (3, .int (nI (m_sd σ k))), (0, .ref (a 0)), (2, .int (nI k))]) hx hb d_M_takes_97 rfl hl (by decide) rfl (fun ls hl => ?_)
                      refine x_iinc (lv' := [(2, .int (nI (k + 1))), (1, .int (nI 1)), (3, .int (nI (m_sd σ k))), (0, .ref (a 0))]) hx hb d_M_takes_98 hl (k := 3) rfl (by decide) rfl (fun ls hl => ?_)
                      refine lv_goto (tgt := 37) hx hb d_M_takes_101 (by decide) ?_
                      exact ih37 (k + 1) _ H locs ls (by omega) (Or.inl ⟨rfl, h1n, h2n, fun k' h9 => by rcases Nat.lt_succ_iff_lt_or_eq.mp h9 with h8 | h8; exact hall k' h8; rw [h8]; unfold isLD; omega⟩) (by omega) hP hD hS (lv_sub hl [3, 1, 0] rfl)
            · refine lv_iload_n hx hb d_M_takes_62 rfl (lv_at hl 0 rfl) ?_
              refine lv_bipush (v := nI 57) hx hb d_M_takes_63 (by decide) ?_
              refine x_icmp_le (tgt := 92) hx hb d_M_takes_65 (by decide) (fun c65 => ?_) (fun c65 => ?_)
              · refine lv_iconst (v := nI 1) hx hb d_M_takes_92 (by decide) ?_
                refine lv_goto (tgt := 97) hx hb d_M_takes_93 (by decide) ?_
                refine lv_istore_n (lv' := [(1, .int (nI 1)), (3, .int (nI (m_sd σ k))), (0, .ref (a 0)), (2, .int (nI k))]) hx hb d_M_takes_97 rfl hl (by decide) rfl (fun ls hl => ?_)
                refine x_iinc (lv' := [(2, .int (nI (k + 1))), (1, .int (nI 1)), (3, .int (nI (m_sd σ k))), (0, .ref (a 0))]) hx hb d_M_takes_98 hl (k := 3) rfl (by decide) rfl (fun ls hl => ?_)
                refine lv_goto (tgt := 37) hx hb d_M_takes_101 (by decide) ?_
                exact ih37 (k + 1) _ H locs ls (by omega) (Or.inl ⟨rfl, h1n, h2n, fun k' h9 => by rcases Nat.lt_succ_iff_lt_or_eq.mp h9 with h8 | h8; exact hall k' h8; rw [h8]; unfold isLD; omega⟩) (by omega) hP hD hS (lv_sub hl [3, 1, 0] rfl)
              · refine lv_iload_n hx hb d_M_takes_68 rfl (lv_at hl 0 rfl) ?_
                refine lv_bipush (v := nI 65) hx hb d_M_takes_69 (by decide) ?_
                refine x_icmp_lt (tgt := 80) hx hb d_M_takes_71 (by decide) (fun c71 => ?_) (fun c71 => ?_)
                · refine lv_iload_n hx hb d_M_takes_80 rfl (lv_at hl 0 rfl) ?_
                  refine lv_bipush (v := nI 97) hx hb d_M_takes_81 (by decide) ?_
                  refine x_icmp_lt (tgt := 96) hx hb d_M_takes_83 (by decide) (fun c83 => ?_) (fun c83 => ?_)
                  · refine lv_iconst (v := nI 0) hx hb d_M_takes_96 (by decide) ?_
                    refine lv_istore_n (lv' := [(1, .int (nI 0)), (3, .int (nI (m_sd σ k))), (0, .ref (a 0)), (2, .int (nI k))]) hx hb d_M_takes_97 rfl hl (by decide) rfl (fun ls hl => ?_)
                    refine x_iinc (lv' := [(2, .int (nI (k + 1))), (1, .int (nI 0)), (3, .int (nI (m_sd σ k))), (0, .ref (a 0))]) hx hb d_M_takes_98 hl (k := 3) rfl (by decide) rfl (fun ls hl => ?_)
                    refine lv_goto (tgt := 37) hx hb d_M_takes_101 (by decide) ?_
                    exact ih37 (k + 1) _ H locs ls (by omega) (Or.inr ⟨rfl, by first | exact hno | (intro h9; have h8 := h9.2.2 k (by omega); unfold isLD at h8; omega)⟩) (by omega) hP hD hS (lv_sub hl [3, 1, 0] rfl)
                  · refine lv_iload_n hx hb d_M_takes_86 rfl (lv_at hl 0 rfl) ?_
                    refine lv_bipush (v := nI 122) hx hb d_M_takes_87 (by decide) ?_
                    refine x_icmp_gt (tgt := 96) hx hb d_M_takes_89 (by decide) (fun c89 => ?_) (fun c89 => ?_)
                    · refine lv_iconst (v := nI 0) hx hb d_M_takes_96 (by decide) ?_
                      refine lv_istore_n (lv' := [(1, .int (nI 0)), (3, .int (nI (m_sd σ k))), (0, .ref (a 0)), (2, .int (nI k))]) hx hb d_M_takes_97 rfl hl (by decide) rfl (fun ls hl => ?_)
                      refine x_iinc (lv' := [(2, .int (nI (k + 1))), (1, .int (nI 0)), (3, .int (nI (m_sd σ k))), (0, .ref (a 0))]) hx hb d_M_takes_98 hl (k := 3) rfl (by decide) rfl (fun ls hl => ?_)
                      refine lv_goto (tgt := 37) hx hb d_M_takes_101 (by decide) ?_
                      exact ih37 (k + 1) _ H locs ls (by omega) (Or.inr ⟨rfl, by first | exact hno | (intro h9; have h8 := h9.2.2 k (by omega); unfold isLD at h8; omega)⟩) (by omega) hP hD hS (lv_sub hl [3, 1, 0] rfl)
                    · refine lv_iconst (v := nI 1) hx hb d_M_takes_92 (by decide) ?_
                      refine lv_goto (tgt := 97) hx hb d_M_takes_93 (by decide) ?_
                      refine lv_istore_n (lv' := [(1, .int (nI 1)), (3, .int (nI (m_sd σ k))), (0, .ref (a 0)), (2, .int (nI k))]) hx hb d_M_takes_97 rfl hl (by decide) rfl (fun ls hl => ?_)
                      refine x_iinc (lv' := [(2, .int (nI (k + 1))), (1, .int (nI 1)), (3, .int (nI (m_sd σ k))), (0, .ref (a 0))]) hx hb d_M_takes_98 hl (k := 3) rfl (by decide) rfl (fun ls hl => ?_)
                      refine lv_goto (tgt := 37) hx hb d_M_takes_101 (by decide) ?_
                      exact ih37 (k + 1) _ H locs ls (by omega) (Or.inl ⟨rfl, h1n, h2n, fun k' h9 => by rcases Nat.lt_succ_iff_lt_or_eq.mp h9 with h8 | h8; exact hall k' h8; rw [h8]; unfold isLD; omega⟩) (by omega) hP hD hS (lv_sub hl [3, 1, 0] rfl)
                · refine lv_iload_n hx hb d_M_takes_74 rfl (lv_at hl 0 rfl) ?_
                  refine lv_bipush (v := nI 90) hx hb d_M_takes_75 (by decide) ?_
                  refine x_icmp_le (tgt := 92) hx hb d_M_takes_77 (by decide) (fun c77 => ?_) (fun c77 => ?_)
                  · refine lv_iconst (v := nI 1) hx hb d_M_takes_92 (by decide) ?_
                    refine lv_goto (tgt := 97) hx hb d_M_takes_93 (by decide) ?_
                    refine lv_istore_n (lv' := [(1, .int (nI 1)), (3, .int (nI (m_sd σ k))), (0, .ref (a 0)), (2, .int (nI k))]) hx hb d_M_takes_97 rfl hl (by decide) rfl (fun ls hl => ?_)
                    refine x_iinc (lv' := [(2, .int (nI (k + 1))), (1, .int (nI 1)), (3, .int (nI (m_sd σ k))), (0, .ref (a 0))]) hx hb d_M_takes_98 hl (k := 3) rfl (by decide) rfl (fun ls hl => ?_)
                    refine lv_goto (tgt := 37) hx hb d_M_takes_101 (by decide) ?_
                    exact ih37 (k + 1) _ H locs ls (by omega) (Or.inl ⟨rfl, h1n, h2n, fun k' h9 => by rcases Nat.lt_succ_iff_lt_or_eq.mp h9 with h8 | h8; exact hall k' h8; rw [h8]; unfold isLD; omega⟩) (by omega) hP hD hS (lv_sub hl [3, 1, 0] rfl)
                  · refine lv_iload_n hx hb d_M_takes_80 rfl (lv_at hl 0 rfl) ?_
                    refine lv_bipush (v := nI 97) hx hb d_M_takes_81 (by decide) ?_
                    refine x_icmp_lt (tgt := 96) hx hb d_M_takes_83 (by decide) (fun c83 => ?_) (fun c83 => ?_)
                    · refine lv_iconst (v := nI 0) hx hb d_M_takes_96 (by decide) ?_
                      refine lv_istore_n (lv' := [(1, .int (nI 0)), (3, .int (nI (m_sd σ k))), (0, .ref (a 0)), (2, .int (nI k))]) hx hb d_M_takes_97 rfl hl (by decide) rfl (fun ls hl => ?_)
                      refine x_iinc (lv' := [(2, .int (nI (k + 1))), (1, .int (nI 0)), (3, .int (nI (m_sd σ k))), (0, .ref (a 0))]) hx hb d_M_takes_98 hl (k := 3) rfl (by decide) rfl (fun ls hl => ?_)
                      refine lv_goto (tgt := 37) hx hb d_M_takes_101 (by decide) ?_
                      exact ih37 (k + 1) _ H locs ls (by omega) (Or.inr ⟨rfl, by first | exact hno | (intro h9; have h8 := h9.2.2 k (by omega); unfold isLD at h8; omega)⟩) (by omega) hP hD hS (lv_sub hl [3, 1, 0] rfl)
                    · refine lv_iload_n hx hb d_M_takes_86 rfl (lv_at hl 0 rfl) ?_
                      refine lv_bipush (v := nI 122) hx hb d_M_takes_87 (by decide) ?_
                      refine x_icmp_gt (tgt := 96) hx hb d_M_takes_89 (by decide) (fun c89 => ?_) (fun c89 => ?_)
                      · refine lv_iconst (v := nI 0) hx hb d_M_takes_96 (by decide) ?_
                        refine lv_istore_n (lv' := [(1, .int (nI 0)), (3, .int (nI (m_sd σ k))), (0, .ref (a 0)), (2, .int (nI k))]) hx hb d_M_takes_97 rfl hl (by decide) rfl (fun ls hl => ?_)
                        refine x_iinc (lv' := [(2, .int (nI (k + 1))), (1, .int (nI 0)), (3, .int (nI (m_sd σ k))), (0, .ref (a 0))]) hx hb d_M_takes_98 hl (k := 3) rfl (by decide) rfl (fun ls hl => ?_)
                        refine lv_goto (tgt := 37) hx hb d_M_takes_101 (by decide) ?_
                        exact ih37 (k + 1) _ H locs ls (by omega) (Or.inr ⟨rfl, by first | exact hno | (intro h9; have h8 := h9.2.2 k (by omega); unfold isLD at h8; omega)⟩) (by omega) hP hD hS (lv_sub hl [3, 1, 0] rfl)
                      · refine lv_iconst (v := nI 1) hx hb d_M_takes_92 (by decide) ?_
                        refine lv_goto (tgt := 97) hx hb d_M_takes_93 (by decide) ?_
                        refine lv_istore_n (lv' := [(1, .int (nI 1)), (3, .int (nI (m_sd σ k))), (0, .ref (a 0)), (2, .int (nI k))]) hx hb d_M_takes_97 rfl hl (by decide) rfl (fun ls hl => ?_)
                        refine x_iinc (lv' := [(2, .int (nI (k + 1))), (1, .int (nI 1)), (3, .int (nI (m_sd σ k))), (0, .ref (a 0))]) hx hb d_M_takes_98 hl (k := 3) rfl (by decide) rfl (fun ls hl => ?_)
                        refine lv_goto (tgt := 37) hx hb d_M_takes_101 (by decide) ?_
                        exact ih37 (k + 1) _ H locs ls (by omega) (Or.inl ⟨rfl, h1n, h2n, fun k' h9 => by rcases Nat.lt_succ_iff_lt_or_eq.mp h9 with h8 | h8; exact hall k' h8; rw [h8]; unfold isLD; omega⟩) (by omega) hP hD hS (lv_sub hl [3, 1, 0] rfl)
          · have hneg := sb_neg _ gk h128
            refine lv_istore_n (lv' := [(3, .int (sb_b ((m_sd σ) k))), (0, .ref (a 0)), (1, .int (nI 1)), (2, .int (nI k))]) hx hb d_M_takes_51 rfl hl (by decide) rfl (fun ls hl => ?_)
            refine lv_iload_n hx hb d_M_takes_52 rfl (lv_at hl 2 rfl) ?_
            refine x_if_eq (tgt := 96) hx hb d_M_takes_53 (by decide) (fun h => absurd h (by decide)) (fun _ => ?_)
            refine lv_iload_n hx hb d_M_takes_56 rfl (lv_at hl 0 rfl) ?_
            refine lv_bipush (v := nI 48) hx hb d_M_takes_57 (by decide) ?_
            refine lv_icmp_lt (tgt := 68) hx hb d_M_takes_59 (by decide) (fun _ => ?_) (fun h9 => absurd (neg_ltN hneg (by decide)) h9)
            refine lv_iload_n hx hb d_M_takes_68 rfl (lv_at hl 0 rfl) ?_
            refine lv_bipush (v := nI 65) hx hb d_M_takes_69 (by decide) ?_
            refine lv_icmp_lt (tgt := 80) hx hb d_M_takes_71 (by decide) (fun _ => ?_) (fun h9 => absurd (neg_ltN hneg (by decide)) h9)
            refine lv_iload_n hx hb d_M_takes_80 rfl (lv_at hl 0 rfl) ?_
            refine lv_bipush (v := nI 97) hx hb d_M_takes_81 (by decide) ?_
            refine lv_icmp_lt (tgt := 96) hx hb d_M_takes_83 (by decide) (fun _ => ?_) (fun h9 => absurd (neg_ltN hneg (by decide)) h9)
            refine lv_iconst (v := nI 0) hx hb d_M_takes_96 (by decide) ?_
            refine lv_istore_n (lv' := [(1, .int (nI 0)), (3, .int (sb_b ((m_sd σ) k))), (0, .ref (a 0)), (2, .int (nI k))]) hx hb d_M_takes_97 rfl hl (by decide) rfl (fun ls hl => ?_)
            refine x_iinc (lv' := [(2, .int (nI (k + 1))), (1, .int (nI 0)), (3, .int (sb_b ((m_sd σ) k))), (0, .ref (a 0))]) hx hb d_M_takes_98 hl (k := 3) rfl (by decide) rfl (fun ls hl => ?_)
            refine lv_goto (tgt := 37) hx hb d_M_takes_101 (by decide) ?_
            exact ih37 (k + 1) _ H locs ls (by omega) (Or.inr ⟨rfl, by first | exact hno | (intro h9; have h8 := h9.2.2 k (by omega); unfold isLD at h8; omega)⟩) (by omega) hP hD hS (lv_sub hl [3, 1, 0] rfl)
      · refine lv_iload_n hx hb d_M_takes_37 rfl (lv_at hl 2 rfl) ?_
        refine lv_aload_n hx hb d_M_takes_38 rfl (lv_at hl 0 rfl) ?_
        refine va_get (D := (dC, dI)) (C := R_M) (T := F_M) (N := 20) hx hb hT i_M hown hK hP 0 rfl rfl 19 (by decide) (hT _ k_M_59) (fun _ h9 => h9) (v := .int (nI (m_sz σ))) rfl d_M_takes_39 ?_
        refine x_icmp_ge (tgt := 104) hx hb d_M_takes_42 (by decide) (fun c42 => ?_) (fun c42 => ?_)
        · refine lv_iload_n hx hb d_M_takes_104 rfl (lv_at hl 1 rfl) ?_
          exact x_mz (wl := wM a t) (mu_co (mu_sz σ (0)) (m_sz σ)) hx hb hr hlk hK hP hD hS d_M_takes_105 rfl ⟨Or.inr ⟨rfl, hno⟩, rfl⟩
        · refine lv_aload_n hx hb d_M_takes_45 rfl (lv_at hl 0 rfl) ?_
          refine va_get (D := (dC, dI)) (C := R_M) (T := F_M) (N := 20) hx hb hT i_M hown hK hP 0 rfl rfl 1 (by decide) (hT _ k_M_7) (fun _ h9 => h9) (v := .ref (a 1)) rfl d_M_takes_46 ?_
          refine lv_iload_n hx hb d_M_takes_49 rfl (lv_at hl 2 rfl) ?_
          refine x_Rald hx hb hK hP 1 0 (f := (m_sd σ)) rfl rfl d_M_takes_50 (by omega) ?_
          have gk := g_sd k
          rcases Nat.lt_or_ge (m_sd σ k) 128 with h128 | h128
          · rw [sb_pos _ h128]
            refine lv_istore_n (lv' := [(3, .int (nI (m_sd σ k))), (0, .ref (a 0)), (1, .int (nI 0)), (2, .int (nI k))]) hx hb d_M_takes_51 rfl hl (by decide) rfl (fun ls hl => ?_)
            refine lv_iload_n hx hb d_M_takes_52 rfl (lv_at hl 2 rfl) ?_
            refine x_if_eq (tgt := 96) hx hb d_M_takes_53 (by decide) (fun _ => ?_) (fun h => absurd h (by decide))
            refine lv_iconst (v := nI 0) hx hb d_M_takes_96 (by decide) ?_
            refine lv_istore_n (lv' := [(1, .int (nI 0)), (3, .int (nI (m_sd σ k))), (0, .ref (a 0)), (2, .int (nI k))]) hx hb d_M_takes_97 rfl hl (by decide) rfl (fun ls hl => ?_)
            refine x_iinc (lv' := [(2, .int (nI (k + 1))), (1, .int (nI 0)), (3, .int (nI (m_sd σ k))), (0, .ref (a 0))]) hx hb d_M_takes_98 hl (k := 3) rfl (by decide) rfl (fun ls hl => ?_)
            refine lv_goto (tgt := 37) hx hb d_M_takes_101 (by decide) ?_
            exact ih37 (k + 1) _ H locs ls (by omega) (Or.inr ⟨rfl, by first | exact hno | (intro h9; have h8 := h9.2.2 k (by omega); unfold isLD at h8; omega)⟩) (by omega) hP hD hS (lv_sub hl [3, 1, 0] rfl)
          · have hneg := sb_neg _ gk h128
            refine lv_istore_n (lv' := [(3, .int (sb_b ((m_sd σ) k))), (0, .ref (a 0)), (1, .int (nI 0)), (2, .int (nI k))]) hx hb d_M_takes_51 rfl hl (by decide) rfl (fun ls hl => ?_)
            refine lv_iload_n hx hb d_M_takes_52 rfl (lv_at hl 2 rfl) ?_
            refine x_if_eq (tgt := 96) hx hb d_M_takes_53 (by decide) (fun _ => ?_) (fun h => absurd h (by decide))
            refine lv_iconst (v := nI 0) hx hb d_M_takes_96 (by decide) ?_
            refine lv_istore_n (lv' := [(1, .int (nI 0)), (3, .int (sb_b ((m_sd σ) k))), (0, .ref (a 0)), (2, .int (nI k))]) hx hb d_M_takes_97 rfl hl (by decide) rfl (fun ls hl => ?_)
            refine x_iinc (lv' := [(2, .int (nI (k + 1))), (1, .int (nI 0)), (3, .int (sb_b ((m_sd σ) k))), (0, .ref (a 0))]) hx hb d_M_takes_98 hl (k := 3) rfl (by decide) rfl (fun ls hl => ?_)
            refine lv_goto (tgt := 37) hx hb d_M_takes_101 (by decide) ?_
            exact ih37 (k + 1) _ H locs ls (by omega) (Or.inr ⟨rfl, by first | exact hno | (intro h9; have h8 := h9.2.2 k (by omega); unfold isLD at h8; omega)⟩) (by omega) hP hD hS (lv_sub hl [3, 1, 0] rfl)
  refine lv_aload_n hx hb d_M_takes_13 rfl (lv_at hl 0 rfl) ?_
  refine va_get (D := (dC, dI)) (C := R_M) (T := F_M) (N := 20) hx hb hT i_M hown hK hP 0 rfl rfl 19 (by decide) (hT _ k_M_59) (fun _ h9 => h9) (v := .int (nI (m_sz σ))) rfl d_M_takes_14 ?_
  refine x_if_le (tgt := 33) hx hb d_M_takes_17 (by decide) (fun c17 => ?_) (fun c17 => ?_)
  · refine lv_iconst (v := nI 0) hx hb d_M_takes_33 (by decide) ?_
    refine lv_istore_n (lv' := [(1, .int (nI 0)), (0, .ref (a 0))]) hx hb d_M_takes_34 rfl hl (by decide) rfl (fun ls hl => ?_)
    refine lv_iconst (v := nI 0) hx hb d_M_takes_35 (by decide) ?_
    refine lv_istore_n (lv' := [(2, .int (nI 0)), (1, .int (nI 0)), (0, .ref (a 0))]) hx hb d_M_takes_36 rfl hl (by decide) rfl (fun ls hl => ?_)
    exact hloop37 _ 0 _ _ _ ls (by omega) (by first | exact Or.inl ⟨rfl, by omega, by omega, fun k' h9 => absurd h9 (Nat.not_lt_zero _)⟩ | exact Or.inr ⟨rfl, fun h9 => by have h8 := h9.1; have h7 := h9.2.1; omega⟩) (Nat.lt_succ_self _) hP hD hS (lv_sub hl [2, 1, 0] rfl)
  · refine lv_aload_n hx hb d_M_takes_20 rfl (lv_at hl 0 rfl) ?_
    refine va_get (D := (dC, dI)) (C := R_M) (T := F_M) (N := 20) hx hb hT i_M hown hK hP 0 rfl rfl 19 (by decide) (hT _ k_M_59) (fun _ h9 => h9) (v := .int (nI (m_sz σ))) rfl d_M_takes_21 ?_
    refine lv_bipush (v := nI 21) hx hb d_M_takes_24 (by decide) ?_
    refine x_icmp_ge (tgt := 33) hx hb d_M_takes_26 (by decide) (fun c26 => ?_) (fun c26 => ?_)
    · refine lv_iconst (v := nI 0) hx hb d_M_takes_33 (by decide) ?_
      refine lv_istore_n (lv' := [(1, .int (nI 0)), (0, .ref (a 0))]) hx hb d_M_takes_34 rfl hl (by decide) rfl (fun ls hl => ?_)
      refine lv_iconst (v := nI 0) hx hb d_M_takes_35 (by decide) ?_
      refine lv_istore_n (lv' := [(2, .int (nI 0)), (1, .int (nI 0)), (0, .ref (a 0))]) hx hb d_M_takes_36 rfl hl (by decide) rfl (fun ls hl => ?_)
      exact hloop37 _ 0 _ _ _ ls (by omega) (by first | exact Or.inl ⟨rfl, by omega, by omega, fun k' h9 => absurd h9 (Nat.not_lt_zero _)⟩ | exact Or.inr ⟨rfl, fun h9 => by have h8 := h9.1; have h7 := h9.2.1; omega⟩) (Nat.lt_succ_self _) hP hD hS (lv_sub hl [2, 1, 0] rfl)
    · refine lv_iconst (v := nI 1) hx hb d_M_takes_29 (by decide) ?_
      refine lv_goto (tgt := 34) hx hb d_M_takes_30 (by decide) ?_
      refine lv_istore_n (lv' := [(1, .int (nI 1)), (0, .ref (a 0))]) hx hb d_M_takes_34 rfl hl (by decide) rfl (fun ls hl => ?_)
      refine lv_iconst (v := nI 0) hx hb d_M_takes_35 (by decide) ?_
      refine lv_istore_n (lv' := [(2, .int (nI 0)), (1, .int (nI 1)), (0, .ref (a 0))]) hx hb d_M_takes_36 rfl hl (by decide) rfl (fun ls hl => ?_)
      exact hloop37 _ 0 _ _ _ ls (by omega) (by first | exact Or.inl ⟨rfl, by omega, by omega, fun k' h9 => absurd h9 (Nat.not_lt_zero _)⟩ | exact Or.inr ⟨rfl, fun h9 => by have h8 := h9.1; have h7 := h9.2.1; omega⟩) (Nat.lt_succ_self _) hP hD hS (lv_sub hl [2, 1, 0] rfl)

def m_same (σ : SM) (h : Nat) : Prop := sameT (fun i => m_tx σ (20 * h + i)) (m_zs σ h) (m_sd σ) (m_co σ)
set_option maxRecDepth 100000 in
set_option maxHeartbeats 4000000 in
theorem c_M_hasText (l : Launch) (dC : Nat → ClassId) (dI : Nat → Nat → Nat) (a : Nat → Nat) (t : Nat → ClassId) (σ : SM) (hG : GM σ) (j : Nat) (hj1 : 1 ≤ j) (hj2 : j ≤ 60) (hc : m_co σ ≤ 20) (hq : ∀ k, k < m_co σ → m_sd σ k < 128) : Met l y_M_hasText (wS y_M_hasText b_M_hasText 4 (some .boolean)) (rD 1) (va_Pc [.ref (a 0), .int (nI j)] (RB (dC, dI) (yM t) (wM a t σ))) (vp_Si (fun r => BR r (m_same σ j))) 0 0 (fun _ => False) := by
  refine x_enter (by decide) (Nat.le_of_ble_eq_true rfl) ?_
  intro p e s m below meth c ls hx hb hr hml hT hown hlk hnm hl hB
  obtain ⟨hP, hK, hN⟩ := hB
  have hl : lv_has ls 4 [(0, .ref (a 0)), (1, .int (nI j))] := hl
  have hown : s.vm.findClass R_M = some m.cls := hown
  have hG2 := hG
  obtain ⟨g_sz, g_sd, g_hn, g_kd, g_lv, g_tx, g_zs, g_ln, g_lf, g_lt, g_rn, g_lk, g_wy, g_wn, g_di, g_co⟩ := hG
  have gj := g_zs j
  have hloop21 : ∀ (n21 : Nat) (k : Nat) (y : Int32) (ls : Array Slot), k ≤ m_co σ → ((y = nI 1 ∧ m_zs σ j = m_co σ ∧ ∀ k', k' < k → smN (m_tx σ (20 * j + k')) = smN (m_sd σ k')) ∨ (y = nI 0 ∧ ¬ m_same σ j)) → m_co σ + 1 - k < n21 → lv_has ls 4 [(0, .ref (a 0)), (1, .int (nI j)), (2, .int y), (3, .int (nI k))] → W p l e (rD 1) s m ([.ref (a 0), .int (nI j)] : List Value).toArray below meth c s.heap [] 0 0 (MQ below (vp_Si (fun r => BR r (m_same σ j))) ([.ref (a 0), .int (nI j)] : List Value).toArray s 0 0 (fun _ => False)) (F0 m 21 ls []) := by
    intro n21
    induction n21 with
    | zero => intro k y ls _ _ h9; exact absurd h9 (Nat.not_lt_zero _)
    | succ n21 ih21 =>
      intro k y ls hk hy hmu21 hl
      rcases hy with ⟨rfl, hz, hall⟩ | ⟨rfl, hno⟩
      · refine lv_iload_n hx hb d_M_hasText_21 rfl (lv_at hl 3 rfl) ?_
        refine lv_aload_n hx hb d_M_hasText_22 rfl (lv_at hl 0 rfl) ?_
        refine va_get (D := (dC, dI)) (C := R_M) (T := F_M) (N := 20) hx hb hT i_M hown hK hP 0 rfl rfl 19 (by decide) (hT _ k_M_59) (fun _ h9 => h9) (v := .int (nI (m_co σ))) rfl d_M_hasText_23 ?_
        refine x_icmp_ge (tgt := 71) hx hb d_M_hasText_26 (by decide) (fun c26 => ?_) (fun c26 => ?_)
        · refine lv_iload_n hx hb d_M_hasText_71 rfl (lv_at hl 2 rfl) ?_
          exact x_rz hx hb hr hlk d_M_hasText_72 rfl (Or.inl ⟨rfl, hz, fun k' h9 => hall k' (by omega)⟩)
        · refine lv_iload_n hx hb d_M_hasText_29 rfl (lv_at hl 2 rfl) ?_
          refine x_if_eq (tgt := 71) hx hb d_M_hasText_30 (by decide) (fun h => absurd h (by decide)) (fun _ => ?_)
          refine lv_aload_n hx hb d_M_hasText_33 rfl (lv_at hl 0 rfl) ?_
          refine va_get (D := (dC, dI)) (C := R_M) (T := F_M) (N := 20) hx hb hT i_M hown hK hP 0 rfl rfl 6 (by decide) (hT _ k_M_21) (fun _ h9 => h9) (v := .ref (a 4)) rfl d_M_hasText_34 ?_
          refine lv_bipush (v := nI 20) hx hb d_M_hasText_37 (by decide) ?_
          refine lv_iload_n hx hb d_M_hasText_39 rfl (lv_at hl 1 rfl) ?_
          refine x_imul hx hb d_M_hasText_40 ?_
          refine lv_iload_n hx hb d_M_hasText_41 rfl (lv_at hl 3 rfl) ?_
          refine x_iadd hx hb d_M_hasText_42 ?_
          refine x_bald hx hb hK hP 4 3 (f := (m_tx σ)) rfl rfl d_M_hasText_43 (by omega) ?_
          refine x_ci (x_runS ⟨hx, hb, hml, hown, hT⟩ (c_M_small l (m_tx σ (20 * j + k)) (by have := g_tx (20 * j + k); omega)) f_M_small k_M_62 blT (x_bT hN) hl.1 d_M_hasText_44 rfl (lv_room (Nat.le_of_ble_eq_true rfl)) ⟨Nat.le_of_ble_eq_true rfl, Nat.le_of_ble_eq_true rfl⟩ ⟨rfl, rfl⟩ ⟨Nat.le_refl 0, Nat.le_refl 0⟩ rfl) (fun r44 q44 => ?_)
          subst q44
          refine lv_aload_n hx hb d_M_hasText_47 rfl (lv_at hl 0 rfl) ?_
          refine va_get (D := (dC, dI)) (C := R_M) (T := F_M) (N := 20) hx hb hT i_M hown hK hP 0 rfl rfl 1 (by decide) (hT _ k_M_7) (fun _ h9 => h9) (v := .ref (a 1)) rfl d_M_hasText_48 ?_
          refine lv_iload_n hx hb d_M_hasText_51 rfl (lv_at hl 3 rfl) ?_
          refine x_Bald hx hb hK hP 1 0 (f := (m_sd σ)) rfl rfl d_M_hasText_52 (by omega) (hq k (by omega)) ?_
          refine x_ci (x_runS ⟨hx, hb, hml, hown, hT⟩ (c_M_small l (m_sd σ k) (by have := g_sd k; omega)) f_M_small k_M_62 blT (x_bT hN) hl.1 d_M_hasText_53 rfl (lv_room (Nat.le_of_ble_eq_true rfl)) ⟨Nat.le_of_ble_eq_true rfl, Nat.le_of_ble_eq_true rfl⟩ ⟨rfl, rfl⟩ ⟨Nat.le_refl 0, Nat.le_refl 0⟩ rfl) (fun r53 q53 => ?_)
          subst q53
          have e1 := smN_lt (q := m_tx σ (20 * j + k)) (by have := g_tx (20 * j + k); omega)
          have e2 := smN_lt (g_sd k)
          refine x_icmp_ne (tgt := 63) hx hb d_M_hasText_56 (by decide) (fun c56 => ?_) (fun c56 => ?_)
          · refine lv_iconst (v := nI 0) hx hb d_M_hasText_63 (by decide) ?_
            refine lv_istore_n (lv' := [(2, .int (nI 0)), (0, .ref (a 0)), (1, .int (nI j)), (3, .int (nI k))]) hx hb d_M_hasText_64 rfl hl (by decide) rfl (fun ls hl => ?_)
            refine x_iinc (lv' := [(3, .int (nI (k + 1))), (2, .int (nI 0)), (0, .ref (a 0)), (1, .int (nI j))]) hx hb d_M_hasText_65 hl (k := 3) rfl (by decide) rfl (fun ls hl => ?_)
            refine lv_goto (tgt := 21) hx hb d_M_hasText_68 (by decide) ?_
            exact ih21 (k + 1) _ ls (by omega) (Or.inr ⟨rfl, fun h9 => c56 (h9.2 k (by omega))⟩) (by omega) (lv_sub hl [2, 3, 1, 0] rfl)
          · refine lv_iconst (v := nI 1) hx hb d_M_hasText_59 (by decide) ?_
            refine lv_goto (tgt := 64) hx hb d_M_hasText_60 (by decide) ?_
            refine lv_istore_n (lv' := [(2, .int (nI 1)), (0, .ref (a 0)), (1, .int (nI j)), (3, .int (nI k))]) hx hb d_M_hasText_64 rfl hl (by decide) rfl (fun ls hl => ?_)
            refine x_iinc (lv' := [(3, .int (nI (k + 1))), (2, .int (nI 1)), (0, .ref (a 0)), (1, .int (nI j))]) hx hb d_M_hasText_65 hl (k := 3) rfl (by decide) rfl (fun ls hl => ?_)
            refine lv_goto (tgt := 21) hx hb d_M_hasText_68 (by decide) ?_
            exact ih21 (k + 1) _ ls (by omega) (Or.inl ⟨rfl, hz, fun k' h9 => by rcases Nat.lt_succ_iff_lt_or_eq.mp h9 with h8 | h8; exact hall k' h8; rw [h8]; exact c56⟩) (by omega) (lv_sub hl [2, 3, 1, 0] rfl)
      · refine lv_iload_n hx hb d_M_hasText_21 rfl (lv_at hl 3 rfl) ?_
        refine lv_aload_n hx hb d_M_hasText_22 rfl (lv_at hl 0 rfl) ?_
        refine va_get (D := (dC, dI)) (C := R_M) (T := F_M) (N := 20) hx hb hT i_M hown hK hP 0 rfl rfl 19 (by decide) (hT _ k_M_59) (fun _ h9 => h9) (v := .int (nI (m_co σ))) rfl d_M_hasText_23 ?_
        refine x_icmp_ge (tgt := 71) hx hb d_M_hasText_26 (by decide) (fun c26 => ?_) (fun c26 => ?_)
        · refine lv_iload_n hx hb d_M_hasText_71 rfl (lv_at hl 2 rfl) ?_
          exact x_rz hx hb hr hlk d_M_hasText_72 rfl (Or.inr ⟨rfl, hno⟩)
        · refine lv_iload_n hx hb d_M_hasText_29 rfl (lv_at hl 2 rfl) ?_
          refine x_if_eq (tgt := 71) hx hb d_M_hasText_30 (by decide) (fun _ => ?_) (fun h => absurd h (by decide))
          refine lv_iload_n hx hb d_M_hasText_71 rfl (lv_at hl 2 rfl) ?_
          exact x_rz hx hb hr hlk d_M_hasText_72 rfl (Or.inr ⟨rfl, hno⟩)
  refine lv_aload_n hx hb d_M_hasText_0 rfl (lv_at hl 0 rfl) ?_
  refine va_get (D := (dC, dI)) (C := R_M) (T := F_M) (N := 20) hx hb hT i_M hown hK hP 0 rfl rfl 7 (by decide) (hT _ k_M_24) (fun _ h9 => h9) (v := .ref (a 5)) rfl d_M_hasText_1 ?_
  refine lv_iload_n hx hb d_M_hasText_4 rfl (lv_at hl 1 rfl) ?_
  refine x_iald hx hb hK hP 5 4 (f := (m_zs σ)) rfl rfl d_M_hasText_5 (by omega) ?_
  refine lv_aload_n hx hb d_M_hasText_6 rfl (lv_at hl 0 rfl) ?_
  refine va_get (D := (dC, dI)) (C := R_M) (T := F_M) (N := 20) hx hb hT i_M hown hK hP 0 rfl rfl 19 (by decide) (hT _ k_M_59) (fun _ h9 => h9) (v := .int (nI (m_co σ))) rfl d_M_hasText_7 ?_
  refine x_icmp_ne (tgt := 17) hx hb d_M_hasText_10 (by decide) (fun c10 => ?_) (fun c10 => ?_)
  · refine lv_iconst (v := nI 0) hx hb d_M_hasText_17 (by decide) ?_
    refine lv_istore_n (lv' := [(2, .int (nI 0)), (0, .ref (a 0)), (1, .int (nI j))]) hx hb d_M_hasText_18 rfl hl (by decide) rfl (fun ls hl => ?_)
    refine lv_iconst (v := nI 0) hx hb d_M_hasText_19 (by decide) ?_
    refine lv_istore_n (lv' := [(3, .int (nI 0)), (2, .int (nI 0)), (0, .ref (a 0)), (1, .int (nI j))]) hx hb d_M_hasText_20 rfl hl (by decide) rfl (fun ls hl => ?_)
    exact hloop21 _ 0 _ ls (by omega) (by first | exact Or.inl ⟨rfl, by omega, fun k' h9 => absurd h9 (Nat.not_lt_zero _)⟩ | exact Or.inr ⟨rfl, fun h9 => c10 h9.1⟩) (Nat.lt_succ_self _) (lv_sub hl [2, 3, 1, 0] rfl)
  · refine lv_iconst (v := nI 1) hx hb d_M_hasText_13 (by decide) ?_
    refine lv_goto (tgt := 18) hx hb d_M_hasText_14 (by decide) ?_
    refine lv_istore_n (lv' := [(2, .int (nI 1)), (0, .ref (a 0)), (1, .int (nI j))]) hx hb d_M_hasText_18 rfl hl (by decide) rfl (fun ls hl => ?_)
    refine lv_iconst (v := nI 0) hx hb d_M_hasText_19 (by decide) ?_
    refine lv_istore_n (lv' := [(3, .int (nI 0)), (2, .int (nI 1)), (0, .ref (a 0)), (1, .int (nI j))]) hx hb d_M_hasText_20 rfl hl (by decide) rfl (fun ls hl => ?_)
    exact hloop21 _ 0 _ ls (by omega) (by first | exact Or.inl ⟨rfl, by omega, fun k' h9 => absurd h9 (Nat.not_lt_zero _)⟩ | exact Or.inr ⟨rfl, fun h9 => c10 h9.1⟩) (Nat.lt_succ_self _) (lv_sub hl [2, 3, 1, 0] rfl)

