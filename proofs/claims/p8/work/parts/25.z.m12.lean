/-! how many bits a long has: the JDK's way, over numbers -/
theorem pa_split {n a b c d : Nat} (ha : a < 2 ^ n) (hc : c < 2 ^ n) : (a + 2 ^ n * b) &&& (c + 2 ^ n * d) = (a &&& c) + 2 ^ n * (b &&& d) := by
  apply Nat.eq_of_testBit_eq
  intro j
  rw [Nat.testBit_and, Nat.add_comm a, Nat.add_comm c, Nat.add_comm (a &&& c), Nat.testBit_two_pow_mul_add _ ha, Nat.testBit_two_pow_mul_add _ hc, Nat.testBit_two_pow_mul_add _ (Nat.and_lt_two_pow _ hc)]
  split <;> simp [Nat.testBit_and]
theorem pa_cut (x n c d : Nat) (hc : c < 2 ^ n) : x &&& (c + 2 ^ n * d) = (x % 2 ^ n &&& c) + 2 ^ n * (x / 2 ^ n &&& d) := by
  have h := pa_split (n := n) (a := x % 2 ^ n) (b := x / 2 ^ n) (c := c) (d := d) (Nat.mod_lt _ (Nat.two_pow_pos n)) hc
  rw [Nat.mod_add_div] at h
  exact h
def pm1 : Nat → Nat
  | 0 => 0
  | k + 1 => 1 + 4 * pm1 k
def pm2 : Nat → Nat
  | 0 => 0
  | k + 1 => 3 + 16 * pm2 k
def pm4 : Nat → Nat
  | 0 => 0
  | k + 1 => 15 + 256 * pm4 k
def pq1 : Nat → Nat → Nat
  | 0, _ => 0
  | k + 1, x => (x % 2 + x / 2 % 2) + 4 * pq1 k (x / 4)
def pq2 : Nat → Nat → Nat
  | 0, _ => 0
  | k + 1, x => (x % 2 + x / 2 % 2 + x / 4 % 2 + x / 8 % 2) + 16 * pq2 k (x / 16)
def pq3 : Nat → Nat → Nat
  | 0, _ => 0
  | k + 1, x => (x % 2 + x / 2 % 2 + x / 4 % 2 + x / 8 % 2 + x / 16 % 2 + x / 32 % 2 + x / 64 % 2 + x / 128 % 2) + 256 * pq3 k (x / 256)
theorem pa_and1 (a : Nat) : a &&& 1 = a % 2 := Nat.and_two_pow_sub_one_eq_mod a 1
theorem pa_and3 (a : Nat) : a &&& 3 = a % 4 := Nat.and_two_pow_sub_one_eq_mod a 2
theorem pa_and15 (a : Nat) : a &&& 15 = a % 16 := Nat.and_two_pow_sub_one_eq_mod a 4
theorem cut1 (x k : Nat) : x &&& pm1 (k + 1) = x % 4 % 2 + 4 * (x / 4 &&& pm1 k) := by
  have h := pa_cut x 2 1 (pm1 k) (by decide)
  rw [pa_and1] at h
  exact h
theorem cut2 (x k : Nat) : x &&& pm2 (k + 1) = x % 16 % 4 + 16 * (x / 16 &&& pm2 k) := by
  have h := pa_cut x 4 3 (pm2 k) (by decide)
  rw [pa_and3] at h
  exact h
theorem cut4 (x k : Nat) : x &&& pm4 (k + 1) = x % 256 % 16 + 256 * (x / 256 &&& pm4 k) := by
  have h := pa_cut x 8 15 (pm4 k) (by decide)
  rw [pa_and15] at h
  exact h
theorem dd (x a b c : Nat) (h : a * b = c) : x / a / b = x / c := by rw [Nat.div_div_eq_div_mul, h]
theorem pa_1 : ∀ (k x : Nat), (x &&& pm1 k) + (x / 2 &&& pm1 k) = pq1 k x := by
  intro k
  induction k with
  | zero => intro x; simp [pm1, pq1]
  | succ k ih =>
    intro x
    have h := ih (x / 4)
    rw [cut1, cut1, dd x 2 4 8 rfl]
    rw [dd x 4 2 8 rfl] at h
    simp only [pq1]
    rw [← h]
    omega
theorem pa_0 : ∀ (k x : Nat), x < 4 ^ k → (x &&& pm1 k) + 2 * (x / 2 &&& pm1 k) = x := by
  intro k
  induction k with
  | zero =>
    intro x h
    obtain rfl : x = 0 := by omega
    simp [pm1]
  | succ k ih =>
    intro x hx
    have h := ih (x / 4) (by rw [Nat.pow_succ] at hx; omega)
    rw [cut1, cut1, dd x 2 4 8 rfl]
    rw [dd x 4 2 8 rfl] at h
    generalize (x / 4 &&& pm1 k) = A at h ⊢
    generalize (x / 8 &&& pm1 k) = B at h ⊢
    omega
theorem ar2a (A B y : Nat) (hA : A ≤ 2) (hB : B ≤ 2) : (A + 4 * (B + 4 * y)) % 16 % 4 = A := by omega
theorem ar2b (A B y : Nat) (hA : A ≤ 2) (hB : B ≤ 2) : (A + 4 * (B + 4 * y)) / 16 = y := by omega
theorem ar2c (A B y : Nat) (hA : A ≤ 2) (hB : B ≤ 2) : (A + 4 * (B + 4 * y)) / 4 = B + 4 * y := by omega
theorem ar2d (B y : Nat) (hB : B ≤ 2) : (B + 4 * y) % 16 % 4 = B := by omega
theorem ar2e (B y : Nat) (hB : B ≤ 2) : (B + 4 * y) / 16 = y / 4 := by omega
theorem m2 (x : Nat) : x % 2 ≤ 1 := by omega
theorem pa_2 : ∀ (k x : Nat), (pq1 (2 * k) x &&& pm2 k) + (pq1 (2 * k) x / 4 &&& pm2 k) = pq2 k x := by
  intro k
  induction k with
  | zero => intro x; simp [pm2, pq2]
  | succ k ih =>
    intro x
    have e : pq1 (2 * (k + 1)) x = (x % 2 + x / 2 % 2) + 4 * ((x / 4 % 2 + x / 4 / 2 % 2) + 4 * pq1 (2 * k) (x / 4 / 4)) := rfl
    have h := ih (x / 16)
    rw [dd x 4 4 16 rfl, dd x 4 2 8 rfl] at e
    have hA : x % 2 + x / 2 % 2 ≤ 2 := Nat.add_le_add (m2 _) (m2 _)
    have hB : x / 4 % 2 + x / 8 % 2 ≤ 2 := Nat.add_le_add (m2 _) (m2 _)
    simp only [pq2]
    rw [← h, cut2, cut2, e, ar2a _ _ _ hA hB, ar2b _ _ _ hA hB, ar2c _ _ _ hA hB, ar2d _ _ hB, ar2e _ _ hB, Nat.mul_add]
    simp only [Nat.add_assoc, Nat.add_left_comm, Nat.add_comm]
theorem pq2_lo : ∀ (k x : Nat), pq2 k x % 16 ≤ 4 := by
  intro k x
  cases k with
  | zero => simp [pq2]
  | succ k =>
    simp only [pq2]
    have hA : x % 2 + x / 2 % 2 + x / 4 % 2 + x / 8 % 2 ≤ 4 := Nat.add_le_add (Nat.add_le_add (Nat.add_le_add (m2 _) (m2 _)) (m2 _)) (m2 _)
    generalize x % 2 + x / 2 % 2 + x / 4 % 2 + x / 8 % 2 = A at hA
    generalize pq2 k (x / 16) = y
    omega
theorem ar3a (A B y : Nat) (hA : A ≤ 4) (hB : B ≤ 4) : (A + 16 * (B + 16 * y)) / 16 = B + 16 * y := by omega
theorem ar3b (A B y : Nat) (hA : A ≤ 4) (hB : B ≤ 4) : (A + 16 * (B + 16 * y) + (B + 16 * y)) % 256 % 16 = A + B := by omega
theorem ar3c (A B y : Nat) (hA : A ≤ 4) (hB : B ≤ 4) (hy : y % 16 ≤ 4) : (A + 16 * (B + 16 * y) + (B + 16 * y)) / 256 = y + y / 16 := by omega
theorem pa_3 : ∀ (k x : Nat), (pq2 (2 * k) x + pq2 (2 * k) x / 16) &&& pm4 k = pq3 k x := by
  intro k
  induction k with
  | zero => intro x; simp [pm4, pq3]
  | succ k ih =>
    intro x
    have e : pq2 (2 * (k + 1)) x = (x % 2 + x / 2 % 2 + x / 4 % 2 + x / 8 % 2) + 16 * ((x / 16 % 2 + x / 16 / 2 % 2 + x / 16 / 4 % 2 + x / 16 / 8 % 2) + 16 * pq2 (2 * k) (x / 16 / 16)) := rfl
    have h := ih (x / 256)
    have hlo := pq2_lo (2 * k) (x / 256)
    rw [dd x 16 16 256 rfl, dd x 16 2 32 rfl, dd x 16 4 64 rfl, dd x 16 8 128 rfl] at e
    have hA : x % 2 + x / 2 % 2 + x / 4 % 2 + x / 8 % 2 ≤ 4 := Nat.add_le_add (Nat.add_le_add (Nat.add_le_add (m2 _) (m2 _)) (m2 _)) (m2 _)
    have hB : x / 16 % 2 + x / 32 % 2 + x / 64 % 2 + x / 128 % 2 ≤ 4 := Nat.add_le_add (Nat.add_le_add (Nat.add_le_add (m2 _) (m2 _)) (m2 _)) (m2 _)
    simp only [pq3]
    rw [← h, cut4, e, ar3a _ _ _ hA hB, ar3b _ _ _ hA hB, ar3c _ _ _ hA hB hlo]
    simp only [Nat.add_assoc]

theorem pq2_le : ∀ (k x : Nat), 15 * pq2 k x + 4 ≤ 4 * 16 ^ k := by
  intro k
  induction k with
  | zero => intro x; simp [pq2]
  | succ k ih =>
    intro x
    have h := ih (x / 16)
    have hA : x % 2 + x / 2 % 2 + x / 4 % 2 + x / 8 % 2 ≤ 4 := Nat.add_le_add (Nat.add_le_add (Nat.add_le_add (m2 _) (m2 _)) (m2 _)) (m2 _)
    simp only [pq2]
    generalize x % 2 + x / 2 % 2 + x / 4 % 2 + x / 8 % 2 = A at hA ⊢
    generalize pq2 k (x / 16) = y at h ⊢
    rw [Nat.pow_succ]
    generalize 16 ^ k = z at h ⊢
    omega
/-- the bits of a byte -/
def b8 (x : Nat) : Nat := x % 2 + x / 2 % 2 + x / 4 % 2 + x / 8 % 2 + x / 16 % 2 + x / 32 % 2 + x / 64 % 2 + x / 128 % 2
theorem b8_le (x : Nat) : b8 x ≤ 8 := Nat.add_le_add (Nat.add_le_add (Nat.add_le_add (Nat.add_le_add (Nat.add_le_add (Nat.add_le_add (Nat.add_le_add (m2 _) (m2 _)) (m2 _)) (m2 _)) (m2 _)) (m2 _)) (m2 _)) (m2 _)
theorem pq3_s (k x : Nat) : pq3 (k + 1) x = b8 x + 256 * pq3 k (x / 256) := rfl
def sb8 : Nat → Nat → Nat
  | 0, _ => 0
  | k + 1, x => b8 x + sb8 k (x / 256)
theorem fin1 (b0 b1 Y2 : Nat) (h0 : b0 ≤ 8) : (b0 + 256 * (b1 + 256 * Y2)) / 256 = b1 + 256 * Y2 := by omega
theorem fin2 (b0 b1 b2 Y2 Y3 : Nat) (h0 : b0 ≤ 8) (h1 : b1 ≤ 8) (h2 : b2 ≤ 8) (e2 : Y2 = b2 + 256 * Y3) : (b0 + 256 * (b1 + 256 * Y2) + (b1 + 256 * Y2)) / 65536 = Y2 + Y3 := by omega
theorem fin3 (b0 b1 b2 b3 b4 b5 b6 Y4 Y5 Y6 Y7 S Y1 Y2 Y3 : Nat) (h0 : b0 ≤ 8) (h1 : b1 ≤ 8) (h2 : b2 ≤ 8) (h3 : b3 ≤ 8) (h4 : b4 ≤ 8) (h5 : b5 ≤ 8) (h6 : b6 ≤ 8) (eS : S = b0 + 256 * Y1) (e1 : Y1 = b1 + 256 * Y2) (e2 : Y2 = b2 + 256 * Y3) (e3 : Y3 = b3 + 256 * Y4) (e4 : Y4 = b4 + 256 * Y5) (e5 : Y5 = b5 + 256 * Y6) (e6 : Y6 = b6 + 256 * Y7) : (S + Y1 + (Y2 + Y3)) / 4294967296 = Y4 + Y5 + Y6 + Y7 := by omega
theorem fin4 (b0 b1 b2 b3 b4 b5 b6 b7 Y4 Y5 Y6 Y7 S Y1 Y2 Y3 : Nat) (h0 : b0 ≤ 8) (h1 : b1 ≤ 8) (h2 : b2 ≤ 8) (h3 : b3 ≤ 8) (h4 : b4 ≤ 8) (h5 : b5 ≤ 8) (h6 : b6 ≤ 8) (h7 : b7 ≤ 8) (eS : S = b0 + 256 * Y1) (e1 : Y1 = b1 + 256 * Y2) (e2 : Y2 = b2 + 256 * Y3) (e3 : Y3 = b3 + 256 * Y4) (e4 : Y4 = b4 + 256 * Y5) (e5 : Y5 = b5 + 256 * Y6) (e6 : Y6 = b6 + 256 * Y7) (e7 : Y7 = b7) : (S + Y1 + (Y2 + Y3) + (Y4 + Y5 + Y6 + Y7)) % 128 = b0 + b1 + b2 + b3 + b4 + b5 + b6 + b7 := by omega
theorem fin_all (n S T U : Nat) (hS : S = pq3 8 n) (hT : T = S + S / 256) (hU : U = T + T / 65536) : (U + U / 4294967296) % 128 = sb8 8 n ∧ U + U / 4294967296 < 2 ^ 64 := by
  have e0 : pq3 8 n = b8 n + 256 * pq3 7 (n / 256) := rfl
  have e1 : pq3 7 (n / 256) = b8 (n / 256) + 256 * pq3 6 (n / 256 / 256) := rfl
  have e2 : pq3 6 (n / 256 / 256) = b8 (n / 256 / 256) + 256 * pq3 5 (n / 256 / 256 / 256) := rfl
  have e3 : pq3 5 (n / 256 / 256 / 256) = b8 (n / 256 / 256 / 256) + 256 * pq3 4 (n / 256 / 256 / 256 / 256) := rfl
  have e4 : pq3 4 (n / 256 / 256 / 256 / 256) = b8 (n / 256 / 256 / 256 / 256) + 256 * pq3 3 (n / 256 / 256 / 256 / 256 / 256) := rfl
  have e5 : pq3 3 (n / 256 / 256 / 256 / 256 / 256) = b8 (n / 256 / 256 / 256 / 256 / 256) + 256 * pq3 2 (n / 256 / 256 / 256 / 256 / 256 / 256) := rfl
  have e6 : pq3 2 (n / 256 / 256 / 256 / 256 / 256 / 256) = b8 (n / 256 / 256 / 256 / 256 / 256 / 256) + 256 * pq3 1 (n / 256 / 256 / 256 / 256 / 256 / 256 / 256) := rfl
  have e7 : pq3 1 (n / 256 / 256 / 256 / 256 / 256 / 256 / 256) = b8 (n / 256 / 256 / 256 / 256 / 256 / 256 / 256) := by show _ + 256 * 0 = _; rw [Nat.mul_zero, Nat.add_zero]; rfl
  have es : sb8 8 n = b8 n + (b8 (n / 256) + (b8 (n / 256 / 256) + (b8 (n / 256 / 256 / 256) + (b8 (n / 256 / 256 / 256 / 256) + (b8 (n / 256 / 256 / 256 / 256 / 256) + (b8 (n / 256 / 256 / 256 / 256 / 256 / 256) + (b8 (n / 256 / 256 / 256 / 256 / 256 / 256 / 256) + 0))))))) := rfl
  have l0 := b8_le n
  have l1 := b8_le (n / 256)
  have l2 := b8_le (n / 256 / 256)
  have l3 := b8_le (n / 256 / 256 / 256)
  have l4 := b8_le (n / 256 / 256 / 256 / 256)
  have l5 := b8_le (n / 256 / 256 / 256 / 256 / 256)
  have l6 := b8_le (n / 256 / 256 / 256 / 256 / 256 / 256)
  have l7 := b8_le (n / 256 / 256 / 256 / 256 / 256 / 256 / 256)
  rw [es]
  rw [e0] at hS
  generalize b8 n = c0 at *
  generalize b8 (n / 256) = c1 at *
  generalize b8 (n / 256 / 256) = c2 at *
  generalize b8 (n / 256 / 256 / 256) = c3 at *
  generalize b8 (n / 256 / 256 / 256 / 256) = c4 at *
  generalize b8 (n / 256 / 256 / 256 / 256 / 256) = c5 at *
  generalize b8 (n / 256 / 256 / 256 / 256 / 256 / 256) = c6 at *
  generalize b8 (n / 256 / 256 / 256 / 256 / 256 / 256 / 256) = c7 at *
  generalize pq3 7 (n / 256) = Y1 at *
  generalize pq3 6 (n / 256 / 256) = Y2 at *
  generalize pq3 5 (n / 256 / 256 / 256) = Y3 at *
  generalize pq3 4 (n / 256 / 256 / 256 / 256) = Y4 at *
  generalize pq3 3 (n / 256 / 256 / 256 / 256 / 256) = Y5 at *
  generalize pq3 2 (n / 256 / 256 / 256 / 256 / 256 / 256) = Y6 at *
  generalize pq3 1 (n / 256 / 256 / 256 / 256 / 256 / 256 / 256) = Y7 at *
  clear e0 es
  have t1 : S / 256 = Y1 := by omega
  rw [t1] at hT
  have t2 : T / 65536 = Y2 + Y3 := by rw [hT, hS, e1]; exact fin2 c0 c1 c2 Y2 Y3 l0 l1 l2 e2
  rw [t2, hT] at hU
  have t3 : U / 4294967296 = Y4 + Y5 + Y6 + Y7 := by rw [hU]; exact fin3 c0 c1 c2 c3 c4 c5 c6 Y4 Y5 Y6 Y7 S Y1 Y2 Y3 l0 l1 l2 l3 l4 l5 l6 hS e1 e2 e3 e4 e5 e6
  rw [t3, hU]
  constructor
  · rw [fin4 c0 c1 c2 c3 c4 c5 c6 c7 Y4 Y5 Y6 Y7 S Y1 Y2 Y3 l0 l1 l2 l3 l4 l5 l6 l7 hS e1 e2 e3 e4 e5 e6 e7]; omega
  · clear t1 t2 t3 hT hU
    omega
/-- the bits below k -/
def cb : Nat → Nat → Nat
  | 0, _ => 0
  | k + 1, x => x % 2 + cb k (x / 2)
theorem cb_8 (k x : Nat) : cb (k + 8) x = b8 x + cb k (x / 256) := by
  show x % 2 + (x / 2 % 2 + (x / 2 / 2 % 2 + (x / 2 / 2 / 2 % 2 + (x / 2 / 2 / 2 / 2 % 2 + (x / 2 / 2 / 2 / 2 / 2 % 2 + (x / 2 / 2 / 2 / 2 / 2 / 2 % 2 + (x / 2 / 2 / 2 / 2 / 2 / 2 / 2 % 2 + cb k (x / 2 / 2 / 2 / 2 / 2 / 2 / 2 / 2)))))))) = _
  rw [dd x 2 2 4 rfl, dd x 4 2 8 rfl, dd x 8 2 16 rfl, dd x 16 2 32 rfl, dd x 32 2 64 rfl, dd x 64 2 128 rfl, dd x 128 2 256 rfl]
  unfold b8
  simp only [Nat.add_assoc]
theorem cb_sb : ∀ (k x : Nat), cb (8 * k) x = sb8 k x := by
  intro k
  induction k with
  | zero => intro x; rfl
  | succ k ih => intro x; rw [Nat.mul_succ, cb_8, ih]; rfl
theorem cb_s : ∀ (k x : Nat), cb (k + 1) x = cb k x + x / 2 ^ k % 2 := by
  intro k
  induction k with
  | zero => intro x; show x % 2 + 0 = 0 + x / 1 % 2; rw [Nat.div_one]; omega
  | succ k ih =>
    intro x
    show x % 2 + cb (k + 1) (x / 2) = x % 2 + cb k (x / 2) + _
    rw [ih, Nat.add_assoc, dd x 2 (2 ^ k) (2 ^ (k + 1)) (by rw [Nat.pow_succ, Nat.mul_comm])]
theorem bt_lN {n j : Nat} (hn : n < 2 ^ 64) : bt6 (lN n) j = decide (n / 2 ^ j % 2 = 1) := by
  unfold bt6
  rw [BitVec.getLsbD, wb_tn hn, Nat.testBit_eq_decide_div_mod_eq]
theorem cb_cnt {n : Nat} (hn : n < 2 ^ 64) : ∀ k, cb (k + 1) n = n % 2 + cntP (bt6 (lN n)) k := by
  intro k
  induction k with
  | zero => rw [cb_s]; show 0 + n / 1 % 2 = n % 2 + 0; rw [Nat.div_one]; omega
  | succ k ih =>
    rw [cb_s, ih]
    by_cases h : bt6 (lN n) (k + 1) = true
    · rw [cntP_s1 h]
      rw [bt_lN hn, decide_eq_true_eq] at h
      rw [h]; omega
    · rw [cntP_s0 h]
      rw [bt_lN hn, decide_eq_true_eq] at h
      have : n / 2 ^ (k + 1) % 2 < 2 := Nat.mod_lt _ (by decide)
      generalize n / 2 ^ (k + 1) % 2 = z at *
      omega
theorem pm1_32 : pm1 32 = 6148914691236517205 := by decide +kernel
theorem pm2_16 : pm2 16 = 3689348814741910323 := by decide +kernel
theorem pm4_8 : pm4 8 = 1085102592571150095 := by decide +kernel
/-- Long.bitCount, for a set of headings -/
theorem bc_eq {x y1 y2 y3 y4 y5 y6 y7 y8 y9 y10 y11 y12 y13 y14 y15 y16 : Int64} {y17 : Int32} (e1 : y1 = (x.toUInt64 >>> ((nI 1).toInt64.toUInt64 &&& Int64.toUInt64 63)).toInt64) (e2 : y2 = y1 &&& 6148914691236517205) (e3 : y3 = x - y2) (e4 : y4 = y3 &&& 3689348814741910323) (e5 : y5 = (y3.toUInt64 >>> ((nI 2).toInt64.toUInt64 &&& Int64.toUInt64 63)).toInt64) (e6 : y6 = y5 &&& 3689348814741910323) (e7 : y7 = y4 + y6) (e8 : y8 = (y7.toUInt64 >>> ((nI 4).toInt64.toUInt64 &&& Int64.toUInt64 63)).toInt64) (e9 : y9 = y7 + y8) (e10 : y10 = y9 &&& 1085102592571150095) (e11 : y11 = (y10.toUInt64 >>> ((nI 8).toInt64.toUInt64 &&& Int64.toUInt64 63)).toInt64) (e12 : y12 = y10 + y11) (e13 : y13 = (y12.toUInt64 >>> ((nI 16).toInt64.toUInt64 &&& Int64.toUInt64 63)).toInt64) (e14 : y14 = y12 + y13) (e15 : y15 = (y14.toUInt64 >>> ((nI 32).toInt64.toUInt64 &&& Int64.toUInt64 63)).toInt64) (e16 : y16 = y14 + y15) (e17 : y17 = y16.toInt32) (h0 : bt6 x 0 = false) (h61 : ∀ j, 61 ≤ j → bt6 x j = false) : y17 &&& nI 127 = nI (cntP (bt6 x) 60) := by
  obtain ⟨n, hn, rfl⟩ := wb_of x
  have c5 : (6148914691236517205 : Int64) = lN (pm1 32) := by rw [pm1_32]; rfl
  have c3 : (3689348814741910323 : Int64) = lN (pm2 16) := by rw [pm2_16]; rfl
  have cf : (1085102592571150095 : Int64) = lN (pm4 8) := by rw [pm4_8]; rfl
  have d5 : pm1 32 < 2 ^ 64 := by decide +kernel
  have d3 : pm2 16 < 2 ^ 64 := by decide +kernel
  have df : pm4 8 < 2 ^ 64 := by decide +kernel
  rw [c5] at e2
  rw [c3] at e4 e6
  rw [cf] at e10
  have p0 := pa_0 32 n (by omega)
  have p1 := pa_1 32 n
  have p2 := pa_2 16 n
  have p3 := pa_3 8 n
  have q2 := pq2_le 16 n
  rw [wb_shr hn (by decide)] at e1
  have hn2 : n / 2 ^ 1 < 2 ^ 64 := Nat.lt_of_le_of_lt (Nat.div_le_self _ _) hn
  rw [e1, wb_and hn2 d5] at e2
  have e3' : y3 = lN (pq1 32 n) := by
    rw [e3, e2, ← p1, show n / 2 ^ 1 = n / 2 from rfl]
    generalize (n &&& pm1 32) = A at *
    generalize (n / 2 &&& pm1 32) = B at *
    rw [lN_sub (by omega)]
    congr 1
    omega
  have l3 : pq1 32 n < 2 ^ 64 := by
    rw [← p1]
    generalize (n &&& pm1 32) = A at *
    generalize (n / 2 &&& pm1 32) = B at *
    omega
  rw [e3', wb_and l3 d3] at e4
  rw [e3', wb_shr l3 (by decide)] at e5
  rw [e5, wb_and (Nat.lt_of_le_of_lt (Nat.div_le_self _ _) l3) d3] at e6
  have e7' : y7 = lN (pq2 16 n) := by
    rw [e7, e4, e6, lN_add]
    exact congrArg lN p2
  have l7 : pq2 16 n < 2 ^ 64 := by omega
  rw [e7', wb_shr l7 (by decide)] at e8
  rw [e7', e8, lN_add] at e9
  have l9 : pq2 16 n + pq2 16 n / 2 ^ 4 < 2 ^ 64 := by
    generalize pq2 16 n = z at *
    omega
  have e10' : y10 = lN (pq3 8 n) := by
    rw [e10, e9, wb_and l9 df]
    exact congrArg lN p3
  obtain ⟨f1, f2⟩ := fin_all n _ _ _ rfl rfl rfl
  have l10 : pq3 8 n < 2 ^ 64 := by
    generalize pq3 8 n = z at *
    omega
  rw [e10', wb_shr l10 (by decide)] at e11
  rw [e10', e11, lN_add] at e12
  have l12 : pq3 8 n + pq3 8 n / 2 ^ 8 < 2 ^ 64 := by
    generalize pq3 8 n = z at *
    omega
  rw [e12, wb_shr l12 (by decide)] at e13
  rw [e12, e13, lN_add] at e14
  have l14 : pq3 8 n + pq3 8 n / 2 ^ 8 + (pq3 8 n + pq3 8 n / 2 ^ 8) / 2 ^ 16 < 2 ^ 64 := by
    generalize pq3 8 n = z at *
    omega
  rw [e14, wb_shr l14 (by decide)] at e15
  rw [e14, e15, lN_add] at e16
  rw [e16, lN_i] at e17
  rw [e17, pk_and _ 7 (by decide)]
  have g1 : (2 : Nat) ^ 8 = 256 := rfl
  have g2 : (2 : Nat) ^ 16 = 65536 := rfl
  have g3 : (2 : Nat) ^ 32 = 4294967296 := rfl
  rw [g1, g2, g3]
  congr 1
  show (BitVec.ofNat 32 _).toNat % 2 ^ 7 = _
  rw [BitVec.toNat_ofNat]
  rw [Nat.mod_mod_of_dvd _ (show 2 ^ 7 ∣ 2 ^ 32 by decide)]
  have k1 := cb_sb 8 n
  have k2 : cb 64 n = n % 2 + cntP (bt6 (lN n)) 63 := cb_cnt hn 63
  have k3 : n % 2 = 0 := by
    rw [bt_lN hn, decide_eq_false_iff_not, Nat.pow_zero, Nat.div_one] at h0
    omega
  have k4 : cntP (bt6 (lN n)) 63 = cntP (bt6 (lN n)) 60 := by
    rw [cntP_s0 (n := 62) (by rw [h61 _ (by omega)]; decide), cntP_s0 (n := 61) (by rw [h61 _ (by omega)]; decide), cntP_s0 (n := 60) (by rw [h61 _ (by omega)]; decide)]
  rw [show (2 : Nat) ^ 7 = 128 from rfl, f1, ← k1, k2, k3, k4, Nat.zero_add]

set_option maxRecDepth 100000 in
set_option maxHeartbeats 4000000 in
theorem c_J_bitCountX (l : Launch) (x : Int64) (h0 : bt6 x 0 = false) (h61 : ∀ j, 61 ≤ j → bt6 x j = false) : Met l y_J_bitCount (wS y_J_bitCount b_J_bitCount 2 (some .int)) (rD 0) (va_Pc [.long x] (fun U => NWs U)) (vp_Si (fun r => r = nI (cntP (bt6 x) 60))) 0 0 (fun _ => False) := by
  refine x_enter (by decide) (Nat.le_of_ble_eq_true rfl) ?_
  intro p e s m below meth c ls hx hb hr hml hT hown hlk hnm hl hB
  have hN : NWs s := hB
  have hl : lv_has ls 2 [(0, .long x)] := hl
  have hown : s.vm.findClass R_J = some m.cls := hown
  refine lv_lload_n hx hb d_J_bitCount_0 rfl (lv_at hl 0 rfl) ?_
  refine lv_lload_n hx hb d_J_bitCount_1 rfl (lv_at hl 0 rfl) ?_
  refine lv_iconst (v := nI 1) hx hb d_J_bitCount_2 (by decide) ?_
  refine lv_lushr hx hb d_J_bitCount_3 rfl ?_
  refine lv_topl (fun y1_ e1_ => ?_)
  refine lv_ldc2 (v := 6148914691236517205) hx hb hown (hT _ k_J_314) d_J_bitCount_4 ?_
  refine lv_land hx hb d_J_bitCount_7 ?_
  refine lv_topl (fun y2_ e2_ => ?_)
  refine lv_lsub hx hb d_J_bitCount_8 ?_
  refine lv_topl (fun y3_ e3_ => ?_)
  refine lv_lstore_n (lv' := [(0, .long y3_)]) hx hb d_J_bitCount_9 rfl hl (by decide) rfl (fun ls hl => ?_)
  refine lv_lload_n hx hb d_J_bitCount_10 rfl (lv_at hl 0 rfl) ?_
  refine lv_ldc2 (v := 3689348814741910323) hx hb hown (hT _ k_J_316) d_J_bitCount_11 ?_
  refine lv_land hx hb d_J_bitCount_14 ?_
  refine lv_topl (fun y4_ e4_ => ?_)
  refine lv_lload_n hx hb d_J_bitCount_15 rfl (lv_at hl 0 rfl) ?_
  refine lv_iconst (v := nI 2) hx hb d_J_bitCount_16 (by decide) ?_
  refine lv_lushr hx hb d_J_bitCount_17 rfl ?_
  refine lv_topl (fun y5_ e5_ => ?_)
  refine lv_ldc2 (v := 3689348814741910323) hx hb hown (hT _ k_J_316) d_J_bitCount_18 ?_
  refine lv_land hx hb d_J_bitCount_21 ?_
  refine lv_topl (fun y6_ e6_ => ?_)
  refine lv_ladd hx hb d_J_bitCount_22 ?_
  refine lv_topl (fun y7_ e7_ => ?_)
  refine lv_lstore_n (lv' := [(0, .long y7_)]) hx hb d_J_bitCount_23 rfl hl (by decide) rfl (fun ls hl => ?_)
  refine lv_lload_n hx hb d_J_bitCount_24 rfl (lv_at hl 0 rfl) ?_
  refine lv_lload_n hx hb d_J_bitCount_25 rfl (lv_at hl 0 rfl) ?_
  refine lv_iconst (v := nI 4) hx hb d_J_bitCount_26 (by decide) ?_
  refine lv_lushr hx hb d_J_bitCount_27 rfl ?_
  refine lv_topl (fun y8_ e8_ => ?_)
  refine lv_ladd hx hb d_J_bitCount_28 ?_
  refine lv_topl (fun y9_ e9_ => ?_)
  refine lv_ldc2 (v := 1085102592571150095) hx hb hown (hT _ k_J_318) d_J_bitCount_29 ?_
  refine lv_land hx hb d_J_bitCount_32 ?_
  refine lv_topl (fun y10_ e10_ => ?_)
  refine lv_lstore_n (lv' := [(0, .long y10_)]) hx hb d_J_bitCount_33 rfl hl (by decide) rfl (fun ls hl => ?_)
  refine lv_lload_n hx hb d_J_bitCount_34 rfl (lv_at hl 0 rfl) ?_
  refine lv_lload_n hx hb d_J_bitCount_35 rfl (lv_at hl 0 rfl) ?_
  refine lv_bipush (v := nI 8) hx hb d_J_bitCount_36 (by decide) ?_
  refine lv_lushr hx hb d_J_bitCount_38 rfl ?_
  refine lv_topl (fun y11_ e11_ => ?_)
  refine lv_ladd hx hb d_J_bitCount_39 ?_
  refine lv_topl (fun y12_ e12_ => ?_)
  refine lv_lstore_n (lv' := [(0, .long y12_)]) hx hb d_J_bitCount_40 rfl hl (by decide) rfl (fun ls hl => ?_)
  refine lv_lload_n hx hb d_J_bitCount_41 rfl (lv_at hl 0 rfl) ?_
  refine lv_lload_n hx hb d_J_bitCount_42 rfl (lv_at hl 0 rfl) ?_
  refine lv_bipush (v := nI 16) hx hb d_J_bitCount_43 (by decide) ?_
  refine lv_lushr hx hb d_J_bitCount_45 rfl ?_
  refine lv_topl (fun y13_ e13_ => ?_)
  refine lv_ladd hx hb d_J_bitCount_46 ?_
  refine lv_topl (fun y14_ e14_ => ?_)
  refine lv_lstore_n (lv' := [(0, .long y14_)]) hx hb d_J_bitCount_47 rfl hl (by decide) rfl (fun ls hl => ?_)
  refine lv_lload_n hx hb d_J_bitCount_48 rfl (lv_at hl 0 rfl) ?_
  refine lv_lload_n hx hb d_J_bitCount_49 rfl (lv_at hl 0 rfl) ?_
  refine lv_bipush (v := nI 32) hx hb d_J_bitCount_50 (by decide) ?_
  refine lv_lushr hx hb d_J_bitCount_52 rfl ?_
  refine lv_topl (fun y15_ e15_ => ?_)
  refine lv_ladd hx hb d_J_bitCount_53 ?_
  refine lv_topl (fun y16_ e16_ => ?_)
  refine lv_lstore_n (lv' := [(0, .long y16_)]) hx hb d_J_bitCount_54 rfl hl (by decide) rfl (fun ls hl => ?_)
  refine lv_lload_n hx hb d_J_bitCount_55 rfl (lv_at hl 0 rfl) ?_
  refine lv_l2i hx hb d_J_bitCount_56 rfl ?_
  refine lv_topi (fun y17_ e17_ => ?_)
  refine lv_bipush (v := nI 127) hx hb d_J_bitCount_57 (by decide) ?_
  refine lv_iand hx hb d_J_bitCount_59 ?_
  exact x_ri hx hb hr hlk d_J_bitCount_60 (bc_eq e1_ e2_ e3_ e4_ e5_ e6_ e7_ e8_ e9_ e10_ e11_ e12_ e13_ e14_ e15_ e16_ e17_ h0 h61)

/-! the levels of the walk of broader -/
def TB (tg : Nat → Int64) : Prop := ∀ h b, 1 ≤ h → h ≤ 60 → bt6 (tg (2 * 61 + h)) b = true → 1 ≤ b ∧ b ≤ 60
def LSa (tg : Nat → Int64) (j : Nat) : Nat → (Nat → Prop) × (Nat → Prop)
  | 0 => (fun b => b = j, fun b => bt6 (tg (2 * 61 + j)) b = true)
  | k + 1 => (fun b => (LSa tg j k).1 b ∨ (LSa tg j k).2 b, fun b => (∃ h, h < 60 ∧ (LSa tg j k).2 (h + 1) ∧ bt6 (tg (2 * 61 + (h + 1))) b = true) ∧ ¬ ((LSa tg j k).1 b ∨ (LSa tg j k).2 b))
noncomputable def lsB (tg : Nat → Int64) (j k g : Nat) : Bool := @decide ((LSa tg j k).2 g) (Classical.propDecidable _)
theorem lsB_t {tg : Nat → Int64} {j k g : Nat} : lsB tg j k g = true ↔ (LSa tg j k).2 g := by
  unfold lsB
  exact @decide_eq_true_iff _ (Classical.propDecidable _)
theorem lsB_bt {tg : Nat → Int64} {j k g : Nat} {lx : Int64} (h : ∀ b, b < 64 → (bt6 lx b = true ↔ (LSa tg j k).2 b)) (hg : g < 64) : bt6 lx g = lsB tg j k g := by
  have h1 := h g hg
  rw [← lsB_t] at h1
  cases e : bt6 lx g <;> cases e2 : lsB tg j k g
  · rfl
  · rw [e, e2] at h1; exact absurd (h1.mpr rfl) (by decide)
  · rw [e, e2] at h1; exact absurd (h1.mp rfl) (by decide)
  · rfl
theorem cnx_le (P : Nat → Bool) : ∀ n, cntP P n ≤ n := by
  intro n
  induction n with
  | zero => exact Nat.le_refl 0
  | succ n ih => simp only [cntP]; split <;> omega
theorem cnx_cg {P Q : Nat → Bool} : ∀ {n : Nat}, (∀ g, 1 ≤ g → g ≤ n → P g = Q g) → cntP P n = cntP Q n := by
  intro n
  induction n with
  | zero => intro _; rfl
  | succ n ih =>
    intro h
    simp only [cntP]
    rw [ih (fun g h1 h2 => h g h1 (by omega)), h (n + 1) (by omega) (Nat.le_refl _)]
theorem cnx_0 {P : Nat → Bool} : ∀ {n : Nat}, (∀ g, 1 ≤ g → g ≤ n → ¬ P g = true) → cntP P n = 0 := by
  intro n
  induction n with
  | zero => intro _; rfl
  | succ n ih =>
    intro h
    rw [cntP_s0 (h (n + 1) (by omega) (Nat.le_refl _))]
    exact ih (fun g h1 h2 => h g h1 (by omega))
noncomputable def cSa (tg : Nat → Int64) (j : Nat) : Nat → Nat
  | 0 => 0
  | k + 1 => cSa tg j k + cntP (lsB tg j k) 60
def BRA (tg : Nat → Int64) (j i : Nat) (r : Int32) : Prop := (∃ k f, k < 59 ∧ f < 60 ∧ lsB tg j k (f + 1) = true ∧ cSa tg j k + cntP (lsB tg j k) f = i ∧ r = nI (f + 1)) ∨ (cSa tg j 59 ≤ i ∧ r = nI 0)
theorem LS_step {tg : Nat → Int64} {j k : Nat} {sv lx av : Int64} (hsv : ∀ b, b < 64 → (bt6 sv b = true ↔ (LSa tg j k).1 b)) (hlx : ∀ b, b < 64 → (bt6 lx b = true ↔ (LSa tg j k).2 b)) (ha : ∀ b, bt6 av b = true ↔ ∃ h, h < 60 ∧ bt6 lx (h + 1) = true ∧ bt6 (tg (2 * 61 + (h + 1))) b = true) (hTB : TB tg) : (∀ b, b < 64 → (bt6 (sv ||| lx) b = true ↔ (LSa tg j (k + 1)).1 b)) ∧ (∀ b, b < 64 → (bt6 (av &&& ((sv ||| lx) ^^^ (-1))) b = true ↔ (LSa tg j (k + 1)).2 b)) ∧ ∀ b, bt6 (av &&& ((sv ||| lx) ^^^ (-1))) b = true → 1 ≤ b ∧ b ≤ 60 := by
  have h1 : ∀ b, b < 64 → (bt6 (sv ||| lx) b = true ↔ (LSa tg j (k + 1)).1 b) := by
    intro b hb
    rw [b6_or, Bool.or_eq_true, hsv b hb, hlx b hb]
    exact Iff.rfl
  refine ⟨h1, fun b hb => ?_, fun b h => ?_⟩
  · rw [b6_and, Bool.and_eq_true, ha b, b6_not hb]
    constructor
    · rintro ⟨⟨h, a1, a2, a3⟩, a4⟩
      refine ⟨⟨h, a1, (hlx _ (by omega)).mp a2, a3⟩, fun r => ?_⟩
      rw [(h1 b hb).mpr r] at a4
      exact absurd a4 (by decide)
    · rintro ⟨⟨h, a1, a2, a3⟩, a4⟩
      refine ⟨⟨h, a1, (hlx _ (by omega)).mpr a2, a3⟩, ?_⟩
      cases e : bt6 (sv ||| lx) b
      · rfl
      · exact absurd ((h1 b hb).mp e) a4
  · rw [b6_and, Bool.and_eq_true] at h
    obtain ⟨g, a1, _, a3⟩ := (ha b).mp h.1
    exact hTB (g + 1) b (by omega) (by omega) a3
theorem BRA_hit {tg : Nat → Int64} {j k f i : Nat} {lx : Int64} {r : Int32} (hk : k < 59) (hf : cSa tg j k + f = i) (hc : f < cntP (bt6 lx) 60) (hb : ∀ b, 1 ≤ b → b ≤ 60 → bt6 lx b = lsB tg j k b) (hn : NTH (bt6 lx) 60 f r) : BRA tg j i r := by
  rcases hn with ⟨h, h1, h2, h3, rfl⟩ | ⟨h1, _⟩
  · refine Or.inl ⟨k, h, hk, h1, by rw [← hb (h + 1) (by omega) (by omega)]; exact h2, ?_, rfl⟩
    rw [← cnx_cg (fun g g1 g2 => hb g g1 (by omega)), h3]
    exact hf
  · omega
theorem BRA_59 {tg : Nat → Int64} {j k f i : Nat} (hk : k = 59) (hf : cSa tg j k + f = i) : BRA tg j i (nI 0) := by
  subst hk
  exact Or.inr ⟨by omega, rfl⟩
theorem LS_lt {tg : Nat → Int64} {j : Nat} : ∀ {k b : Nat}, (LSa tg j k).2 b → b < 64 := by
  intro k b h
  rcases Nat.lt_or_ge b 64 with h1 | h1
  · exact h1
  · cases k with
    | zero => have h2 : bt6 (tg (2 * 61 + j)) b = true := h; rw [b6_big h1] at h2; cases h2
    | succ k => obtain ⟨⟨g, _, _, h2⟩, _⟩ := h; rw [b6_big h1] at h2; cases h2
theorem LS_none {tg : Nat → Int64} {j k : Nat} (h : ∀ b, ¬ (LSa tg j k).2 b) : ∀ m b, ¬ (LSa tg j (k + m)).2 b := by
  intro m
  induction m with
  | zero => exact h
  | succ m ih =>
    rintro b ⟨⟨g, _, g2, _⟩, _⟩
    exact ih _ g2
theorem cSa_none {tg : Nat → Int64} {j k : Nat} (h : ∀ b, ¬ (LSa tg j k).2 b) : ∀ m, cSa tg j (k + m) = cSa tg j k := by
  intro m
  induction m with
  | zero => rfl
  | succ m ih =>
    show cSa tg j (k + m) + cntP (lsB tg j (k + m)) 60 = _
    rw [ih, cnx_0 (fun g _ _ e => LS_none h m g (lsB_t.mp e)), Nat.add_zero]
theorem BRA_end {tg : Nat → Int64} {j k f i : Nat} (hk : k ≤ 59) (hf : cSa tg j k + f = i) (h : ∀ b, b < 64 → ¬ (LSa tg j k).2 b) : BRA tg j i (nI 0) := by
  refine Or.inr ⟨?_, rfl⟩
  have e := cSa_none (fun b r => h b (LS_lt r) r) (59 - k)
  rw [show k + (59 - k) = 59 by omega] at e
  omega

set_option maxRecDepth 100000 in
set_option maxHeartbeats 4000000 in
theorem c_A_broaderX (l : Launch) (dC : Nat → ClassId) (dI : Nat → Nat → Nat) (a : Nat → Nat) (t : Nat → ClassId) (σ : SA) (hG : GA σ) (x y : Int32) (hTB : TB (a_tg σ)) : Met l y_A_broader (wS y_A_broader b_A_broader 10 (some .int)) (rD 3) (va_Pc [.ref (a 0), .int x, .int y] (RB (dC, dI) (yA t) (wA a t σ))) (vp_Si (fun r => (¬ (∃ j' i', 1 ≤ j' ∧ j' ≤ a_hn σ ∧ a_lv σ j' = 1 ∧ x = nI j' ∧ i' < 2 ^ 31 ∧ y = nI i') ∧ r = nI 0) ∨ ∃ j' i', 1 ≤ j' ∧ j' ≤ a_hn σ ∧ a_lv σ j' = 1 ∧ x = nI j' ∧ i' < 2 ^ 31 ∧ y = nI i' ∧ BRA (a_tg σ) j' i' r)) 0 0 (fun _ => False) := by
  refine x_enter (by decide) (Nat.le_of_ble_eq_true rfl) ?_
  intro p e s m below meth c ls hx hb hr hml hT hown hlk hnm hl hB
  obtain ⟨hP, hK, hN⟩ := hB
  have hl : lv_has ls 10 [(0, .ref (a 0)), (1, .int x), (2, .int y)] := hl
  have hown : s.vm.findClass R_A = some m.cls := hown
  have hG2 := hG
  obtain ⟨g_sn, g_sg, g_tn, g_tx, g_kd, g_lv, g_le, g_ln, g_hn, g_lf, g_lt, g_lc, g_rh, g_rn, g_ws, g_wn⟩ := hG
  refine lv_aload_n hx hb d_A_broader_0 rfl (lv_at hl 0 rfl) ?_
  refine va_get (D := (dC, dI)) (C := R_A) (T := F_A) (N := 6) hx hb hT i_A hown hK hP 0 rfl rfl 2 (by decide) (hT _ k_A_26) (fun _ h9 => h9) (v := .ref (a 5)) rfl d_A_broader_1 ?_
  refine lv_iload_n hx hb d_A_broader_4 rfl (lv_at hl 1 rfl) ?_
  refine x_ci (x_runV ⟨hx, hb, hml, hown, hT⟩ (c_H_isLive l dC dI a t σ hG2 x) f_H_isLive k_A_63 blR (va_recv hK hP (ci := 2) (q0 := 5) rfl rfl) (x_bR hK hP hN) hl.1 d_A_broader_5 rfl (lv_room (Nat.le_of_ble_eq_true rfl)) ⟨Nat.le_of_ble_eq_true rfl, Nat.le_of_ble_eq_true rfl⟩ ⟨rfl, rfl⟩ ⟨Nat.le_refl 0, Nat.le_refl 0⟩ rfl) (fun r5 q5 => ?_)
  rcases q5 with ⟨rfl, j, hj1, hj2, hj3, rfl⟩ | ⟨rfl, hnj⟩
  · refine x_if_eq (tgt := 15) hx hb d_A_broader_8 (by decide) (fun h => absurd h (by decide)) (fun _ => ?_)
    refine lv_iload_n hx hb d_A_broader_11 rfl (lv_at hl 2 rfl) ?_
    refine lv_if_ge (tgt := 17) hx hb d_A_broader_12 (by decide) (fun c12 => ?_) (fun c12 => ?_)
    · obtain ⟨i, hi, rfl⟩ := nI_of (show ¬ y < 0 from Int32.not_lt.mpr c12)
      refine lv_iload_n hx hb d_A_broader_17 rfl (lv_at hl 2 rfl) ?_
      refine lv_istore_n (lv' := [(3, .int (nI i)), (0, .ref (a 0)), (1, .int (nI j)), (2, .int (nI i))]) hx hb d_A_broader_18 rfl hl (by decide) rfl (fun ls hl => ?_)
      refine lv_iload_n hx hb d_A_broader_19 rfl (lv_at hl 2 rfl) ?_
      refine x_cl (x_runS ⟨hx, hb, hml, hown, hT⟩ (c_A_setOf l j (by omega)) f_A_setOf k_A_104 blT (x_bT hN) hl.1 d_A_broader_20 rfl (lv_room (Nat.le_of_ble_eq_true rfl)) ⟨Nat.le_of_ble_eq_true rfl, Nat.le_of_ble_eq_true rfl⟩ ⟨rfl, rfl⟩ ⟨Nat.le_refl 0, Nat.le_refl 0⟩ rfl) (fun r20 q20 => ?_)
      subst q20
      refine lv_lstore (lv' := [(4, .long (sg j)), (3, .int (nI i)), (0, .ref (a 0)), (1, .int (nI j)), (2, .int (nI i))]) hx hb d_A_broader_23 hl (by decide) rfl (fun ls hl => ?_)
      refine lv_aload_n hx hb d_A_broader_25 rfl (lv_at hl 2 rfl) ?_
      refine va_get (D := (dC, dI)) (C := R_A) (T := F_A) (N := 6) hx hb hT i_A hown hK hP 0 rfl rfl 3 (by decide) (hT _ k_A_33) (fun _ h9 => h9) (v := .ref (a 10)) rfl d_A_broader_26 ?_
      refine lv_iconst (v := nI 2) hx hb d_A_broader_29 (by decide) ?_
      refine lv_iload_n hx hb d_A_broader_30 rfl (lv_at hl 3 rfl) ?_
      refine x_cl (x_runV ⟨hx, hb, hml, hown, hT⟩ (c_K_targetsOf l dC dI a t σ 2 j (by omega) (by omega) (by omega)) f_K_targetsOf k_A_116 blR (va_recv hK hP (ci := 3) (q0 := 10) rfl rfl) (x_bR hK hP hN) hl.1 d_A_broader_31 rfl (lv_room (Nat.le_of_ble_eq_true rfl)) ⟨Nat.le_of_ble_eq_true rfl, Nat.le_of_ble_eq_true rfl⟩ ⟨rfl, rfl⟩ ⟨Nat.le_refl 0, Nat.le_refl 0⟩ rfl) (fun r31 q31 => ?_)
      subst q31
      refine lv_lstore (lv' := [(6, .long (a_tg σ (2 * 61 + j))), (4, .long (sg j)), (3, .int (nI i)), (0, .ref (a 0)), (1, .int (nI j)), (2, .int (nI i))]) hx hb d_A_broader_34 hl (by decide) rfl (fun ls hl => ?_)
      refine lv_iconst (v := nI 1) hx hb d_A_broader_36 (by decide) ?_
      refine lv_istore (lv' := [(8, .int (nI 1)), (6, .long (a_tg σ (2 * 61 + j))), (4, .long (sg j)), (3, .int (nI i)), (0, .ref (a 0)), (1, .int (nI j)), (2, .int (nI i))]) hx hb d_A_broader_37 hl (by decide) rfl (fun ls hl => ?_)
      have hloop39 : ∀ (n39 : Nat) (k : Nat) (f : Nat) (sv : Int64) (lx : Int64) (ls : Array Slot), k ≤ 59 → cSa (a_tg σ) j k + f = i → (∀ b, b < 64 → (bt6 sv b = true ↔ (LSa (a_tg σ) j k).1 b)) → (∀ b, b < 64 → (bt6 lx b = true ↔ (LSa (a_tg σ) j k).2 b)) → (∀ b, bt6 lx b = true → 1 ≤ b ∧ b ≤ 60) → 61 - k < n39 → lv_has ls 10 [(0, .ref (a 0)), (1, .int (nI j)), (2, .int (nI i)), (3, .int (nI f)), (4, .long sv), (6, .long lx), (8, .int (nI (k + 1)))] → W p l e (rD 3) s m ([.ref (a 0), .int (nI j), .int (nI i)] : List Value).toArray below meth c s.heap [] 0 0 (MQ below (vp_Si (fun r => (¬ (∃ j' i', 1 ≤ j' ∧ j' ≤ a_hn σ ∧ a_lv σ j' = 1 ∧ nI j = nI j' ∧ i' < 2 ^ 31 ∧ nI i = nI i') ∧ r = nI 0) ∨ ∃ j' i', 1 ≤ j' ∧ j' ≤ a_hn σ ∧ a_lv σ j' = 1 ∧ nI j = nI j' ∧ i' < 2 ^ 31 ∧ nI i = nI i' ∧ BRA (a_tg σ) j' i' r)) ([.ref (a 0), .int (nI j), .int (nI i)] : List Value).toArray s 0 0 (fun _ => False)) (F0 m 39 ls []) := by
        intro n39
        induction n39 with
        | zero => intro k f sv lx ls _ _ _ _ _ h9; exact absurd h9 (Nat.not_lt_zero _)
        | succ n39 ih39 =>
          intro k f sv lx ls hk hf hsv hlx hin hmu39 hl
          refine lv_iload hx hb d_A_broader_39 (lv_at hl 6 rfl) ?_
          refine lv_bipush (v := nI 60) hx hb d_A_broader_41 (by decide) ?_
          refine x_icmp_ge (tgt := 110) hx hb d_A_broader_43 (by decide) (fun c43 => ?_) (fun c43 => ?_)
          · refine lv_iconst (v := nI 0) hx hb d_A_broader_110 (by decide) ?_
            exact x_ri hx hb hr hlk d_A_broader_111 (Or.inr ⟨j, i, hj1, hj2, hj3, rfl, hi, rfl, (by first | exact BRA_end (by omega) hf (fun b b1 r9 => by have h7 := (hlx b b1).mpr r9; rw [c49, b6_0] at h7; exact absurd h7 (by decide)) | exact BRA_59 (by omega) hf)⟩)
          · refine lv_lload hx hb d_A_broader_46 (lv_at hl 5 rfl) ?_
            refine lv_lconst (v := 0) hx hb d_A_broader_48 (by decide) ?_
            refine x_lif_eq (tgt := 110) hx hb d_A_broader_49 d_A_broader_50 (by decide) (fun c49 => ?_) (fun c49 => ?_)
            · refine lv_iconst (v := nI 0) hx hb d_A_broader_110 (by decide) ?_
              exact x_ri hx hb hr hlk d_A_broader_111 (Or.inr ⟨j, i, hj1, hj2, hj3, rfl, hi, rfl, (by first | exact BRA_end (by omega) hf (fun b b1 r9 => by have h7 := (hlx b b1).mpr r9; rw [c49, b6_0] at h7; exact absurd h7 (by decide)) | exact BRA_59 (by omega) hf)⟩)
            · refine lv_lload hx hb d_A_broader_53 (lv_at hl 5 rfl) ?_
              have hf31 : f < 2 ^ 31 := by omega
              have hx0 : bt6 lx 0 = false := by cases h9 : bt6 lx 0; rfl; exact absurd (hin 0 h9).1 (by decide)
              have hx61 : ∀ b, 61 ≤ b → bt6 lx b = false := fun b hb9 => by cases h9 : bt6 lx b; rfl; exact absurd (hin b h9).2 (by omega)
              refine x_ci (x_runS ⟨hx, hb, hml, hown, hT⟩ (c_J_bitCountX l lx hx0 hx61) f_J_bitCount k_A_120 blT (x_bT hN) hl.1 d_A_broader_55 rfl (lv_room (Nat.le_of_ble_eq_true rfl)) ⟨Nat.le_of_ble_eq_true rfl, Nat.le_of_ble_eq_true rfl⟩ ⟨rfl, rfl⟩ ⟨Nat.le_refl 0, Nat.le_refl 0⟩ rfl) (fun r55 q55 => ?_)
              subst q55
              have hbc : cntP (bt6 lx) 60 ≤ 60 := cnx_le _ _
              have hce : cntP (bt6 lx) 60 = cntP (lsB (a_tg σ) j k) 60 := cnx_cg (fun g g1 g2 => lsB_bt hlx (by omega))
              refine lv_istore (lv' := [(9, .int (nI (cntP (bt6 lx) 60))), (0, .ref (a 0)), (1, .int (nI j)), (2, .int (nI i)), (3, .int (nI f)), (4, .long sv), (6, .long lx), (8, .int (nI (k + 1)))]) hx hb d_A_broader_58 hl (by decide) rfl (fun ls hl => ?_)
              refine lv_iload_n hx hb d_A_broader_60 rfl (lv_at hl 4 rfl) ?_
              refine lv_iload hx hb d_A_broader_61 (lv_at hl 0 rfl) ?_
              refine x_icmp_ge (tgt := 73) hx hb d_A_broader_63 (by decide) (fun c63 => ?_) (fun c63 => ?_)
              · refine lv_iload_n hx hb d_A_broader_73 rfl (lv_at hl 4 rfl) ?_
                refine lv_iload hx hb d_A_broader_74 (lv_at hl 0 rfl) ?_
                refine x_isub hx hb d_A_broader_76 ?_
                refine lv_istore_n (lv' := [(3, .int (nI (f - (cntP (bt6 lx) 60)))), (9, .int (nI (cntP (bt6 lx) 60))), (0, .ref (a 0)), (1, .int (nI j)), (2, .int (nI i)), (4, .long sv), (6, .long lx), (8, .int (nI (k + 1)))]) hx hb d_A_broader_77 rfl hl (by decide) rfl (fun ls hl => ?_)
                refine lv_lload hx hb d_A_broader_78 (lv_at hl 5 rfl) ?_
                refine lv_lload hx hb d_A_broader_80 (lv_at hl 6 rfl) ?_
                refine lv_lor hx hb d_A_broader_82 ?_
                refine lv_lstore (lv' := [(4, .long (sv ||| lx)), (3, .int (nI (f - (cntP (bt6 lx) 60)))), (9, .int (nI (cntP (bt6 lx) 60))), (0, .ref (a 0)), (1, .int (nI j)), (2, .int (nI i)), (6, .long lx), (8, .int (nI (k + 1)))]) hx hb d_A_broader_83 hl (by decide) rfl (fun ls hl => ?_)
                refine lv_aload_n hx hb d_A_broader_85 rfl (lv_at hl 3 rfl) ?_
                refine va_get (D := (dC, dI)) (C := R_A) (T := F_A) (N := 6) hx hb hT i_A hown hK hP 0 rfl rfl 3 (by decide) (hT _ k_A_33) (fun _ h9 => h9) (v := .ref (a 10)) rfl d_A_broader_86 ?_
                refine lv_iconst (v := nI 2) hx hb d_A_broader_89 (by decide) ?_
                refine lv_lload hx hb d_A_broader_90 (lv_at hl 6 rfl) ?_
                refine x_cl (x_runV ⟨hx, hb, hml, hown, hT⟩ (c_K_targetsOfAll l dC dI a t σ 2 lx (by omega)) f_K_targetsOfAll k_A_126 blR (va_recv hK hP (ci := 3) (q0 := 10) rfl rfl) (x_bR hK hP hN) hl.1 d_A_broader_92 rfl (lv_room (Nat.le_of_ble_eq_true rfl)) ⟨Nat.le_of_ble_eq_true rfl, Nat.le_of_ble_eq_true rfl⟩ ⟨rfl, rfl⟩ ⟨Nat.le_refl 0, Nat.le_refl 0⟩ rfl) (fun av q92 => ?_)
                have hst := LS_step hsv hlx q92 hTB
                refine lv_lload hx hb d_A_broader_95 (lv_at hl 0 rfl) ?_
                refine lv_ldc2 (v := -1) hx hb hown (hT _ k_A_129) d_A_broader_97 ?_
                refine lv_lxor hx hb d_A_broader_100 ?_
                refine lv_land hx hb d_A_broader_101 ?_
                refine lv_lstore (lv' := [(6, .long (av &&& ((sv ||| lx) ^^^ ((-1))))), (4, .long (sv ||| lx)), (3, .int (nI (f - (cntP (bt6 lx) 60)))), (9, .int (nI (cntP (bt6 lx) 60))), (0, .ref (a 0)), (1, .int (nI j)), (2, .int (nI i)), (8, .int (nI (k + 1)))]) hx hb d_A_broader_102 hl (by decide) rfl (fun ls hl => ?_)
                refine x_iinc (lv' := [(8, .int (nI ((k + 1) + 1))), (6, .long (av &&& ((sv ||| lx) ^^^ ((-1))))), (4, .long (sv ||| lx)), (3, .int (nI (f - (cntP (bt6 lx) 60)))), (9, .int (nI (cntP (bt6 lx) 60))), (0, .ref (a 0)), (1, .int (nI j)), (2, .int (nI i))]) hx hb d_A_broader_104 hl (k := 7) rfl (by decide) rfl (fun ls hl => ?_)
                refine lv_goto (tgt := 39) hx hb d_A_broader_107 (by decide) ?_
                exact ih39 (k + 1) _ _ _ ls (by omega) (by simp only [cSa]; rw [← hce]; omega) hst.1 hst.2.1 hst.2.2 (by omega) (lv_sub hl [5, 6, 7, 3, 2, 1, 0] rfl)
              · refine lv_lload hx hb d_A_broader_66 (lv_at hl 6 rfl) ?_
                refine lv_iload_n hx hb d_A_broader_68 rfl (lv_at hl 4 rfl) ?_
                refine x_ci (x_runS ⟨hx, hb, hml, hown, hT⟩ (c_A_nthOf l lx f hf31) f_A_nthOf k_A_112 blT (x_bT hN) hl.1 d_A_broader_69 rfl (lv_room (Nat.le_of_ble_eq_true rfl)) ⟨Nat.le_of_ble_eq_true rfl, Nat.le_of_ble_eq_true rfl⟩ ⟨rfl, rfl⟩ ⟨Nat.le_refl 0, Nat.le_refl 0⟩ rfl) (fun r69 q69 => ?_)
                exact x_ri hx hb hr hlk d_A_broader_72 (Or.inr ⟨j, i, hj1, hj2, hj3, rfl, hi, rfl, BRA_hit (by omega) hf (by omega) (fun b b1 b2 => lsB_bt hlx (by omega)) q69⟩)
      exact hloop39 _ 0 i _ _ ls (by omega) (Nat.zero_add i) (fun b hb9 => by rw [b6_sg (by omega), decide_eq_true_eq]; exact Iff.rfl) (fun b _ => Iff.rfl) (fun b h9 => hTB j b (by omega) (by omega) h9) (Nat.lt_succ_self _) (lv_sub hl [4, 5, 6, 3, 2, 1, 0] rfl)
    · refine lv_iconst (v := nI 0) hx hb d_A_broader_15 (by decide) ?_
      exact x_ri hx hb hr hlk d_A_broader_16 (Or.inl ⟨by rintro ⟨j', i', h1, h2, h3, h4, h5, h6⟩; first | exact hnj ⟨j', h1, h2, h3, h4⟩ | (rw [h6] at c12; exact c12 (nI_pos' h5)), rfl⟩)
  · refine x_if_eq (tgt := 15) hx hb d_A_broader_8 (by decide) (fun _ => ?_) (fun h => absurd h (by decide))
    refine lv_iconst (v := nI 0) hx hb d_A_broader_15 (by decide) ?_
    exact x_ri hx hb hr hlk d_A_broader_16 (Or.inl ⟨by rintro ⟨j', i', h1, h2, h3, h4, h5, h6⟩; first | exact hnj ⟨j', h1, h2, h3, h4⟩ | (rw [h6] at c12; exact c12 (nI_pos' h5)), rfl⟩)

