/-! how many bits a long has: the JDK's way, over numbers -/
theorem pa_split {n a b c d : Nat} (ha : a < 2 ^ n) (hc : c < 2 ^ n) : (a + 2 ^ n * b) &&& (c + 2 ^ n * d) = (a &&& c) + 2 ^ n * (b &&& d) := by
  apply Nat.eq_of_testBit_eq
  intro j
  rw [Nat.testBit_and, Nat.add_comm a, Nat.add_comm c, Nat.add_comm (a &&& c), Nat.testBit_two_pow_mul_add _ ha, Nat.testBit_two_pow_mul_add _ hc, Nat.testBit_two_pow_mul_add _ (Nat.and_lt_two_pow _ hc)]
  split <;> simp [Nat.testBit_and]
theorem pa_cut (x n c d : Nat) (hc : c < 2 ^ n) : x &&& (c + 2 ^ n * d) = (x % 2 ^ n &&& c) + 2 ^ n * (x / 2 ^ n &&& d) := by
  have h := pa_split (n := n) (a := x % 2 ^ n) (b := x / 2 ^ n) (c := c) (d := d) (Nat.mod_lt _ (Nat.two_pow_pos n)) hc
  rw [Nat.mod_add_div] at h
  exact h
def pm1 : Nat → Nat
  | 0 => 0
  | k + 1 => 1 + 4 * pm1 k
def pm2 : Nat → Nat
  | 0 => 0
  | k + 1 => 3 + 16 * pm2 k
def pm4 : Nat → Nat
  | 0 => 0
  | k + 1 => 15 + 256 * pm4 k
def pq1 : Nat → Nat → Nat
  | 0, _ => 0
  | k + 1, x => (x % 2 + x / 2 % 2) + 4 * pq1 k (x / 4)
def pq2 : Nat → Nat → Nat
  | 0, _ => 0
  | k + 1, x => (x % 2 + x / 2 % 2 + x / 4 % 2 + x / 8 % 2) + 16 * pq2 k (x / 16)
def pq3 : Nat → Nat → Nat
  | 0, _ => 0
  | k + 1, x => (x % 2 + x / 2 % 2 + x / 4 % 2 + x / 8 % 2 + x / 16 % 2 + x / 32 % 2 + x / 64 % 2 + x / 128 % 2) + 256 * pq3 k (x / 256)
theorem pa_and1 (a : Nat) : a &&& 1 = a % 2 := Nat.and_two_pow_sub_one_eq_mod a 1
theorem pa_and3 (a : Nat) : a &&& 3 = a % 4 := Nat.and_two_pow_sub_one_eq_mod a 2
theorem pa_and15 (a : Nat) : a &&& 15 = a % 16 := Nat.and_two_pow_sub_one_eq_mod a 4
theorem cut1 (x k : Nat) : x &&& pm1 (k + 1) = x % 4 % 2 + 4 * (x / 4 &&& pm1 k) := by
  have h := pa_cut x 2 1 (pm1 k) (by decide)
  rw [pa_and1] at h
  exact h
theorem cut2 (x k : Nat) : x &&& pm2 (k + 1) = x % 16 % 4 + 16 * (x / 16 &&& pm2 k) := by
  have h := pa_cut x 4 3 (pm2 k) (by decide)
  rw [pa_and3] at h
  exact h
theorem cut4 (x k : Nat) : x &&& pm4 (k + 1) = x % 256 % 16 + 256 * (x / 256 &&& pm4 k) := by
  have h := pa_cut x 8 15 (pm4 k) (by decide)
  rw [pa_and15] at h
  exact h
theorem dd (x a b c : Nat) (h : a * b = c) : x / a / b = x / c := by rw [Nat.div_div_eq_div_mul, h]
theorem pa_1 : ∀ (k x : Nat), (x &&& pm1 k) + (x / 2 &&& pm1 k) = pq1 k x := by
  intro k
  induction k with
  | zero => intro x; simp [pm1, pq1]
  | succ k ih =>
    intro x
    have h := ih (x / 4)
    rw [cut1, cut1, dd x 2 4 8 rfl]
    rw [dd x 4 2 8 rfl] at h
    simp only [pq1]
    rw [← h]
    omega
theorem pa_0 : ∀ (k x : Nat), x < 4 ^ k → (x &&& pm1 k) + 2 * (x / 2 &&& pm1 k) = x := by
  intro k
  induction k with
  | zero =>
    intro x h
    obtain rfl : x = 0 := by omega
    simp [pm1]
  | succ k ih =>
    intro x hx
    have h := ih (x / 4) (by rw [Nat.pow_succ] at hx; omega)
    rw [cut1, cut1, dd x 2 4 8 rfl]
    rw [dd x 4 2 8 rfl] at h
    generalize (x / 4 &&& pm1 k) = A at h ⊢
    generalize (x / 8 &&& pm1 k) = B at h ⊢
    omega
theorem ar2a (A B y : Nat) (hA : A ≤ 2) (hB : B ≤ 2) : (A + 4 * (B + 4 * y)) % 16 % 4 = A := by omega
theorem ar2b (A B y : Nat) (hA : A ≤ 2) (hB : B ≤ 2) : (A + 4 * (B + 4 * y)) / 16 = y := by omega
theorem ar2c (A B y : Nat) (hA : A ≤ 2) (hB : B ≤ 2) : (A + 4 * (B + 4 * y)) / 4 = B + 4 * y := by omega
theorem ar2d (B y : Nat) (hB : B ≤ 2) : (B + 4 * y) % 16 % 4 = B := by omega
theorem ar2e (B y : Nat) (hB : B ≤ 2) : (B + 4 * y) / 16 = y / 4 := by omega
theorem m2 (x : Nat) : x % 2 ≤ 1 := by omega
theorem pa_2 : ∀ (k x : Nat), (pq1 (2 * k) x &&& pm2 k) + (pq1 (2 * k) x / 4 &&& pm2 k) = pq2 k x := by
  intro k
  induction k with
  | zero => intro x; simp [pm2, pq2]
  | succ k ih =>
    intro x
    have e : pq1 (2 * (k + 1)) x = (x % 2 + x / 2 % 2) + 4 * ((x / 4 % 2 + x / 4 / 2 % 2) + 4 * pq1 (2 * k) (x / 4 / 4)) := rfl
    have h := ih (x / 16)
    rw [dd x 4 4 16 rfl, dd x 4 2 8 rfl] at e
    have hA : x % 2 + x / 2 % 2 ≤ 2 := Nat.add_le_add (m2 _) (m2 _)
    have hB : x / 4 % 2 + x / 8 % 2 ≤ 2 := Nat.add_le_add (m2 _) (m2 _)
    simp only [pq2]
    rw [← h, cut2, cut2, e, ar2a _ _ _ hA hB, ar2b _ _ _ hA hB, ar2c _ _ _ hA hB, ar2d _ _ hB, ar2e _ _ hB, Nat.mul_add]
    simp only [Nat.add_assoc, Nat.add_left_comm, Nat.add_comm]
theorem pq2_lo : ∀ (k x : Nat), pq2 k x % 16 ≤ 4 := by
  intro k x
  cases k with
  | zero => simp [pq2]
  | succ k =>
    simp only [pq2]
    have hA : x % 2 + x / 2 % 2 + x / 4 % 2 + x / 8 % 2 ≤ 4 := Nat.add_le_add (Nat.add_le_add (Nat.add_le_add (m2 _) (m2 _)) (m2 _)) (m2 _)
    generalize x % 2 + x / 2 % 2 + x / 4 % 2 + x / 8 % 2 = A at hA
    generalize pq2 k (x / 16) = y
    omega
theorem ar3a (A B y : Nat) (hA : A ≤ 4) (hB : B ≤ 4) : (A + 16 * (B + 16 * y)) / 16 = B + 16 * y := by omega
theorem ar3b (A B y : Nat) (hA : A ≤ 4) (hB : B ≤ 4) : (A + 16 * (B + 16 * y) + (B + 16 * y)) % 256 % 16 = A + B := by omega
theorem ar3c (A B y : Nat) (hA : A ≤ 4) (hB : B ≤ 4) (hy : y % 16 ≤ 4) : (A + 16 * (B + 16 * y) + (B + 16 * y)) / 256 = y + y / 16 := by omega
theorem pa_3 : ∀ (k x : Nat), (pq2 (2 * k) x + pq2 (2 * k) x / 16) &&& pm4 k = pq3 k x := by
  intro k
  induction k with
  | zero => intro x; simp [pm4, pq3]
  | succ k ih =>
    intro x
    have e : pq2 (2 * (k + 1)) x = (x % 2 + x / 2 % 2 + x / 4 % 2 + x / 8 % 2) + 16 * ((x / 16 % 2 + x / 16 / 2 % 2 + x / 16 / 4 % 2 + x / 16 / 8 % 2) + 16 * pq2 (2 * k) (x / 16 / 16)) := rfl
    have h := ih (x / 256)
    have hlo := pq2_lo (2 * k) (x / 256)
    rw [dd x 16 16 256 rfl, dd x 16 2 32 rfl, dd x 16 4 64 rfl, dd x 16 8 128 rfl] at e
    have hA : x % 2 + x / 2 % 2 + x / 4 % 2 + x / 8 % 2 ≤ 4 := Nat.add_le_add (Nat.add_le_add (Nat.add_le_add (m2 _) (m2 _)) (m2 _)) (m2 _)
    have hB : x / 16 % 2 + x / 32 % 2 + x / 64 % 2 + x / 128 % 2 ≤ 4 := Nat.add_le_add (Nat.add_le_add (Nat.add_le_add (m2 _) (m2 _)) (m2 _)) (m2 _)
    simp only [pq3]
    rw [← h, cut4, e, ar3a _ _ _ hA hB, ar3b _ _ _ hA hB, ar3c _ _ _ hA hB hlo]
    simp only [Nat.add_assoc]
