theorem wb_tb (n : Nat) : (lN n).toBitVec = BitVec.ofNat 64 n := rfl
theorem wb_inj {a b : Int64} (h : a.toBitVec = b.toBitVec) : a = b := Int64.toBitVec_inj.mp h
theorem wb_tn {n : Nat} (h : n < 2 ^ 64) : (lN n).toBitVec.toNat = n := by rw [wb_tb, BitVec.toNat_ofNat, Nat.mod_eq_of_lt h]
theorem wb_of (x : Int64) : ∃ n, n < 2 ^ 64 ∧ x = lN n := ⟨x.toBitVec.toNat, x.toBitVec.isLt, wb_inj (by rw [wb_tb]; simp)⟩
theorem wb_of32 (x : Int32) : ∃ n, n < 2 ^ 32 ∧ x = nI n := ⟨x.toBitVec.toNat, x.toBitVec.isLt, Int32.toBitVec_inj.mp (by show _ = BitVec.ofNat 32 _; simp)⟩
theorem wb_c : ∀ k, k < 64 → ((nI k).toInt64 &&& 63) = lN k := by decide +kernel
theorem wb_cu : ∀ k, k < 64 → ((nI k).toInt64.toUInt64 &&& Int64.toUInt64 63) = UInt64.ofNat k := by decide +kernel
theorem wb_sm : ∀ k, k < 64 → (BitVec.ofNat 64 k).smod 64 = BitVec.ofNat 64 k := by decide +kernel
theorem wb_pw {a b : Nat} (h : a ≤ b) : 2 ^ b = 2 ^ a * 2 ^ (b - a) := by rw [← Nat.pow_add]; congr 1; omega
theorem wb_lt2 {a b : Nat} (h : a < b) : 2 ^ a < 2 ^ b := Nat.pow_lt_pow_right (by decide) h
theorem wb_mod (n : Nat) : lN n = lN (n % 2 ^ 64) := wb_inj (by rw [wb_tb, wb_tb]; apply BitVec.eq_of_toNat_eq; rw [BitVec.toNat_ofNat, BitVec.toNat_ofNat, Nat.mod_mod])
theorem wb_shr {n k : Nat} (hn : n < 2 ^ 64) (hk : k < 64) : ((lN n).toUInt64 >>> ((nI k).toInt64.toUInt64 &&& Int64.toUInt64 63)).toInt64 = lN (n / 2 ^ k) := by
  rw [wb_cu k hk]
  apply wb_inj
  apply BitVec.eq_of_toNat_eq
  show ((lN n).toUInt64 >>> UInt64.ofNat k).toNat = (BitVec.ofNat 64 _).toNat
  have h1 : (UInt64.ofNat k).toNat = k := by
    show (BitVec.ofNat 64 k).toNat = k
    rw [BitVec.toNat_ofNat, Nat.mod_eq_of_lt (by omega)]
  have h2 : (lN n).toUInt64.toNat = n := wb_tn hn
  rw [UInt64.toNat_shiftRight, h1, h2, Nat.mod_eq_of_lt hk, Nat.shiftRight_eq_div_pow, BitVec.toNat_ofNat, Nat.mod_eq_of_lt (Nat.lt_of_le_of_lt (Nat.div_le_self _ _) hn)]
theorem wb_shl (n : Nat) {k : Nat} (hk : k < 64) : lN n <<< ((nI k).toInt64 &&& 63) = lN (n * 2 ^ k) := by
  rw [wb_c k hk]
  apply wb_inj
  rw [Int64.toBitVec_shiftLeft, wb_tb, wb_tb, wb_tb, wb_sm k hk]
  apply BitVec.eq_of_toNat_eq
  rw [BitVec.shiftLeft_eq', BitVec.toNat_shiftLeft, BitVec.toNat_ofNat, BitVec.toNat_ofNat, BitVec.toNat_ofNat, Nat.mod_eq_of_lt (show k < 2 ^ 64 by omega), Nat.shiftLeft_eq, Nat.mul_mod, Nat.mod_mod, ← Nat.mul_mod]
theorem wb_and {a b : Nat} (ha : a < 2 ^ 64) (hb : b < 2 ^ 64) : lN a &&& lN b = lN (a &&& b) := by
  apply wb_inj
  rw [Int64.toBitVec_and, wb_tb, wb_tb, wb_tb]
  apply BitVec.eq_of_toNat_eq
  rw [BitVec.toNat_and, BitVec.toNat_ofNat, BitVec.toNat_ofNat, BitVec.toNat_ofNat, Nat.mod_eq_of_lt ha, Nat.mod_eq_of_lt hb, Nat.mod_eq_of_lt (Nat.and_lt_two_pow _ hb)]
theorem wb_or {a b : Nat} (ha : a < 2 ^ 64) (hb : b < 2 ^ 64) : lN a ||| lN b = lN (a ||| b) := by
  apply wb_inj
  rw [Int64.toBitVec_or, wb_tb, wb_tb, wb_tb]
  apply BitVec.eq_of_toNat_eq
  rw [BitVec.toNat_or, BitVec.toNat_ofNat, BitVec.toNat_ofNat, BitVec.toNat_ofNat, Nat.mod_eq_of_lt ha, Nat.mod_eq_of_lt hb, Nat.mod_eq_of_lt (Nat.or_lt_two_pow ha hb)]
/-! a set of headings: the bits of a long -/
def bt6 (x : Int64) (j : Nat) : Bool := x.toBitVec.getLsbD j
theorem b6_and (x y : Int64) (j : Nat) : bt6 (x &&& y) j = (bt6 x j && bt6 y j) := by simp [bt6, Int64.toBitVec_and]
theorem b6_or (x y : Int64) (j : Nat) : bt6 (x ||| y) j = (bt6 x j || bt6 y j) := by simp [bt6, Int64.toBitVec_or]
theorem b6_xor (x y : Int64) (j : Nat) : bt6 (x ^^^ y) j = (bt6 x j ^^ bt6 y j) := by simp [bt6, Int64.toBitVec_xor]
theorem b6_ext {x y : Int64} (h : ∀ j, j < 64 → bt6 x j = bt6 y j) : x = y := Int64.toBitVec_inj.mp (BitVec.eq_of_getLsbD_eq h)
theorem b6_big {x : Int64} {j : Nat} (h : 64 ≤ j) : bt6 x j = false := by
  unfold bt6
  exact BitVec.getLsbD_of_ge _ _ h
theorem b6_0 (j : Nat) : bt6 0 j = false := by
  show (0#64).getLsbD j = false
  simp
theorem b6_m1 {j : Nat} (h : j < 64) : bt6 (-1) j = true := by
  have ha : (-1 : Int64).toBitVec = BitVec.allOnes 64 := by decide
  unfold bt6
  rw [ha, BitVec.getLsbD_allOnes]
  simp [h]
theorem b6_not {x : Int64} {j : Nat} (h : j < 64) : bt6 (x ^^^ (-1)) j = !bt6 x j := by
  rw [b6_xor, b6_m1 h]
  cases bt6 x j <;> rfl
def sg (h : Nat) : Int64 := lN (2 ^ h)
theorem sg_bv {h : Nat} : (sg h).toBitVec = BitVec.twoPow 64 h := by
  show BitVec.ofNat 64 (2 ^ h) = _
  apply BitVec.eq_of_toNat_eq
  rw [BitVec.toNat_ofNat, BitVec.toNat_twoPow]
theorem b6_sg {h j : Nat} (hh : h < 64) : bt6 (sg h) j = decide (j = h) := by
  unfold bt6
  rw [sg_bv, BitVec.getLsbD_twoPow]
  by_cases e : j = h
  · subst e; simp [hh]
  · simp [e, Ne.symm e]
theorem sg_shl {h : Nat} (hh : h < 64) : (1 : Int64) <<< ((nI h).toInt64 &&& 63) = sg h := by
  have e := wb_shl 1 hh
  rw [Nat.one_mul] at e
  exact e
theorem b6_zero {x : Int64} : x = 0 ↔ ∀ j, j < 64 → bt6 x j = false := by
  constructor
  · intro h j _; rw [h]; exact b6_0 j
  · intro h; exact b6_ext (fun j hj => by rw [h j hj, b6_0])
theorem b6_hold {x : Int64} {h : Nat} (hh : h < 64) : (x &&& sg h) = 0 ↔ bt6 x h = false := by
  rw [b6_zero]
  constructor
  · intro q
    have := q h hh
    rw [b6_and, b6_sg hh] at this
    simpa using this
  · intro q j _
    rw [b6_and, b6_sg hh]
    by_cases e : j = h
    · subst e; rw [q]; rfl
    · simp [e]
