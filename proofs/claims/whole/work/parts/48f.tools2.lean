/-! tools: conditions put together; quotients; bounds of products -/
set_option maxHeartbeats 200000 in
theorem mg_i {c : Prop} [Decidable c] {α β : Type} {x y : α} {h : β} : (if c then some (x, h) else some (y, h)) = some (if c then x else y, h) := by split <;> rfl
set_option maxHeartbeats 200000 in
theorem mg_a {c : Prop} [Decidable c] {b : Bool} : (if c then b else false) = (decide c && b) := by split <;> simp_all
set_option maxHeartbeats 200000 in
theorem mg_o {c : Prop} [Decidable c] {b : Bool} : (if c then true else b) = (decide c || b) := by split <;> simp_all
set_option maxHeartbeats 200000 in
theorem td (x n : Int) : x.tdiv n = if 0 ≤ x then x / n else -((-x) / n) := by
  by_cases h : 0 ≤ x
  · rw [if_pos h, Int.tdiv_eq_ediv_of_nonneg h]
  · rw [if_neg h, ← Int.tdiv_eq_ediv_of_nonneg (by omega), Int.neg_tdiv]
    omega
set_option maxHeartbeats 200000 in
theorem mb {r q A B : Int} (hA : 0 ≤ A) (h1 : -A ≤ r) (h2 : r ≤ A) (h3 : 0 ≤ q) (h4 : q ≤ B) : -(A * B) ≤ r * q ∧ r * q ≤ A * B := by
  have a1 : r * q ≤ A * q := Int.mul_le_mul_of_nonneg_right h2 h3
  have a2 : A * q ≤ A * B := Int.mul_le_mul_of_nonneg_left h4 hA
  have a3 : -A * q ≤ r * q := Int.mul_le_mul_of_nonneg_right h1 h3
  rw [Int.neg_mul] at a3
  omega
set_option maxHeartbeats 200000 in
theorem tdb {x n : Int} : -(x.natAbs : Int) ≤ x.tdiv n ∧ x.tdiv n ≤ x.natAbs := by
  have := Int.natAbs_tdiv_le_natAbs x n
  omega
set_option maxHeartbeats 200000 in
theorem xr_n {b : Nat} (hb : b < 2147483648) : ol_xor (b : Int) (-1) = some (-(b : Int) - 1) := by
  show some ((Int32.ofInt (b : Int)).toBitVec ^^^ (Int32.ofInt (-1)).toBitVec).toInt = _
  have e : (Int32.ofInt (-1)).toBitVec = BitVec.allOnes 32 := by decide
  rw [i32_nat hb, e, BitVec.xor_allOnes, BitVec.toInt_not, BitVec.toNat_ofNat, Nat.mod_eq_of_lt (by omega), Int.bmod_def]
  congr 1
  omega
set_option maxHeartbeats 200000 in
theorem andn_n {a b : Nat} (ha : a < 2147483648) (hb : b < 2147483648) : ∃ n : Nat, n ≤ a ∧ ol_and (a : Int) (-(b : Int) - 1) = some (n : Int) ∧ ∀ k, n.testBit k = (a.testBit k && !b.testBit k) := by
  have e : (Int32.ofInt (-(b : Int) - 1)).toBitVec = ~~~ (BitVec.ofNat 32 b) := by
    show BitVec.ofInt 32 (-(b : Int) - 1) = _
    apply BitVec.eq_of_toInt_eq
    rw [BitVec.toInt_ofInt, BitVec.toInt_not, BitVec.toNat_ofNat, Nat.mod_eq_of_lt (by omega), Int.bmod_def, Int.bmod_def]
    omega
  have e2 : ∀ k, ((BitVec.ofNat 32 a) &&& ~~~ (BitVec.ofNat 32 b)).toNat.testBit k = (a.testBit k && !b.testBit k) := by
    intro k
    rw [BitVec.testBit_toNat, BitVec.getLsbD_and, BitVec.getLsbD_not, BitVec.getLsbD_ofNat, BitVec.getLsbD_ofNat]
    by_cases hk : k < 32
    · simp [hk]
    · have : a.testBit k = false := Nat.testBit_lt_two_pow (Nat.lt_of_lt_of_le (show a < 2 ^ 32 by omega) (Nat.pow_le_pow_right (by decide) (by omega)))
      simp [this, hk]
  have hle : ((BitVec.ofNat 32 a) &&& ~~~ (BitVec.ofNat 32 b)).toNat ≤ a := by
    rw [BitVec.toNat_and, BitVec.toNat_ofNat, Nat.mod_eq_of_lt (by omega)]
    exact Nat.and_le_left
  refine ⟨_, hle, ?_, e2⟩
  show some ((Int32.ofInt (a : Int)).toBitVec &&& (Int32.ofInt (-(b : Int) - 1)).toBitVec).toInt = _
  rw [i32_nat ha, e, i32_int rfl (by omega)]
set_option maxHeartbeats 200000 in
theorem bt {a k : Nat} (ha : a < 2147483648) : ol_and ((a >>> k : Nat) : Int) 1 = some (if a.testBit k then 1 else 0) := by
  have h2 : a >>> k ≤ a := by rw [Nat.shiftRight_eq_div_pow]; exact Nat.div_le_self _ _
  have := and_n (a := a >>> k) (b := 1) (by omega) (by decide)
  rw [show ((1 : Nat) : Int) = 1 from rfl] at this
  rw [this, bit_n]
  cases a.testBit k <;> rfl
set_option maxHeartbeats 200000 in
theorem or_lt {a k : Nat} (ha : a < 1024) (hk : k < 10) : a ||| 2 ^ k < 1024 := Nat.or_lt_two_pow (n := 10) (by omega) (Nat.pow_lt_pow_right (by decide) (by omega))
