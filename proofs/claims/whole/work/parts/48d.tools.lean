/-! tools: numbers, bits, heaps, loops -/
theorem w_id {x : Int} (h1 : -2147483648 ≤ x) (h2 : x ≤ 2147483647) : ol_w x = x := ol_w_id ⟨h1, h2⟩
theorem pr_eq {g : pg} {a j : Nat} {v : Int} : pu g a j v a j = v := by unfold pu; rw [if_pos ⟨rfl, rfl⟩]
theorem pr_ne {g : pg} {a j b i : Nat} {v : Int} (h : ¬ (b = a ∧ i = j)) : pu g a j v b i = g b i := by unfold pu; rw [if_neg h]
theorem pr_eq' {g : pg} {a j b i : Nat} {v : Int} (h1 : b = a) (h2 : i = j) : pu g a j v b i = v := by subst h1 h2; exact pr_eq
theorem pu_self {g : pg} {a j : Nat} {v : Int} (h : g a j = v) : pu g a j v = g := by
  funext b i
  by_cases e : b = a ∧ i = j
  · obtain ⟨rfl, rfl⟩ := e; rw [pr_eq, h]
  · rw [pr_ne e]
theorem i32_nat {a : Nat} (h : a < 2147483648) : (Int32.ofInt (a : Int)).toBitVec = BitVec.ofNat 32 a := by
  show BitVec.ofInt 32 (a : Int) = _
  exact BitVec.ofInt_natCast 32 a
theorem i32_int {b : BitVec 32} {a : Nat} (h : b.toNat = a) (ha : a < 2147483648) : b.toInt = (a : Int) := by
  rw [BitVec.toInt_eq_toNat_of_lt (by omega), h]
theorem and_n {a b : Nat} (ha : a < 2147483648) (hb : b < 2147483648) : ol_and (a : Int) (b : Int) = some ((a &&& b : Nat) : Int) := by
  have h2 : a &&& b < 2147483648 := Nat.lt_of_le_of_lt Nat.and_le_left ha
  show some ((Int32.ofInt (a : Int)).toBitVec &&& (Int32.ofInt (b : Int)).toBitVec).toInt = _
  rw [i32_nat ha, i32_nat hb, i32_int (a := a &&& b) (by rw [BitVec.toNat_and, BitVec.toNat_ofNat, BitVec.toNat_ofNat, Nat.mod_eq_of_lt (by omega), Nat.mod_eq_of_lt (by omega)]) h2]
theorem or_n {a b : Nat} (ha : a < 2147483648) (hb : b < 2147483648) : ol_or (a : Int) (b : Int) = some ((a ||| b : Nat) : Int) := by
  have h2 : a ||| b < 2 ^ 31 := Nat.or_lt_two_pow (by omega) (by omega)
  show some ((Int32.ofInt (a : Int)).toBitVec ||| (Int32.ofInt (b : Int)).toBitVec).toInt = _
  rw [i32_nat ha, i32_nat hb, i32_int (a := a ||| b) (by rw [BitVec.toNat_or, BitVec.toNat_ofNat, BitVec.toNat_ofNat, Nat.mod_eq_of_lt (by omega), Nat.mod_eq_of_lt (by omega)]) (by omega)]
theorem shr_n {a k : Nat} (ha : a < 2147483648) (hk : k < 32) : ol_shr (a : Int) (k : Int) = some ((a >>> k : Nat) : Int) := by
  have h2 : a >>> k ≤ a := by rw [Nat.shiftRight_eq_div_pow]; exact Nat.div_le_self _ _
  have e : ∀ k : Nat, k < 32 → (Int32.ofInt (k : Int) &&& 31) = Int32.ofInt (k : Int) := by decide
  have e2 : ∀ k : Nat, k < 32 → ((Int32.ofInt (k : Int)).toBitVec.smod 32#32).toNat = k := by decide
  show some (Int32.ofInt (a : Int) >>> (Int32.ofInt (k : Int) &&& 31)).toInt = _
  rw [e k hk]
  show some ((Int32.ofInt (a : Int)).toBitVec.sshiftRight' ((Int32.ofInt (k : Int)).toBitVec.smod 32#32)).toInt = _
  rw [i32_nat ha, BitVec.sshiftRight', e2 k hk]
  rw [i32_int (a := a >>> k) ?_ (by omega)]
  rw [BitVec.sshiftRight_eq_of_msb_false (by rw [BitVec.msb_eq_decide, BitVec.toNat_ofNat, Nat.mod_eq_of_lt (by omega)]; simp; omega), BitVec.toNat_ushiftRight, BitVec.toNat_ofNat, Nat.mod_eq_of_lt (by omega)]
theorem shl1_n : ∀ k : Nat, k < 31 → ol_shl 1 (k : Int) = some ((2 ^ k : Nat) : Int) := by decide
theorem bit_n (a k : Nat) : (a >>> k) &&& 1 = if a.testBit k then 1 else 0 := by
  rw [Nat.testBit, Nat.and_comm 1]
  have : (a >>> k) &&& 1 < 2 := Nat.and_lt_two_pow (n := 1) _ (by decide)
  rcases (show (a >>> k) &&& 1 = 0 ∨ (a >>> k) &&& 1 = 1 by omega) with h | h <;> rw [h] <;> decide
theorem wh_inv {c : ol_CE} {b : ol_SE} {t : pt} (N : Nat) (hN : N < 1000000) (P : Nat → ol_L → pg → Prop) (Q : Option (Option ol_V) → ol_L → pg → Prop) (hs : ∀ k L g, k ≤ N → P k L g → (c L (pb g t, 0, 0) = some (false, (pb g t, 0, 0)) ∧ Q none L g) ∨ (k < N ∧ c L (pb g t, 0, 0) = some (true, (pb g t, 0, 0)) ∧ ∃ r L' g', b L (pb g t, 0, 0) = some (r, L', (pb g' t, 0, 0)) ∧ ((r = none ∧ P (k + 1) L' g') ∨ (r ≠ none ∧ Q r L' g')))) {L : ol_L} {g : pg} (h0 : P 0 L g) : ∃ r L' g', es_wh c b L (pb g t, 0, 0) = some (r, L', (pb g' t, 0, 0)) ∧ Q r L' g' := by
  have key : ∀ m k L g, k + m = N → P k L g → ∃ r L' g', ol_loop (m + 1) c b L (pb g t, 0, 0) = some (r, L', (pb g' t, 0, 0)) ∧ Q r L' g' := by
    intro m
    induction m with
    | zero =>
      intro k L g hk hP
      rcases hs k L g (by omega) hP with ⟨hc, hq⟩ | ⟨hk2, -⟩
      · exact ⟨none, L, g, lp_f hc, hq⟩
      · omega
    | succ m ih =>
      intro k L g hk hP
      rcases hs k L g (by omega) hP with ⟨hc, hq⟩ | ⟨hk2, hc, r, L', g', hb, hr⟩
      · exact ⟨none, L, g, lp_f hc, hq⟩
      · rcases hr with ⟨rfl, hp⟩ | ⟨hr, hq⟩
        · rw [lp_t hc hb]
          exact ih (k + 1) L' g' (by omega) hp
        · refine ⟨r, L', g', ?_, hq⟩
          obtain ⟨q, rfl⟩ : ∃ q, r = some q := by
            cases r with
            | none => exact absurd rfl hr
            | some q => exact ⟨q, rfl⟩
          show (c L (pb g t, 0, 0)).bind _ = _
          rw [hc]
          simp [hb]
  obtain ⟨r, L', g', e, hq⟩ := key N 0 L g (by omega) h0
  exact ⟨r, L', g', wh_fuel (N + 1) (by omega) e, hq⟩
/-- a loop that counts, with no way out but its end -/
theorem wh_for {c : ol_CE} {b : ol_SE} {t : pt} (N : Nat) (hN : N < 1000000) (P : Nat → ol_L → pg → Prop) (hc : ∀ k L g, k < N → P k L g → c L (pb g t, 0, 0) = some (true, (pb g t, 0, 0))) (he : ∀ L g, P N L g → c L (pb g t, 0, 0) = some (false, (pb g t, 0, 0))) (hb : ∀ k L g, k < N → P k L g → ∃ L' g', b L (pb g t, 0, 0) = some (none, L', (pb g' t, 0, 0)) ∧ P (k + 1) L' g') {L : ol_L} {g : pg} (h0 : P 0 L g) : ∃ L' g', es_wh c b L (pb g t, 0, 0) = some (none, L', (pb g' t, 0, 0)) ∧ P N L' g' := by
  obtain ⟨r, L', g', e, rfl, hq⟩ := wh_inv N hN P (fun r L g => r = none ∧ P N L g) (fun k L g hk hP => by
    by_cases hk2 : k = N
    · subst hk2
      exact Or.inl ⟨he L g hP, rfl, hP⟩
    · obtain ⟨L', g', e1, e2⟩ := hb k L g (by omega) hP
      exact Or.inr ⟨by omega, hc k L g (by omega) hP, none, L', g', e1, Or.inl ⟨rfl, e2⟩⟩) h0
  exact ⟨L', g', e, hq⟩
theorem ls_0 {x v : ol_V} {l : ol_L} : ol_lset (x :: l) 0 v = v :: l := rfl
theorem ls_i {n : Int} {v : ol_V} {l : ol_L} {i : Nat} : ol_lset (.inl n :: l) (i + 1) v = .inl n :: ol_lset l i v := by cases i <;> rfl
theorem ls_r {n : Option Nat} {v : ol_V} {l : ol_L} {i : Nat} : ol_lset (.inr (.inl n) :: l) (i + 1) v = .inr (.inl n) :: ol_lset l i v := by cases i <;> rfl
theorem ls_j {n : Int64} {v : ol_V} {l : ol_L} {i : Nat} : ol_lset (.inr (.inr n) :: l) (i + 2) v = .inr (.inr n) :: ol_lset l (i + 1) v := rfl
theorem lt_t {x y : Int} (h : x < y) : ol_lt x y = true := decide_eq_true h
theorem lt_f {x y : Int} (h : ¬ x < y) : ol_lt x y = false := decide_eq_false h
theorem le_t {x y : Int} (h : x ≤ y) : ol_le x y = true := decide_eq_true h
theorem le_f {x y : Int} (h : ¬ x ≤ y) : ol_le x y = false := decide_eq_false h
theorem gt_t {x y : Int} (h : y < x) : ol_gt x y = true := decide_eq_true h
theorem gt_f {x y : Int} (h : ¬ y < x) : ol_gt x y = false := decide_eq_false h
theorem ge_t {x y : Int} (h : y ≤ x) : ol_ge x y = true := decide_eq_true h
theorem ge_f {x y : Int} (h : ¬ y ≤ x) : ol_ge x y = false := decide_eq_false h
theorem eq_t {x y : Int} (h : x = y) : ol_eq x y = true := decide_eq_true h
theorem eq_f {x y : Int} (h : ¬ x = y) : ol_eq x y = false := decide_eq_false h
theorem ne_t {x y : Int} (h : ¬ x = y) : ol_ne x y = true := decide_eq_true h
theorem ne_f {x y : Int} (h : x = y) : ol_ne x y = false := decide_eq_false (fun q => q h)
theorem e_add (x y : Int) : ol_add x y = some (ol_w (x + y)) := rfl
theorem e_sub (x y : Int) : ol_sub x y = some (ol_w (x - y)) := rfl
theorem e_mul (x y : Int) : ol_mul x y = some (ol_w (x * y)) := rfl
theorem e_div {x y : Int} (h : ¬ y = 0) : ol_div x y = some (ol_w (x.tdiv y)) := if_neg h
theorem e_rem {x y : Int} (h : ¬ y = 0) : ol_rem x y = some (ol_w (x.tmod y)) := if_neg h
theorem in_t {v a b : Int} {cs : List ol_C} (h1 : a ≤ v) (h2 : v ≤ b) : fX11_in [.inl v, .inl a, .inl b] (cs, 0, 0) = some (some (.inl 1), (cs, 0, 0)) := by rw [v_in, if_pos ⟨h1, h2⟩]
theorem in_f {v a b : Int} {cs : List ol_C} (h : ¬ (a ≤ v ∧ v ≤ b)) : fX11_in [.inl v, .inl a, .inl b] (cs, 0, 0) = some (some (.inl 0), (cs, 0, 0)) := by rw [v_in, if_neg h]
theorem out_f {v a b : Int} {cs : List ol_C} (h1 : a ≤ v) (h2 : v ≤ b) : fX10_outside [.inl v, .inl a, .inl b] (cs, 0, 0) = some (some (.inl 0), (cs, 0, 0)) := by rw [v_out, if_pos ⟨h1, h2⟩]
theorem out_t {v a b : Int} {cs : List ol_C} (h : ¬ (a ≤ v ∧ v ≤ b)) : fX10_outside [.inl v, .inl a, .inl b] (cs, 0, 0) = some (some (.inl 1), (cs, 0, 0)) := by rw [v_out, if_neg h]
theorem rcv_r {h : ol_H} {ci a : Nat} {l : List ol_V} : ol_rcv h ci (.inr (.inl (some a)) :: l) = ol_isC h a ci := rfl
theorem fe_e {n : Nat} {s : ol_SE} {vs : List ol_V} {h : ol_H} (hl : (ol_exp vs).length ≤ n) : ol_fe n s vs h = (s (ol_ent n vs) h).bind fun p => p.1.bind fun r => some (r, p.2.2) := if_pos hl
theorem ex_0 : ol_exp [] = [] := rfl
theorem ex_i {n : Int} {l : List ol_V} : ol_exp (.inl n :: l) = .inl n :: ol_exp l := rfl
theorem ex_r {n : Option Nat} {l : List ol_V} : ol_exp (.inr (.inl n) :: l) = .inr (.inl n) :: ol_exp l := rfl
theorem ex_j {n : Int64} {l : List ol_V} : ol_exp (.inr (.inr n) :: l) = .inr (.inr n) :: .inr (.inl none) :: ol_exp l := rfl
theorem tn_add {a b : Int} (ha : 0 ≤ a) (hb : 0 ≤ b) : (a + b).toNat = a.toNat + b.toNat := by omega
theorem mi_t {x y : Int} (h : ¬ y < x) : ol_min x y = some x := by unfold ol_min; rw [if_neg h]
theorem mi_f {x y : Int} (h : y < x) : ol_min x y = some y := by unfold ol_min; rw [if_pos h]
theorem ma_t {x y : Int} (h : ¬ x < y) : ol_max x y = some x := by unfold ol_max; rw [if_neg h]
theorem ma_f {x y : Int} (h : x < y) : ol_max x y = some y := by unfold ol_max; rw [if_pos h]
