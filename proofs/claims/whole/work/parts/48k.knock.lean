/-! pins: what the document says, as functions -/
def kSpot (p : Nat) : Int := ([195, 165, 225, 135, 195, 255, 105, 165, 225, 285] : List Int).getD p 0
def kRow (p : Nat) : Nat := ([0, 1, 1, 2, 2, 2, 3, 3, 3, 3] : List Nat).getD p 0
/-- where the ball is when the i-th pin of its row is looked at -/
def kAt (w : Int) (set first : Nat) (a0 : Int) : Nat → Int
  | 0 => a0
  | i + 1 => if set.testBit (first + i) = true ∧ -25 ≤ kSpot (first + i) - kAt w set first a0 i ∧ kSpot (first + i) - kAt w set first a0 i ≤ 25 then kAt w set first a0 i - ((kSpot (first + i) - kAt w set first a0 i).tdiv 5 * 12).tdiv w else kAt w set first a0 i
def kD (w : Int) (set first : Nat) (a0 : Int) (i : Nat) : Int := kSpot (first + i) - kAt w set first a0 i
abbrev kB (w : Int) (set first : Nat) (a0 : Int) (i : Nat) : Prop := set.testBit (first + i) = true ∧ -25 ≤ kD w set first a0 i ∧ kD w set first a0 i ≤ 25
set_option maxHeartbeats 200000 in
theorem kAt_s (w : Int) (set first : Nat) (a0 : Int) (i : Nat) : kAt w set first a0 (i + 1) = if kB w set first a0 i then kAt w set first a0 i - ((kD w set first a0 i).tdiv 5 * 12).tdiv w else kAt w set first a0 i := rfl
abbrev kS : Type := Nat × (Nat → Int)
def kPush (q : Nat) (o : Int) (S : kS) : kS := if S.1.testBit q = true then S else (S.1 ||| 2 ^ q, fun j => if j = q then o else S.2 j)
def kNx (r p : Nat) (o : Int) (S : kS) : kS := if 3 ≤ r then S else if 4 < o then kPush (p + r + 2) o S else if o < -4 then kPush (p + r + 1) o S else kPush (p + r + 2) o (kPush (p + r + 1) o S)
def kF1 (w : Int) (set first r : Nat) (a0 : Int) (S0 : kS) : Nat → kS
  | 0 => S0
  | i + 1 => if kB w set first a0 i then kNx r (first + i) (kD w set first a0 i) (kF1 w set first r a0 S0 i) else kF1 w set first r a0 S0 i
def kBs (w : Int) (set first : Nat) (a0 : Int) : Nat → Nat
  | 0 => 0
  | i + 1 => if kB w set first a0 i then kBs w set first a0 i ||| 2 ^ (first + i) else kBs w set first a0 i
abbrev kOt (w : Int) (set first : Nat) (a0 : Int) (S0 : kS) (i : Nat) : Prop := S0.1.testBit (first + i) = true ∧ set.testBit (first + i) = true ∧ ¬ kB w set first a0 i
def kF2 (w : Int) (set first r : Nat) (a0 : Int) (S0 : kS) : Nat → kS
  | 0 => kF1 w set first r a0 S0 (r + 1)
  | i + 1 => if kOt w set first a0 S0 i then kNx r (first + i) (S0.2 (first + i)) (kF2 w set first r a0 S0 i) else kF2 w set first r a0 S0 i
def kOs (w : Int) (set first : Nat) (a0 : Int) (S0 : kS) : Nat → Nat
  | 0 => 0
  | i + 1 => if kOt w set first a0 S0 i then kOs w set first a0 S0 i ||| 2 ^ (first + i) else kOs w set first a0 S0 i
/-- ball's place, pins hit with their offs, fallen pins: behind r rows -/
def kR (w v : Int) (set : Nat) (O : Nat → Int) (a0 : Int) : Nat → Int × kS × Nat
  | 0 => (a0, (0, O), 0)
  | r + 1 => (kAt w set (r * (r + 1) / 2) (kR w v set O a0 r).1 (r + 1) + v, kF2 w set (r * (r + 1) / 2) r (kR w v set O a0 r).1 (kR w v set O a0 r).2.1 (r + 1), (kR w v set O a0 r).2.2 ||| kBs w set (r * (r + 1) / 2) (kR w v set O a0 r).1 (r + 1) ||| kOs w set (r * (r + 1) / 2) (kR w v set O a0 r).1 (kR w v set O a0 r).2.1 (r + 1))
/-! bounds, and which bits a row leaves alone -/
set_option maxHeartbeats 200000 in
theorem kSpot_b (p : Nat) : 0 ≤ kSpot p ∧ kSpot p ≤ 285 := by
  by_cases h : p < 10
  · revert h; revert p; decide
  · have : kSpot p = 0 := by
      unfold kSpot
      simp only [List.getD, List.getElem?_eq_none (show ([195, 165, 225, 135, 195, 255, 105, 165, 225, 285] : List Int).length ≤ p by simp; omega), Option.getD_none]
    omega
set_option maxHeartbeats 200000 in
theorem kPush_b {q : Nat} {o : Int} {S : kS} (hq : q < 10) (h : S.1 < 1024) : (kPush q o S).1 < 1024 := by
  unfold kPush
  split
  · exact h
  · exact or_lt h hq
set_option maxHeartbeats 200000 in
theorem kPush_t {q : Nat} {o : Int} {S : kS} {j : Nat} (hj : j ≠ q) : (kPush q o S).1.testBit j = S.1.testBit j ∧ (kPush q o S).2 j = S.2 j := by
  unfold kPush
  split
  · exact ⟨rfl, rfl⟩
  · refine ⟨?_, by simp [hj]⟩
    show (S.1 ||| 2 ^ q).testBit j = _
    rw [Nat.testBit_or, Nat.testBit_two_pow]
    simp [Ne.symm hj]
set_option maxHeartbeats 200000 in
theorem kNx_b {r p : Nat} {o : Int} {S : kS} (hp : r < 3 → p + r + 2 < 10) (h : S.1 < 1024) : (kNx r p o S).1 < 1024 := by
  unfold kNx
  split
  · exact h
  · split
    · exact kPush_b (hp (by omega)) h
    · split
      · exact kPush_b (by have := hp (by omega); omega) h
      · exact kPush_b (hp (by omega)) (kPush_b (by have := hp (by omega); omega) h)
set_option maxHeartbeats 200000 in
theorem kNx_t {r p : Nat} {o : Int} {S : kS} {j : Nat} (hj : j ≤ p + r) : (kNx r p o S).1.testBit j = S.1.testBit j ∧ (kNx r p o S).2 j = S.2 j := by
  unfold kNx
  split
  · exact ⟨rfl, rfl⟩
  · split
    · exact kPush_t (by omega)
    · split
      · exact kPush_t (by omega)
      · have a := kPush_t (q := p + r + 2) (o := o) (S := kPush (p + r + 1) o S) (j := j) (by omega)
        have b := kPush_t (q := p + r + 1) (o := o) (S := S) (j := j) (by omega)
        exact ⟨a.1.trans b.1, a.2.trans b.2⟩
-- what the first bits of a row are, and of its offs, is not changed by the row itself
set_option maxHeartbeats 200000 in
theorem kF1_t {w : Int} {set first r : Nat} {a0 : Int} {S0 : kS} {j : Nat} (hj : j ≤ first + r) : ∀ i, (kF1 w set first r a0 S0 i).1.testBit j = S0.1.testBit j ∧ (kF1 w set first r a0 S0 i).2 j = S0.2 j := by
  intro i
  induction i with
  | zero => exact ⟨rfl, rfl⟩
  | succ i ih =>
    unfold kF1
    split
    · have a := kNx_t (r := r) (p := first + i) (o := kD w set first a0 i) (S := kF1 w set first r a0 S0 i) (j := j) (by omega)
      exact ⟨a.1.trans ih.1, a.2.trans ih.2⟩
    · exact ih
set_option maxHeartbeats 200000 in
theorem kF2_t {w : Int} {set first r : Nat} {a0 : Int} {S0 : kS} {j : Nat} (hj : j ≤ first + r) : ∀ i, (kF2 w set first r a0 S0 i).1.testBit j = S0.1.testBit j ∧ (kF2 w set first r a0 S0 i).2 j = S0.2 j := by
  intro i
  induction i with
  | zero => exact kF1_t hj _
  | succ i ih =>
    unfold kF2
    split
    · have a := kNx_t (r := r) (p := first + i) (o := S0.2 (first + i)) (S := kF2 w set first r a0 S0 i) (j := j) (by omega)
      exact ⟨a.1.trans ih.1, a.2.trans ih.2⟩
    · exact ih
set_option maxHeartbeats 200000 in
theorem kF1_b {w : Int} {set first r : Nat} {a0 : Int} {S0 : kS} (hr : r < 3 → first + 2 * r + 2 < 10) (h : S0.1 < 1024) : ∀ i, i ≤ r + 1 → (kF1 w set first r a0 S0 i).1 < 1024 := by
  intro i
  induction i with
  | zero => intro _; exact h
  | succ i ih =>
    intro hi
    unfold kF1
    split
    · exact kNx_b (fun q => by have := hr q; omega) (ih (by omega))
    · exact ih (by omega)
set_option maxHeartbeats 200000 in
theorem kF2_b {w : Int} {set first r : Nat} {a0 : Int} {S0 : kS} (hr : r < 3 → first + 2 * r + 2 < 10) (h : S0.1 < 1024) : ∀ i, i ≤ r + 1 → (kF2 w set first r a0 S0 i).1 < 1024 := by
  intro i
  induction i with
  | zero => intro _; exact kF1_b hr h _ (Nat.le_refl _)
  | succ i ih =>
    intro hi
    unfold kF2
    split
    · exact kNx_b (fun q => by have := hr q; omega) (ih (by omega))
    · exact ih (by omega)
set_option maxHeartbeats 200000 in
theorem kBs_b {w : Int} {set first : Nat} {a0 : Int} {r : Nat} (hr : first + r < 10) : ∀ i, i ≤ r + 1 → kBs w set first a0 i < 1024 := by
  intro i
  induction i with
  | zero => intro _; exact (by decide : 0 < 1024)
  | succ i ih =>
    intro hi
    unfold kBs
    split
    · exact or_lt (ih (by omega)) (by omega)
    · exact ih (by omega)
set_option maxHeartbeats 200000 in
theorem kOs_b {w : Int} {set first : Nat} {a0 : Int} {S0 : kS} {r : Nat} (hr : first + r < 10) : ∀ i, i ≤ r + 1 → kOs w set first a0 S0 i < 1024 := by
  intro i
  induction i with
  | zero => intro _; exact (by decide : 0 < 1024)
  | succ i ih =>
    intro hi
    unfold kOs
    split
    · exact or_lt (ih (by omega)) (by omega)
    · exact ih (by omega)
set_option maxHeartbeats 200000 in
theorem kBs_t {w : Int} {set first : Nat} {a0 : Int} : ∀ i j, (kBs w set first a0 i).testBit j = decide (first ≤ j ∧ j < first + i ∧ kB w set first a0 (j - first)) := by
  intro i
  induction i with
  | zero => intro j; unfold kBs; rw [Nat.zero_testBit]; symm; apply decide_eq_false; omega
  | succ i ih =>
    intro j
    unfold kBs
    by_cases h : kB w set first a0 i
    · rw [if_pos h, Nat.testBit_or, Nat.testBit_two_pow, ih]
      by_cases e : j = first + i
      · subst e
        rw [Nat.add_sub_cancel_left]
        simp [h]
      · rw [decide_eq_false (p := first + i = j) (fun q => e q.symm), Bool.or_false]
        apply decide_eq_decide.mpr
        constructor
        · rintro ⟨a, b, c⟩; exact ⟨a, by omega, c⟩
        · rintro ⟨a, b, c⟩; exact ⟨a, by omega, c⟩
    · rw [if_neg h, ih]
      apply decide_eq_decide.mpr
      constructor
      · rintro ⟨a, b, c⟩; exact ⟨a, by omega, c⟩
      · rintro ⟨a, b, c⟩
        refine ⟨a, ?_, c⟩
        by_cases e : j = first + i
        · subst e
          rw [Nat.add_sub_cancel_left] at c
          exact absurd c h
        · omega
set_option maxHeartbeats 200000 in
theorem kOs_t {w : Int} {set first : Nat} {a0 : Int} {S0 : kS} : ∀ i j, (kOs w set first a0 S0 i).testBit j = decide (first ≤ j ∧ j < first + i ∧ kOt w set first a0 S0 (j - first)) := by
  intro i
  induction i with
  | zero => intro j; unfold kOs; rw [Nat.zero_testBit]; symm; apply decide_eq_false; omega
  | succ i ih =>
    intro j
    unfold kOs
    by_cases h : kOt w set first a0 S0 i
    · rw [if_pos h, Nat.testBit_or, Nat.testBit_two_pow, ih]
      by_cases e : j = first + i
      · subst e
        rw [Nat.add_sub_cancel_left]
        simp [h]
      · rw [decide_eq_false (p := first + i = j) (fun q => e q.symm), Bool.or_false]
        apply decide_eq_decide.mpr
        constructor
        · rintro ⟨a, b, c⟩; exact ⟨a, by omega, c⟩
        · rintro ⟨a, b, c⟩; exact ⟨a, by omega, c⟩
    · rw [if_neg h, ih]
      apply decide_eq_decide.mpr
      constructor
      · rintro ⟨a, b, c⟩; exact ⟨a, by omega, c⟩
      · rintro ⟨a, b, c⟩
        refine ⟨a, ?_, c⟩
        by_cases e : j = first + i
        · subst e
          rw [Nat.add_sub_cancel_left] at c
          exact absurd c h
        · omega
-- how far the ball may be: within 5000 tenths all the time
set_option maxHeartbeats 200000 in
theorem kAt_b {w : Int} {set first : Nat} {a0 : Int} {i : Nat} : -(60 * (i : Int)) ≤ kAt w set first a0 i - a0 ∧ kAt w set first a0 i - a0 ≤ 60 * (i : Int) := by
  induction i with
  | zero => unfold kAt; omega
  | succ i ih =>
    rw [kAt_s]
    split
    · rename_i h
      have h2 := tdb (x := (kD w set first a0 i).tdiv 5 * 12) (n := w)
      have h3 : -5 ≤ (kD w set first a0 i).tdiv 5 ∧ (kD w set first a0 i).tdiv 5 ≤ 5 := by rw [td]; have := h.2; omega
      omega
    · omega
