/-! games: what the document says, as functions -/
def rr (r : Nat → Int) (n i : Nat) : Int := if i < n then r i else 0
def gSc (r : Nat → Int) (n a : Nat) : Int := if r a = 10 then rr r n a + rr r n (a + 1) + rr r n (a + 2) else if r a + r (a + 1) = 10 then r a + r (a + 1) + rr r n (a + 2) else r a + r (a + 1)
def gSum (r : Nat → Int) (n : Nat) : Nat → Int
  | 0 => 0
  | k + 1 => gSum r n k + gSc r n (gmA r k)
def gF (r : Nat → Int) (n : Nat) : Nat → Nat
  | 0 => 0
  | k + 1 => if gF r n k = k ∧ gmA r (k + 1) ≤ n then k + 1 else gF r n k
set_option maxHeartbeats 200000 in
theorem gmA_s (r : Nat → Int) (k : Nat) : gmA r (k + 1) = gmA r k + (if r (gmA r k) = 10 then 1 else 2) := rfl
set_option maxHeartbeats 200000 in
theorem gmA_up (r : Nat → Int) (k : Nat) : gmA r k + 1 ≤ gmA r (k + 1) ∧ gmA r (k + 1) ≤ gmA r k + 2 := by
  rw [gmA_s]; split <;> omega
set_option maxHeartbeats 200000 in
theorem gmA_mono (r : Nat → Int) {j k : Nat} (h : j ≤ k) : gmA r j ≤ gmA r k := by
  obtain ⟨d, rfl⟩ : ∃ d, k = j + d := ⟨k - j, by omega⟩
  clear h
  induction d with
  | zero => exact Nat.le_refl _
  | succ d ih => have := (gmA_up r (j + d)).1; rw [← Nat.add_assoc]; omega
set_option maxHeartbeats 200000 in
theorem gmA_b (r : Nat → Int) : ∀ k, gmA r k ≤ 2 * k := by
  intro k
  induction k with
  | zero => exact Nat.le_refl _
  | succ k ih => have := (gmA_up r k).2; omega
set_option maxHeartbeats 200000 in
theorem gF_lo {r : Nat → Int} {n k : Nat} (h : gmA r k ≤ n) : ∀ j, j ≤ k → gF r n j = j := by
  intro j
  induction j with
  | zero => intro _; rfl
  | succ j ih =>
    intro hj
    unfold gF
    rw [if_pos ⟨ih (by omega), Nat.le_trans (gmA_mono r hj) h⟩]
set_option maxHeartbeats 200000 in
theorem gF_eq {r : Nat → Int} {n k : Nat} (hk : k ≤ 9) (h1 : gmA r k ≤ n) (h2 : k = 9 ∨ n < gmA r (k + 1)) : gF r n 9 = k := by
  rcases h2 with h2 | h2
  · subst h2; exact gF_lo h1 9 (Nat.le_refl _)
  · have key : ∀ d, gF r n (k + d) = k := by
      intro d
      induction d with
      | zero => exact gF_lo h1 k (Nat.le_refl _)
      | succ d ih =>
        rw [← Nat.add_assoc]
        unfold gF
        rw [ih, if_neg]
        rintro ⟨q1, q2⟩
        have : d = 0 := by omega
        subst this
        rw [Nat.add_zero] at q2
        omega
    have := key (9 - k)
    rw [show k + (9 - k) = 9 by omega] at this
    exact this
set_option maxHeartbeats 200000 in
theorem gF_p (r : Nat → Int) (n : Nat) : gF r n 9 ≤ 9 ∧ gmA r (gF r n 9) ≤ n ∧ (gF r n 9 = 9 ∨ n < gmA r (gF r n 9 + 1)) := by
  have key : ∀ j, gF r n j ≤ j ∧ gmA r (gF r n j) ≤ n ∧ (gF r n j = j ∨ n < gmA r (gF r n j + 1)) := by
    intro j
    induction j with
    | zero => exact ⟨Nat.le_refl _, Nat.zero_le _, Or.inl rfl⟩
    | succ j ih =>
      obtain ⟨a, b, c⟩ := ih
      unfold gF
      by_cases h : gF r n j = j ∧ gmA r (j + 1) ≤ n
      · rw [if_pos h]; exact ⟨Nat.le_refl _, h.2, Or.inl rfl⟩
      · rw [if_neg h]
        refine ⟨by omega, b, Or.inr ?_⟩
        rcases c with c | c
        · rw [c]
          have : ¬ gmA r (j + 1) ≤ n := fun q => h ⟨c, q⟩
          omega
        · exact c
  exact key 9
def gRo (r : Nat → Int) (n : Nat) : Prop := ∀ i, i < n → 0 ≤ r i ∧ r i ≤ 10
set_option maxHeartbeats 200000 in
theorem rr_b {r : Nat → Int} {n : Nat} (h : gRo r n) (i : Nat) : 0 ≤ rr r n i ∧ rr r n i ≤ 10 := by
  unfold rr
  by_cases c : i < n
  · rw [if_pos c]; exact h i c
  · rw [if_neg c]; omega
set_option maxHeartbeats 200000 in
theorem rr_in {r : Nat → Int} {n i : Nat} (h : i < n) : rr r n i = r i := if_pos h
set_option maxHeartbeats 200000 in
theorem rr_out {r : Nat → Int} {n i : Nat} (h : n ≤ i) : rr r n i = 0 := if_neg (by omega)
set_option maxHeartbeats 200000 in
theorem gSum_b {r : Nat → Int} {n : Nat} (h : gRo r n) : ∀ k, gmA r k ≤ n → 0 ≤ gSum r n k ∧ gSum r n k ≤ 30 * (k : Int) := by
  intro k
  induction k with
  | zero => intro _; exact (by decide : (0 : Int) ≤ 0 ∧ (0 : Int) ≤ 30 * ((0 : Nat) : Int))
  | succ k ih =>
    intro hk
    have u := gmA_s r k
    have i1 := ih (by have := (gmA_up r k).1; omega)
    have b0 := rr_b h (gmA r k)
    have b1 := rr_b h (gmA r k + 1)
    have b2 := rr_b h (gmA r k + 2)
    show 0 ≤ gSum r n k + gSc r n (gmA r k) ∧ gSum r n k + gSc r n (gmA r k) ≤ 30 * ((k + 1 : Nat) : Int)
    unfold gSc
    by_cases c : r (gmA r k) = 10
    · rw [if_pos c]; omega
    · rw [if_neg c] at u ⊢
      have d0 := h (gmA r k) (by omega)
      have d1 := h (gmA r k + 1) (by omega)
      split <;> omega
/-- sum, frames, room, whether it is over -/
def gOvB (r : Nat → Int) (n : Nat) : Prop := gmA r 9 + 2 ≤ n ∧ ((r (gmA r 9) = 10 ∨ r (gmA r 9) + r (gmA r 9 + 1) = 10) → gmA r 9 + 3 ≤ n)
noncomputable def gOv1 (r : Nat → Int) (n : Nat) : Int := @ite Int (gOvB r n) (Classical.propDecidable _) 1 0
set_option maxHeartbeats 200000 in
theorem gOv_1 {r : Nat → Int} {n : Nat} (h : gOvB r n) : gOv1 r n = 1 := by unfold gOv1; rw [if_pos h]
set_option maxHeartbeats 200000 in
theorem gOv_0 {r : Nat → Int} {n : Nat} (h : ¬ gOvB r n) : gOv1 r n = 0 := by unfold gOv1; rw [if_neg h]
noncomputable def gSm (r : Nat → Int) (n : Nat) : Int := gSum r n (gF r n 9) + (if gOv1 r n = 1 then rr r n (gmA r 9) + rr r n (gmA r 9 + 1) + rr r n (gmA r 9 + 2) else 0)
noncomputable def gFr (r : Nat → Int) (n : Nat) : Int := if gOv1 r n = 1 then 10 else (gF r n 9 : Int)
/-- what the next roll may be, while the game is on -/
def gRm (r : Nat → Int) (n : Nat) : Int := if gF r n 9 < 9 then (if gmA r (gF r n 9) < n then 10 - r (gmA r (gF r n 9)) else 10) else if gmA r 9 = n then 10 else if gmA r 9 + 1 = n then (if r (gmA r 9) = 10 then 10 else 10 - r (gmA r 9)) else (if r (gmA r 9) = 10 ∧ r (gmA r 9 + 1) < 10 then 10 - r (gmA r 9 + 1) else 10)
set_option maxHeartbeats 200000 in
theorem gOv_n {r : Nat → Int} {n : Nat} (h : ¬ gOvB r n) : n ≤ 20 := by
  have := gmA_b r 9
  unfold gOvB at h
  by_cases c : 21 ≤ n
  · exact absurd ⟨by omega, fun _ => by omega⟩ h
  · omega
set_option maxHeartbeats 200000 in
theorem gOv_F {r : Nat → Int} {n : Nat} (h : gOvB r n) : gF r n 9 = 9 := gF_eq (Nat.le_refl _) (by have := h.1; omega) (Or.inl rfl)
set_option maxHeartbeats 200000 in
theorem gRm_b {r : Nat → Int} {n : Nat} (hr : gRo r n) (h : ¬ gOvB r n) : 0 ≤ gRm r n ∧ gRm r n ≤ 10 := by
  obtain ⟨f1, f2, f3⟩ := gF_p r n
  unfold gRm
  by_cases c : gF r n 9 < 9
  · rw [if_pos c]
    by_cases d : gmA r (gF r n 9) < n
    · rw [if_pos d]; have := hr _ d; omega
    · rw [if_neg d]; omega
  · rw [if_neg c]
    have e9 : gF r n 9 = 9 := by omega
    rw [e9] at f2
    by_cases d : gmA r 9 = n
    · rw [if_pos d]; omega
    · rw [if_neg d]
      have a0 := hr (gmA r 9) (by omega)
      by_cases d2 : gmA r 9 + 1 = n
      · rw [if_pos d2]; split <;> omega
      · rw [if_neg d2]
        have a1 := hr (gmA r 9 + 1) (by omega)
        split <;> omega
set_option maxHeartbeats 200000 in
theorem gm_cg {r r' : Nat → Int} {m : Nat} (h : ∀ i, i < m → r' i = r i) : ∀ k, gmA r' k + 1 ≤ m ∨ gmA r' k ≤ m → (∀ j, j < k → gmA r' j < m) → gmA r' k = gmA r k := by
  intro k
  induction k with
  | zero => intro _ _; rfl
  | succ k ih =>
    intro h1 h2
    have hk := h2 k (by omega)
    have e := ih (by omega) (fun j hj => h2 j (by omega))
    rw [gmA_s, gmA_s, ← e, h _ hk]
set_option maxHeartbeats 200000 in
theorem gOv_cg {r r' : Nat → Int} {m : Nat} (h : ∀ i, i < m → r' i = r i) (ho : gOvB r' m) : gOvB r m := by
  have e : gmA r' 9 = gmA r 9 := gm_cg h 9 (by have := ho.1; omega) (fun j hj => by
    have := gmA_mono r' (show j + 1 ≤ 9 by omega)
    have := (gmA_up r' j).1
    have := ho.1
    omega)
  obtain ⟨o1, o2⟩ := ho
  rw [e] at o1 o2
  rw [h _ (by omega), h _ (by omega)] at o2
  exact ⟨o1, o2⟩
