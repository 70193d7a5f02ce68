/-! the constructors' run: a closed computation -/
def g0 (a j : Nat) : Int :=
  if a = 36 ∨ a = 85 then (if j % 5 = 1 ∨ j % 5 = 3 then 2 else if j % 5 = 2 then 6 else 0)
  else if 53 ≤ a ∧ a ≤ 58 then (if j = 0 then (a : Int) - 51 else 12)
  else if a = 78 then (j : Int) + 2
  else if a = 79 then 12
  else if a = 80 then (if j = 0 then 0 else if j < 3 then 1 else if j < 6 then 2 else 3)
  else if a = 81 then ol_tab 0 j
  else 0
def t0 (_ : Nat) : Int64 := 0
def q_v : ol_V → ol_V → Bool
  | .inl a, .inl b => decide (a = b)
  | .inr (.inl a), .inr (.inl b) => decide (a = b)
  | .inr (.inr a), .inr (.inr b) => decide (a = b)
  | _, _ => false
theorem q_v_eq : ∀ a b : ol_V, q_v a b = true → a = b := by
  intro a b h
  rcases a with a | a | a <;> rcases b with b | b | b <;> simp [q_v] at h ⊢ <;> exact h
def q_l : List ol_V → List ol_V → Bool
  | [], [] => true
  | a :: l, b :: k => q_v a b && q_l l k
  | _, _ => false
theorem q_l_eq : ∀ a b : List ol_V, q_l a b = true → a = b := by
  intro a
  induction a with
  | nil => intro b h; cases b with
    | nil => rfl
    | cons x k => cases h
  | cons x l ih => intro b h; cases b with
    | nil => cases h
    | cons y k =>
      simp only [q_l, Bool.and_eq_true] at h
      rw [q_v_eq _ _ h.1, ih _ h.2]
def q_h : List ol_C → List ol_C → Bool
  | [], [] => true
  | a :: l, b :: k => decide (a.1 = b.1) && q_l a.2 b.2 && q_h l k
  | _, _ => false
theorem q_h_eq : ∀ a b : List ol_C, q_h a b = true → a = b := by
  intro a
  induction a with
  | nil => intro b h; cases b with
    | nil => rfl
    | cons x k => cases h
  | cons x l ih => intro b h; cases b with
    | nil => cases h
    | cons y k =>
      simp only [q_h, Bool.and_eq_true, decide_eq_true_eq] at h
      obtain ⟨x1, x2⟩ := x
      obtain ⟨y1, y2⟩ := y
      rw [show x1 = y1 from h.1.1, q_l_eq x2 y2 h.1.2, ih _ h.2]
def q_r (r : Option (Option ol_V × ol_H)) (cs : List ol_C) (k n : Nat) : Bool := match r with
  | some (none, (ds, k', n')) => q_h ds cs && decide (k' = k) && decide (n' = n)
  | _ => false
theorem q_r_eq {r : Option (Option ol_V × ol_H)} {cs : List ol_C} {k n : Nat} (h : q_r r cs k n = true) : r = some (none, (cs, k, n)) := by
  unfold q_r at h
  split at h
  · simp only [Bool.and_eq_true, decide_eq_true_eq] at h
    obtain ⟨⟨h1, rfl⟩, rfl⟩ := h
    rw [q_h_eq _ _ h1]
  · cases h
set_option maxRecDepth 100000 in
theorem ctor_L : fX4_init [.inr (.inl (some 0))] ([(4, ol_dvs tyX4 1)], 0, 0) = some (none, ([(4, [.inr (.inl (some 1))]), (100, List.replicate 780 (.inl 0))], 1, 780)) := q_r_eq (by decide +kernel)
set_option maxRecDepth 100000 in
theorem ctor_F : fX2_init [.inr (.inl (some 0))] ([(2, ol_dvs tyX2 3)], 0, 0) = some (none, ([(2, [.inr (.inl (some 1)), .inr (.inl (some 3)), .inl 0]), (4, [.inr (.inl (some 2))]), (100, List.replicate 780 (.inl 0)), (106, [.inr (.inl (some 4)), .inr (.inl (some 5)), .inr (.inl (some 6)), .inr (.inl (some 7))]), (9, List.replicate 6 (.inl 0)), (9, List.replicate 6 (.inl 0)), (9, List.replicate 6 (.inl 0)), (9, List.replicate 6 (.inl 0))], 7, 809)) := q_r_eq (by decide +kernel)
