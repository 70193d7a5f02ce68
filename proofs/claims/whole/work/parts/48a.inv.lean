/-! the invariant between class and reference, part by part; which cells each part speaks of -/
def I_tx (g : pg) : Prop := 0 ≤ g 1 2 ∧ g 1 2 ≤ 300 ∧ g 75 2 = g 1 2 ∧ ∀ i : Nat, (i : Int) < g 1 2 → 0 ≤ g 2 i ∧ g 2 i ≤ 255 ∧ ol_and (g 76 i) 255 = some (g 2 i)
abbrev D_tx (a j : Nat) : Prop := (a = 1 ∧ j = 2) ∨ a = 2 ∨ (a = 75 ∧ j = 2) ∨ a = 76
def I_ln (g : pg) : Prop := ∀ j, j < 780 → 0 ≤ g 9 j ∧ g 9 j ≤ 99 ∧ g 77 j = g 9 j
abbrev D_ln (a j : Nat) : Prop := a = 9 ∨ (a = 77 ∧ j < 780)
/-- an item: five numbers as the document bounds them; 0 drops: a strip of all boards -/
def itOk (g : pg) (a m : Nat) : Prop := 0 ≤ g a (5 * m) ∧ g a (5 * m) ≤ g a (5 * m + 1) ∧ g a (5 * m + 1) ≤ 38 ∧ 0 ≤ g a (5 * m + 2) ∧ g a (5 * m + 2) ≤ g a (5 * m + 3) ∧ g a (5 * m + 3) ≤ 19 ∧ 0 ≤ g a (5 * m + 4) ∧ g a (5 * m + 4) ≤ 30 ∧ (g a (5 * m + 4) = 0 → g a (5 * m) = 0 ∧ g a (5 * m + 1) = 38)
/-- the drops of a cell when the first m items are laid on a dry lane -/
def lay1 (b1 b2 s1 s2 n : Int) (j : Nat) (d : Int) : Int := if s1 ≤ ((j / 39 : Nat) : Int) ∧ ((j / 39 : Nat) : Int) ≤ s2 ∧ b1 ≤ ((j % 39 : Nat) : Int) ∧ ((j % 39 : Nat) : Int) ≤ b2 then (if n = 0 then 0 else if 99 < d + n then 99 else d + n) else d
def layF (it : Nat → Int) : Nat → Nat → Int
  | 0, _ => 0
  | m + 1, j => lay1 (it (5 * m)) (it (5 * m + 1)) (it (5 * m + 2)) (it (5 * m + 3)) (it (5 * m + 4)) j (layF it m j)
def I_pt (g : pg) : Prop := (∀ k, k < 4 → (g (45 + 2 * k) 2 = 0 ∨ g (45 + 2 * k) 2 = 1) ∧ (g (45 + 2 * k) 2 = 1 → 0 ≤ g (45 + 2 * k) 1 ∧ g (45 + 2 * k) 1 ≤ 12 ∧ (∀ m : Nat, (m : Int) < g (45 + 2 * k) 1 → itOk g (46 + 2 * k) m) ∧ ∀ j, j < 780 → g 77 (1560 + 780 * k + j) = layF (g (46 + 2 * k)) (g (45 + 2 * k) 1).toNat j)) ∧ g 75 4 = g 45 2 + 2 * g 47 2 + 4 * g 49 2 + 8 * g 51 2
abbrev D_pt (a j : Nat) : Prop := (45 ≤ a ∧ a ≤ 52) ∨ (a = 77 ∧ 1560 ≤ j ∧ j < 4680) ∨ (a = 75 ∧ j = 4)
def thOk (b a s l r q : Int) : Prop := 0 ≤ b ∧ b ≤ 38 ∧ -20 ≤ a ∧ a ≤ 20 ∧ -30 ≤ s ∧ s ≤ 30 ∧ 0 ≤ l ∧ l ≤ 5 ∧ 0 ≤ r ∧ r ≤ 2 ∧ (r = 2 → 0 ≤ q ∧ q ≤ 1)
/-- four throwers from cell c on stand as the reference's rows from o on -/
def thEq (g : pg) (c o : Nat) : Prop := ∀ k, k < 4 → thOk (g (c + k) 0) (g (c + k) 1) (g (c + k) 2) (g (c + k) 3) (g (c + k) 4) (g (c + k) 5) ∧ ∀ f, f < 6 → g 87 (o + 6 * k + f) = g (c + k) f
def I_th (g : pg) : Prop := 0 ≤ g 7 2 ∧ g 7 2 ≤ 4 ∧ g 75 34 = g 7 2 ∧ thEq g 11 0
abbrev D_th (a j : Nat) : Prop := (a = 7 ∧ j = 2) ∨ (11 ≤ a ∧ a ≤ 14) ∨ (a = 75 ∧ j = 34) ∨ (a = 87 ∧ j < 24)
def I_im (g : pg) : Prop := ∀ i, i < 2 → (g 24 i = 0 ∨ g 24 i = 1) ∧ g 92 i = g 24 i ∧ (g 24 i = 1 → (∀ j, j < 780 → 0 ≤ g (61 + 8 * i) j ∧ g (61 + 8 * i) j ≤ 99 ∧ g 77 (4680 + 780 * i + j) = g (61 + 8 * i) j) ∧ 0 ≤ g (59 + 8 * i) 2 ∧ g (59 + 8 * i) 2 ≤ 4 ∧ g 88 i = g (59 + 8 * i) 2 ∧ thEq g (63 + 8 * i) (48 + 24 * i))
abbrev D_im (a j : Nat) : Prop := a = 24 ∨ a = 92 ∨ a = 88 ∨ (59 ≤ a ∧ a ≤ 74) ∨ (a = 77 ∧ 4680 ≤ j ∧ j < 6240) ∨ (a = 87 ∧ 48 ≤ j ∧ j < 96)
def I_bl (g : pg) : Prop := ∀ k, k < 6 → 1 ≤ g (53 + k) 0 ∧ g (53 + k) 0 ≤ 9 ∧ 5 ≤ g (53 + k) 1 ∧ g (53 + k) 1 ≤ 16 ∧ g 78 k = g (53 + k) 0 ∧ g 79 k = g (53 + k) 1
abbrev D_bl (a _j : Nat) : Prop := (53 ≤ a ∧ a ≤ 58) ∨ a = 78 ∨ a = 79
def I_lt (g : pg) : Prop := (g 0 16 = 0 ∨ g 0 16 = 1) ∧ g 75 25 = g 0 16 ∧ (g 0 16 = 1 → (∀ f, f < 7 → g 83 f = g 25 (f + 1)) ∧ 0 ≤ g 25 7 ∧ g 25 7 ≤ 1023 ∧ 0 ≤ g 25 4 ∧ g 25 4 ≤ 9 ∧ 0 ≤ g 25 5 ∧ g 25 5 ≤ 20 ∧ 0 ≤ g 25 6 ∧ g 25 6 ≤ 20)
abbrev D_lt (a j : Nat) : Prop := (a = 0 ∧ j = 16) ∨ (a = 75 ∧ j = 25) ∨ a = 25 ∨ a = 83
def gmA (r : Nat → Int) : Nat → Nat
  | 0 => 0
  | k + 1 => gmA r k + (if r (gmA r k) = 10 then 1 else 2)
def gmOv (r : Nat → Int) (n : Nat) : Prop := gmA r 9 + 2 ≤ n ∧ ((r (gmA r 9) = 10 ∨ r (gmA r 9) + r (gmA r 9 + 1) = 10) → gmA r 9 + 3 ≤ n)
def I_gm (g : pg) : Prop := 0 ≤ g 33 1 ∧ g 33 1 ≤ 21 ∧ g 75 28 = g 33 1 ∧ (∀ i : Nat, (i : Int) < g 33 1 → 0 ≤ g 34 i ∧ g 34 i ≤ 10 ∧ g 84 i = g 34 i) ∧ ∀ m : Nat, (m : Int) < g 33 1 → ¬ gmOv (g 34) m
abbrev D_gm (a j : Nat) : Prop := (a = 33 ∧ j = 1) ∨ a = 34 ∨ (a = 75 ∧ j = 28) ∨ a = 84
def I_hd (g : pg) : Prop := (∀ j, j < 20 → 0 ≤ g 36 j ∧ g 85 j = g 36 j) ∧ ∀ h, h < 4 → g 36 (5 * h) + g 36 (5 * h + 1) + g 36 (5 * h + 2) + g 36 (5 * h + 3) + g 36 (5 * h + 4) = 10
abbrev D_hd (a _j : Nat) : Prop := a = 36 ∨ a = 85
def I_cl (g : pg) : Prop := 0 ≤ g 0 15 ∧ g 0 15 ≤ 6 ∧ g 75 38 = g 0 15 ∧ ∀ m : Nat, (m : Int) < g 0 15 → 0 ≤ g 42 (5 * m) ∧ g 42 (5 * m) ≤ 38 ∧ -20 ≤ g 42 (5 * m + 1) ∧ g 42 (5 * m + 1) ≤ 20 ∧ -30 ≤ g 42 (5 * m + 2) ∧ g 42 (5 * m + 2) ≤ 30 ∧ 0 ≤ g 42 (5 * m + 3) ∧ g 42 (5 * m + 3) ≤ 5 ∧ ∀ f, f < 5 → g 90 (5 * m + f) = g 42 (5 * m + f)
abbrev D_cl (a j : Nat) : Prop := (a = 0 ∧ j = 15) ∨ (a = 75 ∧ j = 38) ∨ a = 42 ∨ a = 90
/-- the reference's own constants: no shot is being tried between calls; the pins' rows and spots -/
def I_rf (g : pg) : Prop := g 75 19 = 0 ∧ (∀ j, j < 10 → g 80 j = g0 80 j) ∧ ∀ j, j < 10 → g 81 j = g0 81 j
abbrev D_rf (a j : Nat) : Prop := (a = 75 ∧ j = 19) ∨ a = 80 ∨ a = 81
def Inv (g : pg) (t : pt) : Prop := I_tx g ∧ I_ln g ∧ I_pt g ∧ I_th g ∧ I_im g ∧ I_bl g ∧ I_lt g ∧ I_gm g ∧ I_hd g ∧ I_cl g ∧ I_rf g ∧ t 0 = t 75
def same (D : Nat → Nat → Prop) (g g' : pg) : Prop := ∀ a j, D a j → g' a j = g a j
theorem same.rf {D : Nat → Nat → Prop} {g : pg} : same D g g := fun _ _ _ => rfl
theorem same.tr {D : Nat → Nat → Prop} {g g' g'' : pg} (h : same D g g') (h2 : same D g' g'') : same D g g'' := fun a j hd => (h2 a j hd).trans (h a j hd)
theorem same.up {D : Nat → Nat → Prop} {g g' : pg} {a j : Nat} {v : Int} (h : same D g g') (hn : ¬ D a j) : same D g (pu g' a j v) := by
  intro b i hd
  unfold pu
  rw [if_neg (fun e => hn (by obtain ⟨rfl, rfl⟩ := e; exact hd))]
  exact h b i hd
theorem I_tx.cg {g g' : pg} (h : I_tx g) (s : same D_tx g g') : I_tx g' := by
  obtain ⟨h1, h2, h3, h4⟩ := h
  have e1 := s 1 2 (by simp [D_tx])
  have e2 := s 75 2 (by simp [D_tx])
  refine ⟨by rw [e1]; exact h1, by rw [e1]; exact h2, by rw [e1, e2]; exact h3, fun i hi => ?_⟩
  rw [e1] at hi
  rw [s 2 i (by simp [D_tx]), s 76 i (by simp [D_tx])]
  exact h4 i hi
theorem I_ln.cg {g g' : pg} (h : I_ln g) (s : same D_ln g g') : I_ln g' := by
  intro j hj
  rw [s 9 j (by simp [D_ln]), s 77 j (by simp [D_ln, hj])]
  exact h j hj
theorem layF_cg {f f' : Nat → Int} {m : Nat} (h : ∀ i, i < 5 * m → f' i = f i) (j : Nat) : layF f' m j = layF f m j := by
  induction m with
  | zero => rfl
  | succ m ih =>
    simp only [layF]
    rw [ih (fun i hi => h i (by omega)), h _ (by omega), h _ (by omega), h _ (by omega), h _ (by omega), h _ (by omega)]
theorem I_pt.cg {g g' : pg} (h : I_pt g) (s : same D_pt g g') : I_pt g' := by
  obtain ⟨h1, h2⟩ := h
  have e : ∀ a j, 45 ≤ a → a ≤ 52 → g' a j = g a j := fun a j q1 q2 => s a j (Or.inl ⟨q1, q2⟩)
  refine ⟨fun k hk => ?_, ?_⟩
  · obtain ⟨q1, q2⟩ := h1 k hk
    rw [e _ _ (by omega) (by omega), e _ _ (by omega) (by omega)]
    refine ⟨q1, fun ht => ?_⟩
    obtain ⟨q3, q4, q5, q6⟩ := q2 ht
    refine ⟨q3, q4, fun m hm => ?_, fun j hj => ?_⟩
    · have := q5 m hm
      unfold itOk at this ⊢
      simp only [e (46 + 2 * k) _ (by omega) (by omega)]
      exact this
    · rw [s 77 _ (Or.inr (Or.inl ⟨rfl, by omega, by omega⟩)), q6 j hj]
      exact (layF_cg (fun i _ => e (46 + 2 * k) i (by omega) (by omega)) j).symm
  · rw [s 75 4 (Or.inr (Or.inr ⟨rfl, rfl⟩)), e 45 2 (by omega) (by omega), e 47 2 (by omega) (by omega), e 49 2 (by omega) (by omega), e 51 2 (by omega) (by omega)]
    exact h2
theorem thEq.cg {g g' : pg} {c o : Nat} (h : thEq g c o) (s1 : ∀ k f, k < 4 → g' (c + k) f = g (c + k) f) (s2 : ∀ j, j < 24 → g' 87 (o + j) = g 87 (o + j)) : thEq g' c o := by
  intro k hk
  obtain ⟨q1, q2⟩ := h k hk
  simp only [s1 k _ hk]
  refine ⟨q1, fun f hf => ?_⟩
  rw [show o + 6 * k + f = o + (6 * k + f) by omega, s2 _ (by omega), ← show o + 6 * k + f = o + (6 * k + f) by omega]
  exact q2 f hf
theorem I_th.cg {g g' : pg} (h : I_th g) (s : same D_th g g') : I_th g' := by
  obtain ⟨h1, h2, h3, h4⟩ := h
  have e1 := s 7 2 (Or.inl ⟨rfl, rfl⟩)
  have e2 := s 75 34 (Or.inr (Or.inr (Or.inl ⟨rfl, rfl⟩)))
  refine ⟨by rw [e1]; exact h1, by rw [e1]; exact h2, by rw [e1, e2]; exact h3, h4.cg (fun k f hk => s _ _ (Or.inr (Or.inl ⟨by omega, by omega⟩))) (fun j hj => s _ _ (Or.inr (Or.inr (Or.inr ⟨rfl, by omega⟩))))⟩
theorem I_im.cg {g g' : pg} (h : I_im g) (s : same D_im g g') : I_im g' := by
  intro i hi
  obtain ⟨h1, h2, h3⟩ := h i hi
  rw [s 24 i (by simp [D_im]), s 92 i (by simp [D_im])]
  refine ⟨h1, h2, fun hk => ?_⟩
  obtain ⟨q1, q2, q3, q4, q5⟩ := h3 hk
  have e1 : g' (59 + 8 * i) 2 = g (59 + 8 * i) 2 := s _ _ (by unfold D_im; omega)
  refine ⟨fun j hj => ?_, by rw [e1]; exact q2, by rw [e1]; exact q3, by rw [e1, s 88 i (by simp [D_im])]; exact q4, q5.cg (fun k f hk => s _ _ (by unfold D_im; omega)) (fun j hj => s _ _ (by unfold D_im; omega))⟩
  rw [s (61 + 8 * i) j (by unfold D_im; omega), s 77 _ (by unfold D_im; omega)]
  exact q1 j hj
theorem I_bl.cg {g g' : pg} (h : I_bl g) (s : same D_bl g g') : I_bl g' := by
  intro k hk
  simp only [s (53 + k) _ (show D_bl (53 + k) _ by unfold D_bl; omega), s 78 k (by simp [D_bl]), s 79 k (by simp [D_bl])]
  exact h k hk
theorem I_lt.cg {g g' : pg} (h : I_lt g) (s : same D_lt g g') : I_lt g' := by
  obtain ⟨h1, h2, h3⟩ := h
  have e0 := s 0 16 (by simp [D_lt])
  have e1 := s 75 25 (by simp [D_lt])
  have e2 : ∀ j, g' 25 j = g 25 j := fun j => s 25 j (by simp [D_lt])
  refine ⟨by rw [e0]; exact h1, by rw [e0, e1]; exact h2, fun hk => ?_⟩
  rw [e0] at hk
  simp only [e2]
  obtain ⟨q1, q2⟩ := h3 hk
  exact ⟨fun f hf => by rw [s 83 f (by simp [D_lt])]; exact q1 f hf, q2⟩
theorem I_gm.cg {g g' : pg} (h : I_gm g) (s : same D_gm g g') : I_gm g' := by
  obtain ⟨h1, h2, h3, h4, h5⟩ := h
  have e0 := s 33 1 (by simp [D_gm])
  have e1 := s 75 28 (by simp [D_gm])
  have e2 : g' 34 = g 34 := funext fun j => s 34 j (by simp [D_gm])
  refine ⟨by rw [e0]; exact h1, by rw [e0]; exact h2, by rw [e0, e1]; exact h3, fun i hi => ?_, fun m hm => ?_⟩
  · rw [e0] at hi
    rw [e2, s 84 i (by simp [D_gm])]
    exact h4 i hi
  · rw [e0] at hm
    rw [e2]
    exact h5 m hm
theorem I_hd.cg {g g' : pg} (h : I_hd g) (s : same D_hd g g') : I_hd g' := by
  have e1 : ∀ j, g' 36 j = g 36 j := fun j => s 36 j (by simp [D_hd])
  have e2 : ∀ j, g' 85 j = g 85 j := fun j => s 85 j (by simp [D_hd])
  unfold I_hd
  simp only [e1, e2]
  exact h
theorem I_cl.cg {g g' : pg} (h : I_cl g) (s : same D_cl g g') : I_cl g' := by
  have e1 : ∀ j, g' 42 j = g 42 j := fun j => s 42 j (by simp [D_cl])
  have e2 : ∀ j, g' 90 j = g 90 j := fun j => s 90 j (by simp [D_cl])
  have e3 := s 0 15 (by simp [D_cl])
  have e4 := s 75 38 (by simp [D_cl])
  unfold I_cl
  simp only [e1, e2, e3, e4]
  exact h
theorem I_rf.cg {g g' : pg} (h : I_rf g) (s : same D_rf g g') : I_rf g' := by
  obtain ⟨h1, h2, h3⟩ := h
  exact ⟨by rw [s 75 19 (by simp [D_rf])]; exact h1, fun j hj => by rw [s 80 j (by simp [D_rf])]; exact h2 j hj, fun j hj => by rw [s 81 j (by simp [D_rf])]; exact h3 j hj⟩
/-- everything that any part speaks of -/
abbrev D_all (a j : Nat) : Prop := D_tx a j ∨ D_ln a j ∨ D_pt a j ∨ D_th a j ∨ D_im a j ∨ D_bl a j ∨ D_lt a j ∨ D_gm a j ∨ D_hd a j ∨ D_cl a j ∨ D_rf a j
theorem same.mono {D E : Nat → Nat → Prop} {g g' : pg} (h : same E g g') (hi : ∀ a j, D a j → E a j) : same D g g' := fun a j hd => h a j (hi a j hd)
theorem Inv.cg {g g' : pg} {t : pt} (h : Inv g t) (s : same D_all g g') : Inv g' t := by
  obtain ⟨h1, h2, h3, h4, h5, h6, h7, h8, h9, h10, h11, h12⟩ := h
  exact ⟨h1.cg (s.mono fun a j q => Or.inl q), h2.cg (s.mono fun a j q => Or.inr (Or.inl q)), h3.cg (s.mono fun a j q => Or.inr (Or.inr (Or.inl q))), h4.cg (s.mono fun a j q => Or.inr (Or.inr (Or.inr (Or.inl q)))), h5.cg (s.mono fun a j q => Or.inr (Or.inr (Or.inr (Or.inr (Or.inl q))))), h6.cg (s.mono fun a j q => Or.inr (Or.inr (Or.inr (Or.inr (Or.inr (Or.inl q)))))), h7.cg (s.mono fun a j q => Or.inr (Or.inr (Or.inr (Or.inr (Or.inr (Or.inr (Or.inl q))))))), h8.cg (s.mono fun a j q => Or.inr (Or.inr (Or.inr (Or.inr (Or.inr (Or.inr (Or.inr (Or.inl q)))))))), h9.cg (s.mono fun a j q => Or.inr (Or.inr (Or.inr (Or.inr (Or.inr (Or.inr (Or.inr (Or.inr (Or.inl q))))))))), h10.cg (s.mono fun a j q => Or.inr (Or.inr (Or.inr (Or.inr (Or.inr (Or.inr (Or.inr (Or.inr (Or.inr (Or.inl q)))))))))), h11.cg (s.mono fun a j q => Or.inr (Or.inr (Or.inr (Or.inr (Or.inr (Or.inr (Or.inr (Or.inr (Or.inr (Or.inr q)))))))))), h12⟩
theorem Inv_0 : Inv g0 t0 := by
  have z : ∀ a j, a ≠ 36 → a ≠ 85 → ¬ (53 ≤ a ∧ a ≤ 58) → a ≠ 78 → a ≠ 79 → a ≠ 80 → a ≠ 81 → g0 a j = 0 := by
    intro a j h1 h2 h3 h4 h5 h6 h7
    unfold g0
    rw [if_neg (by omega), if_neg h3, if_neg h4, if_neg h5, if_neg h6, if_neg h7]
  refine ⟨?_, ?_, ?_, ?_, ?_, ?_, ?_, ?_, ?_, ?_, ?_, rfl⟩
  · refine ⟨by decide, by decide, by decide, fun i hi => ?_⟩
    rw [z 1 2 (by decide) (by decide) (by decide) (by decide) (by decide) (by decide) (by decide)] at hi
    omega
  · intro j _
    rw [z 9 j (by decide) (by decide) (by decide) (by decide) (by decide) (by decide) (by decide), z 77 j (by decide) (by decide) (by decide) (by decide) (by decide) (by decide) (by decide)]
    decide
  · refine ⟨fun k hk => ?_, by decide⟩
    rw [z (45 + 2 * k) 2 (by omega) (by omega) (by omega) (by omega) (by omega) (by omega) (by omega)]
    exact ⟨Or.inl rfl, fun h => absurd h (by decide)⟩
  · refine ⟨by decide, by decide, by decide, ?_⟩
    unfold thEq thOk
    decide
  · intro i hi
    rw [z 24 i (by decide) (by decide) (by decide) (by decide) (by decide) (by decide) (by decide), z 92 i (by decide) (by decide) (by decide) (by decide) (by decide) (by decide) (by decide)]
    exact ⟨Or.inl rfl, rfl, fun h => absurd h (by decide)⟩
  · unfold I_bl
    decide
  · exact ⟨Or.inl (by decide), by decide, fun h => absurd h (by decide)⟩
  · refine ⟨by decide, by decide, by decide, fun i hi => ?_, fun m hm => ?_⟩
    · rw [z 33 1 (by decide) (by decide) (by decide) (by decide) (by decide) (by decide) (by decide)] at hi
      omega
    · rw [z 33 1 (by decide) (by decide) (by decide) (by decide) (by decide) (by decide) (by decide)] at hm
      omega
  · unfold I_hd
    decide
  · refine ⟨by decide, by decide, by decide, fun m hm => ?_⟩
    rw [z 0 15 (by decide) (by decide) (by decide) (by decide) (by decide) (by decide) (by decide)] at hm
    omega
  · exact ⟨by decide, fun j _ => rfl, fun j _ => rfl⟩
