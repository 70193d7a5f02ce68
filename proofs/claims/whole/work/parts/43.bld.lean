/-! the heap that the constructors leave, as a function of its numbers; how reads and writes act on it -/
abbrev pg : Type := Nat → Nat → Int
abbrev pt : Type := Nat → Int64
def pu (g : pg) (a j : Nat) (v : Int) : pg := fun b i => if b = a ∧ i = j then v else g b i
def pv (t : pt) (a : Nat) (v : Int64) : pt := fun b => if b = a then v else t b
def pk : List (Nat × List (Option (Option Nat))) := [(10, [some (some 1), some (some 5), some (some 6), some (some 7), some (some 15), some (some 23), some (some 24), some (some 25), some (some 28), some (some 31), some (some 33), some (some 35), some (some 42), some (some 43), some (some 44), none, none, some none]), (7, [some (some 2), some (some 3), none, none, none, none, none]), (100, List.replicate 300 none), (5, [some (some 4), none, none]), (100, List.replicate 60 none), (103, [some (some 45), some (some 47), some (some 49), some (some 51)]), (104, [some (some 53), some (some 54), some (some 55), some (some 56), some (some 57), some (some 58)]), (2, [some (some 8), some (some 10), none]), (4, [some (some 9)]), (100, List.replicate 780 none), (106, [some (some 11), some (some 12), some (some 13), some (some 14)]), (9, List.replicate 6 none), (9, List.replicate 6 none), (9, List.replicate 6 none), (9, List.replicate 6 none), (2, [some (some 16), some (some 18), none]), (4, [some (some 17)]), (100, List.replicate 780 none), (106, [some (some 19), some (some 20), some (some 21), some (some 22)]), (9, List.replicate 6 none), (9, List.replicate 6 none), (9, List.replicate 6 none), (9, List.replicate 6 none), (105, [some (some 59), some (some 67)]), (102, List.replicate 2 none), (1, [some (some 26), none, none, none, none, none, none, none]), (6, [some (some 27), none, none]), (100, List.replicate 10 none), (1, [some (some 29), none, none, none, none, none, none, none]), (6, [some (some 30), none, none]), (100, List.replicate 10 none), (6, [some (some 32), none, none]), (100, List.replicate 10 none), (3, [some (some 34), none, none, none, none, none]), (100, List.replicate 21 none), (8, [some (some 36), some (some 37), some (some 40), some (some 41), none, none, none, none]), (100, List.replicate 20 none), (1, [some (some 38), none, none, none, none, none, none, none]), (6, [some (some 39), none, none]), (100, List.replicate 10 none), (100, List.replicate 507 none), (100, List.replicate 24 none), (100, List.replicate 30 none), (100, List.replicate 4 none), (100, List.replicate 4 none), (5, [some (some 46), none, none]), (100, List.replicate 60 none), (5, [some (some 48), none, none]), (100, List.replicate 60 none), (5, [some (some 50), none, none]), (100, List.replicate 60 none), (5, [some (some 52), none, none]), (100, List.replicate 60 none), (0, List.replicate 2 none), (0, List.replicate 2 none), (0, List.replicate 2 none), (0, List.replicate 2 none), (0, List.replicate 2 none), (0, List.replicate 2 none), (2, [some (some 60), some (some 62), none]), (4, [some (some 61)]), (100, List.replicate 780 none), (106, [some (some 63), some (some 64), some (some 65), some (some 66)]), (9, List.replicate 6 none), (9, List.replicate 6 none), (9, List.replicate 6 none), (9, List.replicate 6 none), (2, [some (some 68), some (some 70), none]), (4, [some (some 69)]), (100, List.replicate 780 none), (106, [some (some 71), some (some 72), some (some 73), some (some 74)]), (9, List.replicate 6 none), (9, List.replicate 6 none), (9, List.replicate 6 none), (9, List.replicate 6 none), (11, [some none, some (some 76), none, some (some 77), none, none, none, none, none, none, some (some 78), some (some 79), none, none, none, none, none, none, none, none, some (some 80), some (some 81), some (some 82), none, none, none, some (some 83), some (some 84), none, none, none, none, some (some 85), some (some 86), none, some (some 87), some (some 88), some (some 89), none, some (some 90), some (some 91), some (some 92)]), (101, List.replicate 300 none), (100, List.replicate 7020 none), (100, List.replicate 6 none), (100, List.replicate 6 none), (100, List.replicate 10 none), (100, List.replicate 10 none), (100, List.replicate 10 none), (100, List.replicate 7 none), (100, List.replicate 24 none), (100, List.replicate 20 none), (100, List.replicate 39 none), (100, List.replicate 96 none), (100, List.replicate 2 none), (100, List.replicate 4 none), (100, List.replicate 30 none), (100, List.replicate 24 none), (102, List.replicate 2 none)]
def ps1 (g : pg) (t : pt) (a j : Nat) : Option (Option Nat) → ol_V
  | none => .inl (g a j)
  | some none => .inr (.inr (t a))
  | some (some r) => .inr (.inl (some r))
def pm {α β : Type} (f : Nat → α → β) : Nat → List α → List β
  | _, [] => []
  | i, x :: l => f i x :: pm f (i + 1) l
theorem pm_get {α β : Type} (f : Nat → α → β) : ∀ (l : List α) (i j : Nat), (pm f i l)[j]? = (l[j]?).map (f (i + j)) := by
  intro l
  induction l with
  | nil => intro i j; simp [pm]
  | cons x l ih =>
    intro i j
    cases j with
    | zero => simp [pm]
    | succ j =>
      simp only [pm, List.getElem?_cons_succ, ih]
      rw [show i + 1 + j = i + (j + 1) by omega]
theorem pm_get0 {α β : Type} (f : Nat → α → β) (l : List α) (j : Nat) : (pm f 0 l)[j]? = (l[j]?).map (f j) := by
  rw [pm_get, Nat.zero_add]
theorem pm_len {α β : Type} (f : Nat → α → β) : ∀ (l : List α) (i : Nat), (pm f i l).length = l.length := by
  intro l
  induction l with
  | nil => intro i; rfl
  | cons x l ih => intro i; simp [pm, ih]
def pc1 (g : pg) (t : pt) (a : Nat) (c : Nat × List (Option (Option Nat))) : ol_C := (c.1, pm (ps1 g t a) 0 c.2)
def pb (g : pg) (t : pt) : List ol_C := pm (pc1 g t) 0 pk
theorem pb_get {g : pg} {t : pt} {a : Nat} {c : Nat × List (Option (Option Nat))} (h : pk[a]? = some c) : (pb g t)[a]? = some (pc1 g t a c) := by
  unfold pb
  rw [pm_get0, h]
  rfl
theorem pb_set {g g' : pg} {t t' : pt} {a : Nat} {c : Nat × List (Option (Option Nat))} (h : pk[a]? = some c) (hne : ∀ b, b ≠ a → (∀ j, g' b j = g b j) ∧ t' b = t b) : (pb g t).set a (pc1 g' t' a c) = pb g' t' := by
  apply List.ext_getElem?
  intro i
  unfold pb
  rw [List.getElem?_set, pm_get0, pm_get0, pm_len]
  by_cases hi : a = i
  · subst hi
    have hl := (List.getElem?_eq_some_iff.mp h).1
    rw [if_pos rfl, if_pos hl, h]
    rfl
  · simp only [hi, if_false]
    cases hc : pk[i]? with
    | none => rfl
    | some d =>
      simp only [Option.map_some, pc1, Option.some.injEq, Prod.mk.injEq, true_and]
      apply List.ext_getElem?
      intro j
      rw [pm_get0, pm_get0]
      cases d.2[j]? with
      | none => rfl
      | some k =>
        obtain ⟨h1, h2⟩ := hne i (fun e => hi e.symm)
        rcases k with _ | _ | r
        · simp [ps1, h1]
        · simp [ps1, h2]
        · rfl
theorem pb_fld {g : pg} {t : pt} {n : Nat × Nat} {ci a j : Nat} {ks : List (Option (Option Nat))} {k : Option (Option Nat)} (h : pk[a]? = some (ci, ks)) (hj : ks[j]? = some k) : ol_fld (pb g t, n) ci a j = some (ps1 g t a j k) := by
  simp only [ol_fld, pb_get h, Option.bind_some, pc1, if_true, pm_get0, hj, Option.map_some]
theorem pb_arr {g : pg} {t : pt} {n : Nat × Nat} {ci a : Nat} {i : Int} {ks : List (Option (Option Nat))} {k : Option (Option Nat)} (h : pk[a]? = some (ci, ks)) (h0 : 0 ≤ i) (hj : ks[i.toNat]? = some k) : ol_arr (pb g t, n) ci a i = some (ps1 g t a i.toNat k) := by
  simp only [ol_arr, pb_get h, Option.bind_some, pc1, h0, and_self, if_true, pm_get0, hj, Option.map_some]
theorem pc1_set {g : pg} {t : pt} {a j : Nat} {c : Nat × List (Option (Option Nat))} (hj : c.2[j]? = some none) (v : Int) : (c.1, (pm (ps1 g t a) 0 c.2).set j (.inl v)) = pc1 (pu g a j v) t a c := by
  simp only [pc1, Prod.mk.injEq, true_and]
  apply List.ext_getElem?
  intro i
  rw [List.getElem?_set, pm_get0, pm_get0, pm_len]
  have hl := (List.getElem?_eq_some_iff.mp hj).1
  by_cases hi : j = i
  · subst hi
    rw [if_pos rfl, if_pos hl, hj]
    simp [ps1, pu]
  · have hi2 : ¬ i = j := fun e => hi e.symm
    simp only [hi, if_false]
    cases c.2[i]? with
    | none => rfl
    | some k =>
      rcases k with _ | _ | r
      · simp [ps1, pu, hi2]
      · rfl
      · rfl
theorem pu_ne {g : pg} {a j : Nat} {v : Int} {t : pt} : ∀ b, b ≠ a → (∀ i, pu g a j v b i = g b i) ∧ t b = t b := fun b hb => ⟨fun i => by simp [pu, hb], rfl⟩
theorem pb_put {g : pg} {t : pt} {n : Nat × Nat} {ci a j : Nat} {ks : List (Option (Option Nat))} (h : pk[a]? = some (ci, ks)) (hj : ks[j]? = some none) (v : Int) : ol_put (pb g t, n) ci a j (.inl v) = some (pb (pu g a j v) t, n) := by
  have hl := (List.getElem?_eq_some_iff.mp hj).1
  have e1 := pc1_set (g := g) (t := t) (a := a) (c := (ci, ks)) hj v
  have e2 := pb_set (g := g) (g' := pu g a j v) (t := t) (t' := t) h pu_ne
  simp only [ol_put, pb_get h, Option.bind_some, pc1, pm_len, hl, and_self, if_true, Option.some.injEq, Prod.mk.injEq, and_true]
  rw [show ((ci, (pm (ps1 g t a) 0 ks).set j (Sum.inl v)) : ol_C) = pc1 (pu g a j v) t a (ci, ks) from e1]
  exact e2
theorem pb_ast {g : pg} {t : pt} {n : Nat × Nat} {ci a : Nat} {i : Int} {ks : List (Option (Option Nat))} (h : pk[a]? = some (ci, ks)) (h0 : 0 ≤ i) (hj : ks[i.toNat]? = some none) (v : Int) : ol_ast (pb g t, n) ci a i (.inl v) = some (pb (pu g a i.toNat v) t, n) := by
  have hl := (List.getElem?_eq_some_iff.mp hj).1
  have e1 := pc1_set (g := g) (t := t) (a := a) (c := (ci, ks)) hj v
  have e2 := pb_set (g := g) (g' := pu g a i.toNat v) (t := t) (t' := t) h pu_ne
  simp only [ol_ast, pb_get h, Option.bind_some, pc1, pm_len, hl, h0, and_self, if_true, Option.some.injEq, Prod.mk.injEq, and_true]
  rw [show ((ci, (pm (ps1 g t a) 0 ks).set i.toNat (Sum.inl v)) : ol_C) = pc1 (pu g a i.toNat v) t a (ci, ks) from e1]
  exact e2
theorem pb_isC {g : pg} {t : pt} {n : Nat × Nat} {ci a : Nat} {ks : List (Option (Option Nat))} (h : pk[a]? = some (ci, ks)) : ol_isC (pb g t, n) a ci = true := by
  simp [ol_isC, pb_get h, pc1]
theorem pb_rep {m : Nat} {i : Int} (h0 : 0 ≤ i) (hi : i < (m : Int)) : (List.replicate m (none : Option (Option Nat)))[i.toNat]? = some none := by
  rw [List.getElem?_replicate, if_pos (by omega)]
theorem ol_int_l (n : Int) : ol_int (some (.inl n)) = some n := rfl
theorem ol_ref_r (a : Nat) : ol_ref (some (.inr (.inl (some a)))) = some a := rfl
theorem ol_lng_j (j : Int64) : ol_lng (some (.inr (.inr j))) = some j := rfl
def isDel (a : Nat) : Prop := a = 25 ∨ a = 28 ∨ a = 37
theorem pk_Del {a : Nat} (h : isDel a) : pk[a]? = some (1, [some (some (a + 1)), none, none, none, none, none, none, none]) := by
  unfold isDel at h
  rcases h with rfl | rfl | rfl <;> rfl
theorem fDel0 {g : pg} {t : pt} {n : Nat × Nat} {a : Nat} (h : isDel a) : ol_fld (pb g t, n) 1 a 0 = some (.inr (.inl (some (a + 1)))) := pb_fld (k := some (some (a + 1))) (pk_Del h) rfl
theorem fDel1 {g : pg} {t : pt} {n : Nat × Nat} {a : Nat} (h : isDel a) : ol_fld (pb g t, n) 1 a 1 = some (.inl (g a 1)) := pb_fld (k := none) (pk_Del h) rfl
theorem pDel1 {g : pg} {t : pt} {n : Nat × Nat} {a : Nat} (h : isDel a) (v : Int) : ol_put (pb g t, n) 1 a 1 (.inl v) = some (pb (pu g a 1 v) t, n) := pb_put (pk_Del h) rfl v
theorem fDel2 {g : pg} {t : pt} {n : Nat × Nat} {a : Nat} (h : isDel a) : ol_fld (pb g t, n) 1 a 2 = some (.inl (g a 2)) := pb_fld (k := none) (pk_Del h) rfl
theorem pDel2 {g : pg} {t : pt} {n : Nat × Nat} {a : Nat} (h : isDel a) (v : Int) : ol_put (pb g t, n) 1 a 2 (.inl v) = some (pb (pu g a 2 v) t, n) := pb_put (pk_Del h) rfl v
theorem fDel3 {g : pg} {t : pt} {n : Nat × Nat} {a : Nat} (h : isDel a) : ol_fld (pb g t, n) 1 a 3 = some (.inl (g a 3)) := pb_fld (k := none) (pk_Del h) rfl
theorem pDel3 {g : pg} {t : pt} {n : Nat × Nat} {a : Nat} (h : isDel a) (v : Int) : ol_put (pb g t, n) 1 a 3 (.inl v) = some (pb (pu g a 3 v) t, n) := pb_put (pk_Del h) rfl v
theorem fDel4 {g : pg} {t : pt} {n : Nat × Nat} {a : Nat} (h : isDel a) : ol_fld (pb g t, n) 1 a 4 = some (.inl (g a 4)) := pb_fld (k := none) (pk_Del h) rfl
theorem pDel4 {g : pg} {t : pt} {n : Nat × Nat} {a : Nat} (h : isDel a) (v : Int) : ol_put (pb g t, n) 1 a 4 (.inl v) = some (pb (pu g a 4 v) t, n) := pb_put (pk_Del h) rfl v
theorem fDel5 {g : pg} {t : pt} {n : Nat × Nat} {a : Nat} (h : isDel a) : ol_fld (pb g t, n) 1 a 5 = some (.inl (g a 5)) := pb_fld (k := none) (pk_Del h) rfl
theorem pDel5 {g : pg} {t : pt} {n : Nat × Nat} {a : Nat} (h : isDel a) (v : Int) : ol_put (pb g t, n) 1 a 5 (.inl v) = some (pb (pu g a 5 v) t, n) := pb_put (pk_Del h) rfl v
theorem fDel6 {g : pg} {t : pt} {n : Nat × Nat} {a : Nat} (h : isDel a) : ol_fld (pb g t, n) 1 a 6 = some (.inl (g a 6)) := pb_fld (k := none) (pk_Del h) rfl
theorem pDel6 {g : pg} {t : pt} {n : Nat × Nat} {a : Nat} (h : isDel a) (v : Int) : ol_put (pb g t, n) 1 a 6 (.inl v) = some (pb (pu g a 6 v) t, n) := pb_put (pk_Del h) rfl v
theorem fDel7 {g : pg} {t : pt} {n : Nat × Nat} {a : Nat} (h : isDel a) : ol_fld (pb g t, n) 1 a 7 = some (.inl (g a 7)) := pb_fld (k := none) (pk_Del h) rfl
theorem pDel7 {g : pg} {t : pt} {n : Nat × Nat} {a : Nat} (h : isDel a) (v : Int) : ol_put (pb g t, n) 1 a 7 (.inl v) = some (pb (pu g a 7 v) t, n) := pb_put (pk_Del h) rfl v
theorem cDel {g : pg} {t : pt} {n : Nat × Nat} {a : Nat} (h : isDel a) : ol_isC (pb g t, n) a 1 = true := pb_isC (pk_Del h)
def isRak (a : Nat) : Prop := a = 26 ∨ a = 29 ∨ a = 31 ∨ a = 38
theorem pk_Rak {a : Nat} (h : isRak a) : pk[a]? = some (6, [some (some (a + 1)), none, none]) := by
  unfold isRak at h
  rcases h with rfl | rfl | rfl | rfl <;> rfl
theorem fRak0 {g : pg} {t : pt} {n : Nat × Nat} {a : Nat} (h : isRak a) : ol_fld (pb g t, n) 6 a 0 = some (.inr (.inl (some (a + 1)))) := pb_fld (k := some (some (a + 1))) (pk_Rak h) rfl
theorem fRak1 {g : pg} {t : pt} {n : Nat × Nat} {a : Nat} (h : isRak a) : ol_fld (pb g t, n) 6 a 1 = some (.inl (g a 1)) := pb_fld (k := none) (pk_Rak h) rfl
theorem pRak1 {g : pg} {t : pt} {n : Nat × Nat} {a : Nat} (h : isRak a) (v : Int) : ol_put (pb g t, n) 6 a 1 (.inl v) = some (pb (pu g a 1 v) t, n) := pb_put (pk_Rak h) rfl v
theorem fRak2 {g : pg} {t : pt} {n : Nat × Nat} {a : Nat} (h : isRak a) : ol_fld (pb g t, n) 6 a 2 = some (.inl (g a 2)) := pb_fld (k := none) (pk_Rak h) rfl
theorem pRak2 {g : pg} {t : pt} {n : Nat × Nat} {a : Nat} (h : isRak a) (v : Int) : ol_put (pb g t, n) 6 a 2 (.inl v) = some (pb (pu g a 2 v) t, n) := pb_put (pk_Rak h) rfl v
theorem cRak {g : pg} {t : pt} {n : Nat × Nat} {a : Nat} (h : isRak a) : ol_isC (pb g t, n) a 6 = true := pb_isC (pk_Rak h)
def isLan (a : Nat) : Prop := a = 8 ∨ a = 16 ∨ a = 60 ∨ a = 68
theorem pk_Lan {a : Nat} (h : isLan a) : pk[a]? = some (4, [some (some (a + 1))]) := by
  unfold isLan at h
  rcases h with rfl | rfl | rfl | rfl <;> rfl
theorem fLan0 {g : pg} {t : pt} {n : Nat × Nat} {a : Nat} (h : isLan a) : ol_fld (pb g t, n) 4 a 0 = some (.inr (.inl (some (a + 1)))) := pb_fld (k := some (some (a + 1))) (pk_Lan h) rfl
theorem cLan {g : pg} {t : pt} {n : Nat × Nat} {a : Nat} (h : isLan a) : ol_isC (pb g t, n) a 4 = true := pb_isC (pk_Lan h)
def isFlo (a : Nat) : Prop := a = 7 ∨ a = 15 ∨ a = 59 ∨ a = 67
theorem pk_Flo {a : Nat} (h : isFlo a) : pk[a]? = some (2, [some (some (a + 1)), some (some (a + 3)), none]) := by
  unfold isFlo at h
  rcases h with rfl | rfl | rfl | rfl <;> rfl
theorem fFlo0 {g : pg} {t : pt} {n : Nat × Nat} {a : Nat} (h : isFlo a) : ol_fld (pb g t, n) 2 a 0 = some (.inr (.inl (some (a + 1)))) := pb_fld (k := some (some (a + 1))) (pk_Flo h) rfl
theorem fFlo1 {g : pg} {t : pt} {n : Nat × Nat} {a : Nat} (h : isFlo a) : ol_fld (pb g t, n) 2 a 1 = some (.inr (.inl (some (a + 3)))) := pb_fld (k := some (some (a + 3))) (pk_Flo h) rfl
theorem fFlo2 {g : pg} {t : pt} {n : Nat × Nat} {a : Nat} (h : isFlo a) : ol_fld (pb g t, n) 2 a 2 = some (.inl (g a 2)) := pb_fld (k := none) (pk_Flo h) rfl
theorem pFlo2 {g : pg} {t : pt} {n : Nat × Nat} {a : Nat} (h : isFlo a) (v : Int) : ol_put (pb g t, n) 2 a 2 (.inl v) = some (pb (pu g a 2 v) t, n) := pb_put (pk_Flo h) rfl v
theorem cFlo {g : pg} {t : pt} {n : Nat × Nat} {a : Nat} (h : isFlo a) : ol_isC (pb g t, n) a 2 = true := pb_isC (pk_Flo h)
def isThr (a : Nat) : Prop := a = 11 ∨ a = 12 ∨ a = 13 ∨ a = 14 ∨ a = 19 ∨ a = 20 ∨ a = 21 ∨ a = 22 ∨ a = 63 ∨ a = 64 ∨ a = 65 ∨ a = 66 ∨ a = 71 ∨ a = 72 ∨ a = 73 ∨ a = 74
theorem pk_Thr {a : Nat} (h : isThr a) : pk[a]? = some (9, [none, none, none, none, none, none]) := by
  unfold isThr at h
  rcases h with rfl | rfl | rfl | rfl | rfl | rfl | rfl | rfl | rfl | rfl | rfl | rfl | rfl | rfl | rfl | rfl <;> rfl
theorem fThr0 {g : pg} {t : pt} {n : Nat × Nat} {a : Nat} (h : isThr a) : ol_fld (pb g t, n) 9 a 0 = some (.inl (g a 0)) := pb_fld (k := none) (pk_Thr h) rfl
theorem pThr0 {g : pg} {t : pt} {n : Nat × Nat} {a : Nat} (h : isThr a) (v : Int) : ol_put (pb g t, n) 9 a 0 (.inl v) = some (pb (pu g a 0 v) t, n) := pb_put (pk_Thr h) rfl v
theorem fThr1 {g : pg} {t : pt} {n : Nat × Nat} {a : Nat} (h : isThr a) : ol_fld (pb g t, n) 9 a 1 = some (.inl (g a 1)) := pb_fld (k := none) (pk_Thr h) rfl
theorem pThr1 {g : pg} {t : pt} {n : Nat × Nat} {a : Nat} (h : isThr a) (v : Int) : ol_put (pb g t, n) 9 a 1 (.inl v) = some (pb (pu g a 1 v) t, n) := pb_put (pk_Thr h) rfl v
theorem fThr2 {g : pg} {t : pt} {n : Nat × Nat} {a : Nat} (h : isThr a) : ol_fld (pb g t, n) 9 a 2 = some (.inl (g a 2)) := pb_fld (k := none) (pk_Thr h) rfl
theorem pThr2 {g : pg} {t : pt} {n : Nat × Nat} {a : Nat} (h : isThr a) (v : Int) : ol_put (pb g t, n) 9 a 2 (.inl v) = some (pb (pu g a 2 v) t, n) := pb_put (pk_Thr h) rfl v
theorem fThr3 {g : pg} {t : pt} {n : Nat × Nat} {a : Nat} (h : isThr a) : ol_fld (pb g t, n) 9 a 3 = some (.inl (g a 3)) := pb_fld (k := none) (pk_Thr h) rfl
theorem pThr3 {g : pg} {t : pt} {n : Nat × Nat} {a : Nat} (h : isThr a) (v : Int) : ol_put (pb g t, n) 9 a 3 (.inl v) = some (pb (pu g a 3 v) t, n) := pb_put (pk_Thr h) rfl v
theorem fThr4 {g : pg} {t : pt} {n : Nat × Nat} {a : Nat} (h : isThr a) : ol_fld (pb g t, n) 9 a 4 = some (.inl (g a 4)) := pb_fld (k := none) (pk_Thr h) rfl
theorem pThr4 {g : pg} {t : pt} {n : Nat × Nat} {a : Nat} (h : isThr a) (v : Int) : ol_put (pb g t, n) 9 a 4 (.inl v) = some (pb (pu g a 4 v) t, n) := pb_put (pk_Thr h) rfl v
theorem fThr5 {g : pg} {t : pt} {n : Nat × Nat} {a : Nat} (h : isThr a) : ol_fld (pb g t, n) 9 a 5 = some (.inl (g a 5)) := pb_fld (k := none) (pk_Thr h) rfl
theorem pThr5 {g : pg} {t : pt} {n : Nat × Nat} {a : Nat} (h : isThr a) (v : Int) : ol_put (pb g t, n) 9 a 5 (.inl v) = some (pb (pu g a 5 v) t, n) := pb_put (pk_Thr h) rfl v
theorem cThr {g : pg} {t : pt} {n : Nat × Nat} {a : Nat} (h : isThr a) : ol_isC (pb g t, n) a 9 = true := pb_isC (pk_Thr h)
def isPat (a : Nat) : Prop := a = 3 ∨ a = 45 ∨ a = 47 ∨ a = 49 ∨ a = 51
theorem pk_Pat {a : Nat} (h : isPat a) : pk[a]? = some (5, [some (some (a + 1)), none, none]) := by
  unfold isPat at h
  rcases h with rfl | rfl | rfl | rfl | rfl <;> rfl
theorem fPat0 {g : pg} {t : pt} {n : Nat × Nat} {a : Nat} (h : isPat a) : ol_fld (pb g t, n) 5 a 0 = some (.inr (.inl (some (a + 1)))) := pb_fld (k := some (some (a + 1))) (pk_Pat h) rfl
theorem fPat1 {g : pg} {t : pt} {n : Nat × Nat} {a : Nat} (h : isPat a) : ol_fld (pb g t, n) 5 a 1 = some (.inl (g a 1)) := pb_fld (k := none) (pk_Pat h) rfl
theorem pPat1 {g : pg} {t : pt} {n : Nat × Nat} {a : Nat} (h : isPat a) (v : Int) : ol_put (pb g t, n) 5 a 1 (.inl v) = some (pb (pu g a 1 v) t, n) := pb_put (pk_Pat h) rfl v
theorem fPat2 {g : pg} {t : pt} {n : Nat × Nat} {a : Nat} (h : isPat a) : ol_fld (pb g t, n) 5 a 2 = some (.inl (g a 2)) := pb_fld (k := none) (pk_Pat h) rfl
theorem pPat2 {g : pg} {t : pt} {n : Nat × Nat} {a : Nat} (h : isPat a) (v : Int) : ol_put (pb g t, n) 5 a 2 (.inl v) = some (pb (pu g a 2 v) t, n) := pb_put (pk_Pat h) rfl v
theorem cPat {g : pg} {t : pt} {n : Nat × Nat} {a : Nat} (h : isPat a) : ol_isC (pb g t, n) a 5 = true := pb_isC (pk_Pat h)
def isBal (a : Nat) : Prop := a = 53 ∨ a = 54 ∨ a = 55 ∨ a = 56 ∨ a = 57 ∨ a = 58
theorem pk_Bal {a : Nat} (h : isBal a) : pk[a]? = some (0, [none, none]) := by
  unfold isBal at h
  rcases h with rfl | rfl | rfl | rfl | rfl | rfl <;> rfl
theorem fBal0 {g : pg} {t : pt} {n : Nat × Nat} {a : Nat} (h : isBal a) : ol_fld (pb g t, n) 0 a 0 = some (.inl (g a 0)) := pb_fld (k := none) (pk_Bal h) rfl
theorem pBal0 {g : pg} {t : pt} {n : Nat × Nat} {a : Nat} (h : isBal a) (v : Int) : ol_put (pb g t, n) 0 a 0 (.inl v) = some (pb (pu g a 0 v) t, n) := pb_put (pk_Bal h) rfl v
theorem fBal1 {g : pg} {t : pt} {n : Nat × Nat} {a : Nat} (h : isBal a) : ol_fld (pb g t, n) 0 a 1 = some (.inl (g a 1)) := pb_fld (k := none) (pk_Bal h) rfl
theorem pBal1 {g : pg} {t : pt} {n : Nat × Nat} {a : Nat} (h : isBal a) (v : Int) : ol_put (pb g t, n) 0 a 1 (.inl v) = some (pb (pu g a 1 v) t, n) := pb_put (pk_Bal h) rfl v
theorem cBal {g : pg} {t : pt} {n : Nat × Nat} {a : Nat} (h : isBal a) : ol_isC (pb g t, n) a 0 = true := pb_isC (pk_Bal h)
theorem pk_RakA {a : Nat} (h : isRak a) : pk[a + 1]? = some (100, List.replicate 10 none) := by
  unfold isRak at h
  rcases h with rfl | rfl | rfl | rfl <;> rfl
theorem aRak {g : pg} {t : pt} {n : Nat × Nat} {a : Nat} {i : Int} (h : isRak a) (h0 : 0 ≤ i) (h1 : i < 10) : ol_arr (pb g t, n) 100 (a + 1) i = some (.inl (g (a + 1) i.toNat)) := pb_arr (k := none) (pk_RakA h) h0 (pb_rep h0 h1)
theorem sRak {g : pg} {t : pt} {n : Nat × Nat} {a : Nat} {i : Int} (h : isRak a) (h0 : 0 ≤ i) (h1 : i < 10) (v : Int) : ol_ast (pb g t, n) 100 (a + 1) i (.inl v) = some (pb (pu g (a + 1) i.toNat v) t, n) := pb_ast (pk_RakA h) h0 (pb_rep h0 h1) v
theorem pk_LanA {a : Nat} (h : isLan a) : pk[a + 1]? = some (100, List.replicate 780 none) := by
  unfold isLan at h
  rcases h with rfl | rfl | rfl | rfl <;> rfl
theorem aLan {g : pg} {t : pt} {n : Nat × Nat} {a : Nat} {i : Int} (h : isLan a) (h0 : 0 ≤ i) (h1 : i < 780) : ol_arr (pb g t, n) 100 (a + 1) i = some (.inl (g (a + 1) i.toNat)) := pb_arr (k := none) (pk_LanA h) h0 (pb_rep h0 h1)
theorem sLan {g : pg} {t : pt} {n : Nat × Nat} {a : Nat} {i : Int} (h : isLan a) (h0 : 0 ≤ i) (h1 : i < 780) (v : Int) : ol_ast (pb g t, n) 100 (a + 1) i (.inl v) = some (pb (pu g (a + 1) i.toNat v) t, n) := pb_ast (pk_LanA h) h0 (pb_rep h0 h1) v
theorem pk_PatA {a : Nat} (h : isPat a) : pk[a + 1]? = some (100, List.replicate 60 none) := by
  unfold isPat at h
  rcases h with rfl | rfl | rfl | rfl | rfl <;> rfl
theorem aPat {g : pg} {t : pt} {n : Nat × Nat} {a : Nat} {i : Int} (h : isPat a) (h0 : 0 ≤ i) (h1 : i < 60) : ol_arr (pb g t, n) 100 (a + 1) i = some (.inl (g (a + 1) i.toNat)) := pb_arr (k := none) (pk_PatA h) h0 (pb_rep h0 h1)
theorem sPat {g : pg} {t : pt} {n : Nat × Nat} {a : Nat} {i : Int} (h : isPat a) (h0 : 0 ≤ i) (h1 : i < 60) (v : Int) : ol_ast (pb g t, n) 100 (a + 1) i (.inl v) = some (pb (pu g (a + 1) i.toNat v) t, n) := pb_ast (pk_PatA h) h0 (pb_rep h0 h1) v
theorem pk_FloA {a : Nat} (h : isFlo a) : pk[a + 3]? = some (106, [some (some (a + 4)), some (some (a + 5)), some (some (a + 6)), some (some (a + 7))]) := by
  unfold isFlo at h
  rcases h with rfl | rfl | rfl | rfl <;> rfl
theorem aFlo {g : pg} {t : pt} {n : Nat × Nat} {a : Nat} {i : Int} (h : isFlo a) (h0 : 0 ≤ i) (h1 : i < 4) : ol_arr (pb g t, n) 106 (a + 3) i = some (.inr (.inl (some (a + 4 + i.toNat)))) := by
  rcases (show i = 0 ∨ i = 1 ∨ i = 2 ∨ i = 3 by omega) with rfl | rfl | rfl | rfl 
  · exact pb_arr (k := some (some (a + 4))) (pk_FloA h) (by decide) rfl
  · exact pb_arr (k := some (some (a + 5))) (pk_FloA h) (by decide) rfl
  · exact pb_arr (k := some (some (a + 6))) (pk_FloA h) (by decide) rfl
  · exact pb_arr (k := some (some (a + 7))) (pk_FloA h) (by decide) rfl
theorem aPts {g : pg} {t : pt} {n : Nat × Nat} {i : Int} (h0 : 0 ≤ i) (h1 : i < 4) : ol_arr (pb g t, n) 103 5 i = some (.inr (.inl (some (45 + 2 * i.toNat)))) := by
  rcases (show i = 0 ∨ i = 1 ∨ i = 2 ∨ i = 3 by omega) with rfl | rfl | rfl | rfl
  · exact pb_arr (k := some (some 45)) (a := 5) (ci := 103) rfl (by decide) rfl
  · exact pb_arr (k := some (some 47)) (a := 5) (ci := 103) rfl (by decide) rfl
  · exact pb_arr (k := some (some 49)) (a := 5) (ci := 103) rfl (by decide) rfl
  · exact pb_arr (k := some (some 51)) (a := 5) (ci := 103) rfl (by decide) rfl
theorem aBls {g : pg} {t : pt} {n : Nat × Nat} {i : Int} (h0 : 0 ≤ i) (h1 : i < 6) : ol_arr (pb g t, n) 104 6 i = some (.inr (.inl (some (53 +  i.toNat)))) := by
  rcases (show i = 0 ∨ i = 1 ∨ i = 2 ∨ i = 3 ∨ i = 4 ∨ i = 5 by omega) with rfl | rfl | rfl | rfl | rfl | rfl
  · exact pb_arr (k := some (some 53)) (a := 6) (ci := 104) rfl (by decide) rfl
  · exact pb_arr (k := some (some 54)) (a := 6) (ci := 104) rfl (by decide) rfl
  · exact pb_arr (k := some (some 55)) (a := 6) (ci := 104) rfl (by decide) rfl
  · exact pb_arr (k := some (some 56)) (a := 6) (ci := 104) rfl (by decide) rfl
  · exact pb_arr (k := some (some 57)) (a := 6) (ci := 104) rfl (by decide) rfl
  · exact pb_arr (k := some (some 58)) (a := 6) (ci := 104) rfl (by decide) rfl
theorem aIms {g : pg} {t : pt} {n : Nat × Nat} {i : Int} (h0 : 0 ≤ i) (h1 : i < 2) : ol_arr (pb g t, n) 105 23 i = some (.inr (.inl (some (59 + 8 * i.toNat)))) := by
  rcases (show i = 0 ∨ i = 1 by omega) with rfl | rfl
  · exact pb_arr (k := some (some 59)) (a := 23) (ci := 105) rfl (by decide) rfl
  · exact pb_arr (k := some (some 67)) (a := 23) (ci := 105) rfl (by decide) rfl
theorem f0_0 {g : pg} {t : pt} {n : Nat × Nat} : ol_fld (pb g t, n) 10 0 0 = some (.inr (.inl (some 1))) := pb_fld (k := some (some 1)) (a := 0) (ci := 10) rfl rfl
theorem f0_1 {g : pg} {t : pt} {n : Nat × Nat} : ol_fld (pb g t, n) 10 0 1 = some (.inr (.inl (some 5))) := pb_fld (k := some (some 5)) (a := 0) (ci := 10) rfl rfl
theorem f0_2 {g : pg} {t : pt} {n : Nat × Nat} : ol_fld (pb g t, n) 10 0 2 = some (.inr (.inl (some 6))) := pb_fld (k := some (some 6)) (a := 0) (ci := 10) rfl rfl
theorem f0_3 {g : pg} {t : pt} {n : Nat × Nat} : ol_fld (pb g t, n) 10 0 3 = some (.inr (.inl (some 7))) := pb_fld (k := some (some 7)) (a := 0) (ci := 10) rfl rfl
theorem f0_4 {g : pg} {t : pt} {n : Nat × Nat} : ol_fld (pb g t, n) 10 0 4 = some (.inr (.inl (some 15))) := pb_fld (k := some (some 15)) (a := 0) (ci := 10) rfl rfl
theorem f0_5 {g : pg} {t : pt} {n : Nat × Nat} : ol_fld (pb g t, n) 10 0 5 = some (.inr (.inl (some 23))) := pb_fld (k := some (some 23)) (a := 0) (ci := 10) rfl rfl
theorem f0_6 {g : pg} {t : pt} {n : Nat × Nat} : ol_fld (pb g t, n) 10 0 6 = some (.inr (.inl (some 24))) := pb_fld (k := some (some 24)) (a := 0) (ci := 10) rfl rfl
theorem f0_7 {g : pg} {t : pt} {n : Nat × Nat} : ol_fld (pb g t, n) 10 0 7 = some (.inr (.inl (some 25))) := pb_fld (k := some (some 25)) (a := 0) (ci := 10) rfl rfl
theorem f0_8 {g : pg} {t : pt} {n : Nat × Nat} : ol_fld (pb g t, n) 10 0 8 = some (.inr (.inl (some 28))) := pb_fld (k := some (some 28)) (a := 0) (ci := 10) rfl rfl
theorem f0_9 {g : pg} {t : pt} {n : Nat × Nat} : ol_fld (pb g t, n) 10 0 9 = some (.inr (.inl (some 31))) := pb_fld (k := some (some 31)) (a := 0) (ci := 10) rfl rfl
theorem f0_10 {g : pg} {t : pt} {n : Nat × Nat} : ol_fld (pb g t, n) 10 0 10 = some (.inr (.inl (some 33))) := pb_fld (k := some (some 33)) (a := 0) (ci := 10) rfl rfl
theorem f0_11 {g : pg} {t : pt} {n : Nat × Nat} : ol_fld (pb g t, n) 10 0 11 = some (.inr (.inl (some 35))) := pb_fld (k := some (some 35)) (a := 0) (ci := 10) rfl rfl
theorem f0_12 {g : pg} {t : pt} {n : Nat × Nat} : ol_fld (pb g t, n) 10 0 12 = some (.inr (.inl (some 42))) := pb_fld (k := some (some 42)) (a := 0) (ci := 10) rfl rfl
theorem f0_13 {g : pg} {t : pt} {n : Nat × Nat} : ol_fld (pb g t, n) 10 0 13 = some (.inr (.inl (some 43))) := pb_fld (k := some (some 43)) (a := 0) (ci := 10) rfl rfl
theorem f0_14 {g : pg} {t : pt} {n : Nat × Nat} : ol_fld (pb g t, n) 10 0 14 = some (.inr (.inl (some 44))) := pb_fld (k := some (some 44)) (a := 0) (ci := 10) rfl rfl
theorem f0_15 {g : pg} {t : pt} {n : Nat × Nat} : ol_fld (pb g t, n) 10 0 15 = some (.inl (g 0 15)) := pb_fld (k := none) (a := 0) (ci := 10) rfl rfl
theorem p0_15 {g : pg} {t : pt} {n : Nat × Nat} (v : Int) : ol_put (pb g t, n) 10 0 15 (.inl v) = some (pb (pu g 0 15 v) t, n) := pb_put (a := 0) (ci := 10) rfl rfl v
theorem f0_16 {g : pg} {t : pt} {n : Nat × Nat} : ol_fld (pb g t, n) 10 0 16 = some (.inl (g 0 16)) := pb_fld (k := none) (a := 0) (ci := 10) rfl rfl
theorem p0_16 {g : pg} {t : pt} {n : Nat × Nat} (v : Int) : ol_put (pb g t, n) 10 0 16 (.inl v) = some (pb (pu g 0 16 v) t, n) := pb_put (a := 0) (ci := 10) rfl rfl v
theorem f0_17 {g : pg} {t : pt} {n : Nat × Nat} : ol_fld (pb g t, n) 10 0 17 = some (.inr (.inr (t 0))) := pb_fld (k := some none) (a := 0) (ci := 10) rfl rfl
theorem c0 {g : pg} {t : pt} {n : Nat × Nat} : ol_isC (pb g t, n) 0 10 = true := pb_isC (a := 0) (ci := 10) rfl
theorem f1_0 {g : pg} {t : pt} {n : Nat × Nat} : ol_fld (pb g t, n) 7 1 0 = some (.inr (.inl (some 2))) := pb_fld (k := some (some 2)) (a := 1) (ci := 7) rfl rfl
theorem f1_1 {g : pg} {t : pt} {n : Nat × Nat} : ol_fld (pb g t, n) 7 1 1 = some (.inr (.inl (some 3))) := pb_fld (k := some (some 3)) (a := 1) (ci := 7) rfl rfl
theorem f1_2 {g : pg} {t : pt} {n : Nat × Nat} : ol_fld (pb g t, n) 7 1 2 = some (.inl (g 1 2)) := pb_fld (k := none) (a := 1) (ci := 7) rfl rfl
theorem p1_2 {g : pg} {t : pt} {n : Nat × Nat} (v : Int) : ol_put (pb g t, n) 7 1 2 (.inl v) = some (pb (pu g 1 2 v) t, n) := pb_put (a := 1) (ci := 7) rfl rfl v
theorem f1_3 {g : pg} {t : pt} {n : Nat × Nat} : ol_fld (pb g t, n) 7 1 3 = some (.inl (g 1 3)) := pb_fld (k := none) (a := 1) (ci := 7) rfl rfl
theorem p1_3 {g : pg} {t : pt} {n : Nat × Nat} (v : Int) : ol_put (pb g t, n) 7 1 3 (.inl v) = some (pb (pu g 1 3 v) t, n) := pb_put (a := 1) (ci := 7) rfl rfl v
theorem f1_4 {g : pg} {t : pt} {n : Nat × Nat} : ol_fld (pb g t, n) 7 1 4 = some (.inl (g 1 4)) := pb_fld (k := none) (a := 1) (ci := 7) rfl rfl
theorem p1_4 {g : pg} {t : pt} {n : Nat × Nat} (v : Int) : ol_put (pb g t, n) 7 1 4 (.inl v) = some (pb (pu g 1 4 v) t, n) := pb_put (a := 1) (ci := 7) rfl rfl v
theorem f1_5 {g : pg} {t : pt} {n : Nat × Nat} : ol_fld (pb g t, n) 7 1 5 = some (.inl (g 1 5)) := pb_fld (k := none) (a := 1) (ci := 7) rfl rfl
theorem p1_5 {g : pg} {t : pt} {n : Nat × Nat} (v : Int) : ol_put (pb g t, n) 7 1 5 (.inl v) = some (pb (pu g 1 5 v) t, n) := pb_put (a := 1) (ci := 7) rfl rfl v
theorem f1_6 {g : pg} {t : pt} {n : Nat × Nat} : ol_fld (pb g t, n) 7 1 6 = some (.inl (g 1 6)) := pb_fld (k := none) (a := 1) (ci := 7) rfl rfl
theorem p1_6 {g : pg} {t : pt} {n : Nat × Nat} (v : Int) : ol_put (pb g t, n) 7 1 6 (.inl v) = some (pb (pu g 1 6 v) t, n) := pb_put (a := 1) (ci := 7) rfl rfl v
theorem c1 {g : pg} {t : pt} {n : Nat × Nat} : ol_isC (pb g t, n) 1 7 = true := pb_isC (a := 1) (ci := 7) rfl
theorem f3_0 {g : pg} {t : pt} {n : Nat × Nat} : ol_fld (pb g t, n) 5 3 0 = some (.inr (.inl (some 4))) := pb_fld (k := some (some 4)) (a := 3) (ci := 5) rfl rfl
theorem f3_1 {g : pg} {t : pt} {n : Nat × Nat} : ol_fld (pb g t, n) 5 3 1 = some (.inl (g 3 1)) := pb_fld (k := none) (a := 3) (ci := 5) rfl rfl
theorem p3_1 {g : pg} {t : pt} {n : Nat × Nat} (v : Int) : ol_put (pb g t, n) 5 3 1 (.inl v) = some (pb (pu g 3 1 v) t, n) := pb_put (a := 3) (ci := 5) rfl rfl v
theorem f3_2 {g : pg} {t : pt} {n : Nat × Nat} : ol_fld (pb g t, n) 5 3 2 = some (.inl (g 3 2)) := pb_fld (k := none) (a := 3) (ci := 5) rfl rfl
theorem p3_2 {g : pg} {t : pt} {n : Nat × Nat} (v : Int) : ol_put (pb g t, n) 5 3 2 (.inl v) = some (pb (pu g 3 2 v) t, n) := pb_put (a := 3) (ci := 5) rfl rfl v
theorem c3 {g : pg} {t : pt} {n : Nat × Nat} : ol_isC (pb g t, n) 3 5 = true := pb_isC (a := 3) (ci := 5) rfl
theorem f7_0 {g : pg} {t : pt} {n : Nat × Nat} : ol_fld (pb g t, n) 2 7 0 = some (.inr (.inl (some 8))) := pb_fld (k := some (some 8)) (a := 7) (ci := 2) rfl rfl
theorem f7_1 {g : pg} {t : pt} {n : Nat × Nat} : ol_fld (pb g t, n) 2 7 1 = some (.inr (.inl (some 10))) := pb_fld (k := some (some 10)) (a := 7) (ci := 2) rfl rfl
theorem f7_2 {g : pg} {t : pt} {n : Nat × Nat} : ol_fld (pb g t, n) 2 7 2 = some (.inl (g 7 2)) := pb_fld (k := none) (a := 7) (ci := 2) rfl rfl
theorem p7_2 {g : pg} {t : pt} {n : Nat × Nat} (v : Int) : ol_put (pb g t, n) 2 7 2 (.inl v) = some (pb (pu g 7 2 v) t, n) := pb_put (a := 7) (ci := 2) rfl rfl v
theorem c7 {g : pg} {t : pt} {n : Nat × Nat} : ol_isC (pb g t, n) 7 2 = true := pb_isC (a := 7) (ci := 2) rfl
theorem f8_0 {g : pg} {t : pt} {n : Nat × Nat} : ol_fld (pb g t, n) 4 8 0 = some (.inr (.inl (some 9))) := pb_fld (k := some (some 9)) (a := 8) (ci := 4) rfl rfl
theorem c8 {g : pg} {t : pt} {n : Nat × Nat} : ol_isC (pb g t, n) 8 4 = true := pb_isC (a := 8) (ci := 4) rfl
theorem f11_0 {g : pg} {t : pt} {n : Nat × Nat} : ol_fld (pb g t, n) 9 11 0 = some (.inl (g 11 0)) := pb_fld (k := none) (a := 11) (ci := 9) rfl rfl
theorem p11_0 {g : pg} {t : pt} {n : Nat × Nat} (v : Int) : ol_put (pb g t, n) 9 11 0 (.inl v) = some (pb (pu g 11 0 v) t, n) := pb_put (a := 11) (ci := 9) rfl rfl v
theorem f11_1 {g : pg} {t : pt} {n : Nat × Nat} : ol_fld (pb g t, n) 9 11 1 = some (.inl (g 11 1)) := pb_fld (k := none) (a := 11) (ci := 9) rfl rfl
theorem p11_1 {g : pg} {t : pt} {n : Nat × Nat} (v : Int) : ol_put (pb g t, n) 9 11 1 (.inl v) = some (pb (pu g 11 1 v) t, n) := pb_put (a := 11) (ci := 9) rfl rfl v
theorem f11_2 {g : pg} {t : pt} {n : Nat × Nat} : ol_fld (pb g t, n) 9 11 2 = some (.inl (g 11 2)) := pb_fld (k := none) (a := 11) (ci := 9) rfl rfl
theorem p11_2 {g : pg} {t : pt} {n : Nat × Nat} (v : Int) : ol_put (pb g t, n) 9 11 2 (.inl v) = some (pb (pu g 11 2 v) t, n) := pb_put (a := 11) (ci := 9) rfl rfl v
theorem f11_3 {g : pg} {t : pt} {n : Nat × Nat} : ol_fld (pb g t, n) 9 11 3 = some (.inl (g 11 3)) := pb_fld (k := none) (a := 11) (ci := 9) rfl rfl
theorem p11_3 {g : pg} {t : pt} {n : Nat × Nat} (v : Int) : ol_put (pb g t, n) 9 11 3 (.inl v) = some (pb (pu g 11 3 v) t, n) := pb_put (a := 11) (ci := 9) rfl rfl v
theorem f11_4 {g : pg} {t : pt} {n : Nat × Nat} : ol_fld (pb g t, n) 9 11 4 = some (.inl (g 11 4)) := pb_fld (k := none) (a := 11) (ci := 9) rfl rfl
theorem p11_4 {g : pg} {t : pt} {n : Nat × Nat} (v : Int) : ol_put (pb g t, n) 9 11 4 (.inl v) = some (pb (pu g 11 4 v) t, n) := pb_put (a := 11) (ci := 9) rfl rfl v
theorem f11_5 {g : pg} {t : pt} {n : Nat × Nat} : ol_fld (pb g t, n) 9 11 5 = some (.inl (g 11 5)) := pb_fld (k := none) (a := 11) (ci := 9) rfl rfl
theorem p11_5 {g : pg} {t : pt} {n : Nat × Nat} (v : Int) : ol_put (pb g t, n) 9 11 5 (.inl v) = some (pb (pu g 11 5 v) t, n) := pb_put (a := 11) (ci := 9) rfl rfl v
theorem c11 {g : pg} {t : pt} {n : Nat × Nat} : ol_isC (pb g t, n) 11 9 = true := pb_isC (a := 11) (ci := 9) rfl
theorem f12_0 {g : pg} {t : pt} {n : Nat × Nat} : ol_fld (pb g t, n) 9 12 0 = some (.inl (g 12 0)) := pb_fld (k := none) (a := 12) (ci := 9) rfl rfl
theorem p12_0 {g : pg} {t : pt} {n : Nat × Nat} (v : Int) : ol_put (pb g t, n) 9 12 0 (.inl v) = some (pb (pu g 12 0 v) t, n) := pb_put (a := 12) (ci := 9) rfl rfl v
theorem f12_1 {g : pg} {t : pt} {n : Nat × Nat} : ol_fld (pb g t, n) 9 12 1 = some (.inl (g 12 1)) := pb_fld (k := none) (a := 12) (ci := 9) rfl rfl
theorem p12_1 {g : pg} {t : pt} {n : Nat × Nat} (v : Int) : ol_put (pb g t, n) 9 12 1 (.inl v) = some (pb (pu g 12 1 v) t, n) := pb_put (a := 12) (ci := 9) rfl rfl v
theorem f12_2 {g : pg} {t : pt} {n : Nat × Nat} : ol_fld (pb g t, n) 9 12 2 = some (.inl (g 12 2)) := pb_fld (k := none) (a := 12) (ci := 9) rfl rfl
theorem p12_2 {g : pg} {t : pt} {n : Nat × Nat} (v : Int) : ol_put (pb g t, n) 9 12 2 (.inl v) = some (pb (pu g 12 2 v) t, n) := pb_put (a := 12) (ci := 9) rfl rfl v
theorem f12_3 {g : pg} {t : pt} {n : Nat × Nat} : ol_fld (pb g t, n) 9 12 3 = some (.inl (g 12 3)) := pb_fld (k := none) (a := 12) (ci := 9) rfl rfl
theorem p12_3 {g : pg} {t : pt} {n : Nat × Nat} (v : Int) : ol_put (pb g t, n) 9 12 3 (.inl v) = some (pb (pu g 12 3 v) t, n) := pb_put (a := 12) (ci := 9) rfl rfl v
theorem f12_4 {g : pg} {t : pt} {n : Nat × Nat} : ol_fld (pb g t, n) 9 12 4 = some (.inl (g 12 4)) := pb_fld (k := none) (a := 12) (ci := 9) rfl rfl
theorem p12_4 {g : pg} {t : pt} {n : Nat × Nat} (v : Int) : ol_put (pb g t, n) 9 12 4 (.inl v) = some (pb (pu g 12 4 v) t, n) := pb_put (a := 12) (ci := 9) rfl rfl v
theorem f12_5 {g : pg} {t : pt} {n : Nat × Nat} : ol_fld (pb g t, n) 9 12 5 = some (.inl (g 12 5)) := pb_fld (k := none) (a := 12) (ci := 9) rfl rfl
theorem p12_5 {g : pg} {t : pt} {n : Nat × Nat} (v : Int) : ol_put (pb g t, n) 9 12 5 (.inl v) = some (pb (pu g 12 5 v) t, n) := pb_put (a := 12) (ci := 9) rfl rfl v
theorem c12 {g : pg} {t : pt} {n : Nat × Nat} : ol_isC (pb g t, n) 12 9 = true := pb_isC (a := 12) (ci := 9) rfl
theorem f13_0 {g : pg} {t : pt} {n : Nat × Nat} : ol_fld (pb g t, n) 9 13 0 = some (.inl (g 13 0)) := pb_fld (k := none) (a := 13) (ci := 9) rfl rfl
theorem p13_0 {g : pg} {t : pt} {n : Nat × Nat} (v : Int) : ol_put (pb g t, n) 9 13 0 (.inl v) = some (pb (pu g 13 0 v) t, n) := pb_put (a := 13) (ci := 9) rfl rfl v
theorem f13_1 {g : pg} {t : pt} {n : Nat × Nat} : ol_fld (pb g t, n) 9 13 1 = some (.inl (g 13 1)) := pb_fld (k := none) (a := 13) (ci := 9) rfl rfl
theorem p13_1 {g : pg} {t : pt} {n : Nat × Nat} (v : Int) : ol_put (pb g t, n) 9 13 1 (.inl v) = some (pb (pu g 13 1 v) t, n) := pb_put (a := 13) (ci := 9) rfl rfl v
theorem f13_2 {g : pg} {t : pt} {n : Nat × Nat} : ol_fld (pb g t, n) 9 13 2 = some (.inl (g 13 2)) := pb_fld (k := none) (a := 13) (ci := 9) rfl rfl
theorem p13_2 {g : pg} {t : pt} {n : Nat × Nat} (v : Int) : ol_put (pb g t, n) 9 13 2 (.inl v) = some (pb (pu g 13 2 v) t, n) := pb_put (a := 13) (ci := 9) rfl rfl v
theorem f13_3 {g : pg} {t : pt} {n : Nat × Nat} : ol_fld (pb g t, n) 9 13 3 = some (.inl (g 13 3)) := pb_fld (k := none) (a := 13) (ci := 9) rfl rfl
theorem p13_3 {g : pg} {t : pt} {n : Nat × Nat} (v : Int) : ol_put (pb g t, n) 9 13 3 (.inl v) = some (pb (pu g 13 3 v) t, n) := pb_put (a := 13) (ci := 9) rfl rfl v
theorem f13_4 {g : pg} {t : pt} {n : Nat × Nat} : ol_fld (pb g t, n) 9 13 4 = some (.inl (g 13 4)) := pb_fld (k := none) (a := 13) (ci := 9) rfl rfl
theorem p13_4 {g : pg} {t : pt} {n : Nat × Nat} (v : Int) : ol_put (pb g t, n) 9 13 4 (.inl v) = some (pb (pu g 13 4 v) t, n) := pb_put (a := 13) (ci := 9) rfl rfl v
theorem f13_5 {g : pg} {t : pt} {n : Nat × Nat} : ol_fld (pb g t, n) 9 13 5 = some (.inl (g 13 5)) := pb_fld (k := none) (a := 13) (ci := 9) rfl rfl
theorem p13_5 {g : pg} {t : pt} {n : Nat × Nat} (v : Int) : ol_put (pb g t, n) 9 13 5 (.inl v) = some (pb (pu g 13 5 v) t, n) := pb_put (a := 13) (ci := 9) rfl rfl v
theorem c13 {g : pg} {t : pt} {n : Nat × Nat} : ol_isC (pb g t, n) 13 9 = true := pb_isC (a := 13) (ci := 9) rfl
theorem f14_0 {g : pg} {t : pt} {n : Nat × Nat} : ol_fld (pb g t, n) 9 14 0 = some (.inl (g 14 0)) := pb_fld (k := none) (a := 14) (ci := 9) rfl rfl
theorem p14_0 {g : pg} {t : pt} {n : Nat × Nat} (v : Int) : ol_put (pb g t, n) 9 14 0 (.inl v) = some (pb (pu g 14 0 v) t, n) := pb_put (a := 14) (ci := 9) rfl rfl v
theorem f14_1 {g : pg} {t : pt} {n : Nat × Nat} : ol_fld (pb g t, n) 9 14 1 = some (.inl (g 14 1)) := pb_fld (k := none) (a := 14) (ci := 9) rfl rfl
theorem p14_1 {g : pg} {t : pt} {n : Nat × Nat} (v : Int) : ol_put (pb g t, n) 9 14 1 (.inl v) = some (pb (pu g 14 1 v) t, n) := pb_put (a := 14) (ci := 9) rfl rfl v
theorem f14_2 {g : pg} {t : pt} {n : Nat × Nat} : ol_fld (pb g t, n) 9 14 2 = some (.inl (g 14 2)) := pb_fld (k := none) (a := 14) (ci := 9) rfl rfl
theorem p14_2 {g : pg} {t : pt} {n : Nat × Nat} (v : Int) : ol_put (pb g t, n) 9 14 2 (.inl v) = some (pb (pu g 14 2 v) t, n) := pb_put (a := 14) (ci := 9) rfl rfl v
theorem f14_3 {g : pg} {t : pt} {n : Nat × Nat} : ol_fld (pb g t, n) 9 14 3 = some (.inl (g 14 3)) := pb_fld (k := none) (a := 14) (ci := 9) rfl rfl
theorem p14_3 {g : pg} {t : pt} {n : Nat × Nat} (v : Int) : ol_put (pb g t, n) 9 14 3 (.inl v) = some (pb (pu g 14 3 v) t, n) := pb_put (a := 14) (ci := 9) rfl rfl v
theorem f14_4 {g : pg} {t : pt} {n : Nat × Nat} : ol_fld (pb g t, n) 9 14 4 = some (.inl (g 14 4)) := pb_fld (k := none) (a := 14) (ci := 9) rfl rfl
theorem p14_4 {g : pg} {t : pt} {n : Nat × Nat} (v : Int) : ol_put (pb g t, n) 9 14 4 (.inl v) = some (pb (pu g 14 4 v) t, n) := pb_put (a := 14) (ci := 9) rfl rfl v
theorem f14_5 {g : pg} {t : pt} {n : Nat × Nat} : ol_fld (pb g t, n) 9 14 5 = some (.inl (g 14 5)) := pb_fld (k := none) (a := 14) (ci := 9) rfl rfl
theorem p14_5 {g : pg} {t : pt} {n : Nat × Nat} (v : Int) : ol_put (pb g t, n) 9 14 5 (.inl v) = some (pb (pu g 14 5 v) t, n) := pb_put (a := 14) (ci := 9) rfl rfl v
theorem c14 {g : pg} {t : pt} {n : Nat × Nat} : ol_isC (pb g t, n) 14 9 = true := pb_isC (a := 14) (ci := 9) rfl
theorem f15_0 {g : pg} {t : pt} {n : Nat × Nat} : ol_fld (pb g t, n) 2 15 0 = some (.inr (.inl (some 16))) := pb_fld (k := some (some 16)) (a := 15) (ci := 2) rfl rfl
theorem f15_1 {g : pg} {t : pt} {n : Nat × Nat} : ol_fld (pb g t, n) 2 15 1 = some (.inr (.inl (some 18))) := pb_fld (k := some (some 18)) (a := 15) (ci := 2) rfl rfl
theorem f15_2 {g : pg} {t : pt} {n : Nat × Nat} : ol_fld (pb g t, n) 2 15 2 = some (.inl (g 15 2)) := pb_fld (k := none) (a := 15) (ci := 2) rfl rfl
theorem p15_2 {g : pg} {t : pt} {n : Nat × Nat} (v : Int) : ol_put (pb g t, n) 2 15 2 (.inl v) = some (pb (pu g 15 2 v) t, n) := pb_put (a := 15) (ci := 2) rfl rfl v
theorem c15 {g : pg} {t : pt} {n : Nat × Nat} : ol_isC (pb g t, n) 15 2 = true := pb_isC (a := 15) (ci := 2) rfl
theorem f16_0 {g : pg} {t : pt} {n : Nat × Nat} : ol_fld (pb g t, n) 4 16 0 = some (.inr (.inl (some 17))) := pb_fld (k := some (some 17)) (a := 16) (ci := 4) rfl rfl
theorem c16 {g : pg} {t : pt} {n : Nat × Nat} : ol_isC (pb g t, n) 16 4 = true := pb_isC (a := 16) (ci := 4) rfl
theorem f19_0 {g : pg} {t : pt} {n : Nat × Nat} : ol_fld (pb g t, n) 9 19 0 = some (.inl (g 19 0)) := pb_fld (k := none) (a := 19) (ci := 9) rfl rfl
theorem p19_0 {g : pg} {t : pt} {n : Nat × Nat} (v : Int) : ol_put (pb g t, n) 9 19 0 (.inl v) = some (pb (pu g 19 0 v) t, n) := pb_put (a := 19) (ci := 9) rfl rfl v
theorem f19_1 {g : pg} {t : pt} {n : Nat × Nat} : ol_fld (pb g t, n) 9 19 1 = some (.inl (g 19 1)) := pb_fld (k := none) (a := 19) (ci := 9) rfl rfl
theorem p19_1 {g : pg} {t : pt} {n : Nat × Nat} (v : Int) : ol_put (pb g t, n) 9 19 1 (.inl v) = some (pb (pu g 19 1 v) t, n) := pb_put (a := 19) (ci := 9) rfl rfl v
theorem f19_2 {g : pg} {t : pt} {n : Nat × Nat} : ol_fld (pb g t, n) 9 19 2 = some (.inl (g 19 2)) := pb_fld (k := none) (a := 19) (ci := 9) rfl rfl
theorem p19_2 {g : pg} {t : pt} {n : Nat × Nat} (v : Int) : ol_put (pb g t, n) 9 19 2 (.inl v) = some (pb (pu g 19 2 v) t, n) := pb_put (a := 19) (ci := 9) rfl rfl v
theorem f19_3 {g : pg} {t : pt} {n : Nat × Nat} : ol_fld (pb g t, n) 9 19 3 = some (.inl (g 19 3)) := pb_fld (k := none) (a := 19) (ci := 9) rfl rfl
theorem p19_3 {g : pg} {t : pt} {n : Nat × Nat} (v : Int) : ol_put (pb g t, n) 9 19 3 (.inl v) = some (pb (pu g 19 3 v) t, n) := pb_put (a := 19) (ci := 9) rfl rfl v
theorem f19_4 {g : pg} {t : pt} {n : Nat × Nat} : ol_fld (pb g t, n) 9 19 4 = some (.inl (g 19 4)) := pb_fld (k := none) (a := 19) (ci := 9) rfl rfl
theorem p19_4 {g : pg} {t : pt} {n : Nat × Nat} (v : Int) : ol_put (pb g t, n) 9 19 4 (.inl v) = some (pb (pu g 19 4 v) t, n) := pb_put (a := 19) (ci := 9) rfl rfl v
theorem f19_5 {g : pg} {t : pt} {n : Nat × Nat} : ol_fld (pb g t, n) 9 19 5 = some (.inl (g 19 5)) := pb_fld (k := none) (a := 19) (ci := 9) rfl rfl
theorem p19_5 {g : pg} {t : pt} {n : Nat × Nat} (v : Int) : ol_put (pb g t, n) 9 19 5 (.inl v) = some (pb (pu g 19 5 v) t, n) := pb_put (a := 19) (ci := 9) rfl rfl v
theorem c19 {g : pg} {t : pt} {n : Nat × Nat} : ol_isC (pb g t, n) 19 9 = true := pb_isC (a := 19) (ci := 9) rfl
theorem f20_0 {g : pg} {t : pt} {n : Nat × Nat} : ol_fld (pb g t, n) 9 20 0 = some (.inl (g 20 0)) := pb_fld (k := none) (a := 20) (ci := 9) rfl rfl
theorem p20_0 {g : pg} {t : pt} {n : Nat × Nat} (v : Int) : ol_put (pb g t, n) 9 20 0 (.inl v) = some (pb (pu g 20 0 v) t, n) := pb_put (a := 20) (ci := 9) rfl rfl v
theorem f20_1 {g : pg} {t : pt} {n : Nat × Nat} : ol_fld (pb g t, n) 9 20 1 = some (.inl (g 20 1)) := pb_fld (k := none) (a := 20) (ci := 9) rfl rfl
theorem p20_1 {g : pg} {t : pt} {n : Nat × Nat} (v : Int) : ol_put (pb g t, n) 9 20 1 (.inl v) = some (pb (pu g 20 1 v) t, n) := pb_put (a := 20) (ci := 9) rfl rfl v
theorem f20_2 {g : pg} {t : pt} {n : Nat × Nat} : ol_fld (pb g t, n) 9 20 2 = some (.inl (g 20 2)) := pb_fld (k := none) (a := 20) (ci := 9) rfl rfl
theorem p20_2 {g : pg} {t : pt} {n : Nat × Nat} (v : Int) : ol_put (pb g t, n) 9 20 2 (.inl v) = some (pb (pu g 20 2 v) t, n) := pb_put (a := 20) (ci := 9) rfl rfl v
theorem f20_3 {g : pg} {t : pt} {n : Nat × Nat} : ol_fld (pb g t, n) 9 20 3 = some (.inl (g 20 3)) := pb_fld (k := none) (a := 20) (ci := 9) rfl rfl
theorem p20_3 {g : pg} {t : pt} {n : Nat × Nat} (v : Int) : ol_put (pb g t, n) 9 20 3 (.inl v) = some (pb (pu g 20 3 v) t, n) := pb_put (a := 20) (ci := 9) rfl rfl v
theorem f20_4 {g : pg} {t : pt} {n : Nat × Nat} : ol_fld (pb g t, n) 9 20 4 = some (.inl (g 20 4)) := pb_fld (k := none) (a := 20) (ci := 9) rfl rfl
theorem p20_4 {g : pg} {t : pt} {n : Nat × Nat} (v : Int) : ol_put (pb g t, n) 9 20 4 (.inl v) = some (pb (pu g 20 4 v) t, n) := pb_put (a := 20) (ci := 9) rfl rfl v
theorem f20_5 {g : pg} {t : pt} {n : Nat × Nat} : ol_fld (pb g t, n) 9 20 5 = some (.inl (g 20 5)) := pb_fld (k := none) (a := 20) (ci := 9) rfl rfl
theorem p20_5 {g : pg} {t : pt} {n : Nat × Nat} (v : Int) : ol_put (pb g t, n) 9 20 5 (.inl v) = some (pb (pu g 20 5 v) t, n) := pb_put (a := 20) (ci := 9) rfl rfl v
theorem c20 {g : pg} {t : pt} {n : Nat × Nat} : ol_isC (pb g t, n) 20 9 = true := pb_isC (a := 20) (ci := 9) rfl
theorem f21_0 {g : pg} {t : pt} {n : Nat × Nat} : ol_fld (pb g t, n) 9 21 0 = some (.inl (g 21 0)) := pb_fld (k := none) (a := 21) (ci := 9) rfl rfl
theorem p21_0 {g : pg} {t : pt} {n : Nat × Nat} (v : Int) : ol_put (pb g t, n) 9 21 0 (.inl v) = some (pb (pu g 21 0 v) t, n) := pb_put (a := 21) (ci := 9) rfl rfl v
theorem f21_1 {g : pg} {t : pt} {n : Nat × Nat} : ol_fld (pb g t, n) 9 21 1 = some (.inl (g 21 1)) := pb_fld (k := none) (a := 21) (ci := 9) rfl rfl
theorem p21_1 {g : pg} {t : pt} {n : Nat × Nat} (v : Int) : ol_put (pb g t, n) 9 21 1 (.inl v) = some (pb (pu g 21 1 v) t, n) := pb_put (a := 21) (ci := 9) rfl rfl v
theorem f21_2 {g : pg} {t : pt} {n : Nat × Nat} : ol_fld (pb g t, n) 9 21 2 = some (.inl (g 21 2)) := pb_fld (k := none) (a := 21) (ci := 9) rfl rfl
theorem p21_2 {g : pg} {t : pt} {n : Nat × Nat} (v : Int) : ol_put (pb g t, n) 9 21 2 (.inl v) = some (pb (pu g 21 2 v) t, n) := pb_put (a := 21) (ci := 9) rfl rfl v
theorem f21_3 {g : pg} {t : pt} {n : Nat × Nat} : ol_fld (pb g t, n) 9 21 3 = some (.inl (g 21 3)) := pb_fld (k := none) (a := 21) (ci := 9) rfl rfl
theorem p21_3 {g : pg} {t : pt} {n : Nat × Nat} (v : Int) : ol_put (pb g t, n) 9 21 3 (.inl v) = some (pb (pu g 21 3 v) t, n) := pb_put (a := 21) (ci := 9) rfl rfl v
theorem f21_4 {g : pg} {t : pt} {n : Nat × Nat} : ol_fld (pb g t, n) 9 21 4 = some (.inl (g 21 4)) := pb_fld (k := none) (a := 21) (ci := 9) rfl rfl
theorem p21_4 {g : pg} {t : pt} {n : Nat × Nat} (v : Int) : ol_put (pb g t, n) 9 21 4 (.inl v) = some (pb (pu g 21 4 v) t, n) := pb_put (a := 21) (ci := 9) rfl rfl v
theorem f21_5 {g : pg} {t : pt} {n : Nat × Nat} : ol_fld (pb g t, n) 9 21 5 = some (.inl (g 21 5)) := pb_fld (k := none) (a := 21) (ci := 9) rfl rfl
theorem p21_5 {g : pg} {t : pt} {n : Nat × Nat} (v : Int) : ol_put (pb g t, n) 9 21 5 (.inl v) = some (pb (pu g 21 5 v) t, n) := pb_put (a := 21) (ci := 9) rfl rfl v
theorem c21 {g : pg} {t : pt} {n : Nat × Nat} : ol_isC (pb g t, n) 21 9 = true := pb_isC (a := 21) (ci := 9) rfl
theorem f22_0 {g : pg} {t : pt} {n : Nat × Nat} : ol_fld (pb g t, n) 9 22 0 = some (.inl (g 22 0)) := pb_fld (k := none) (a := 22) (ci := 9) rfl rfl
theorem p22_0 {g : pg} {t : pt} {n : Nat × Nat} (v : Int) : ol_put (pb g t, n) 9 22 0 (.inl v) = some (pb (pu g 22 0 v) t, n) := pb_put (a := 22) (ci := 9) rfl rfl v
theorem f22_1 {g : pg} {t : pt} {n : Nat × Nat} : ol_fld (pb g t, n) 9 22 1 = some (.inl (g 22 1)) := pb_fld (k := none) (a := 22) (ci := 9) rfl rfl
theorem p22_1 {g : pg} {t : pt} {n : Nat × Nat} (v : Int) : ol_put (pb g t, n) 9 22 1 (.inl v) = some (pb (pu g 22 1 v) t, n) := pb_put (a := 22) (ci := 9) rfl rfl v
theorem f22_2 {g : pg} {t : pt} {n : Nat × Nat} : ol_fld (pb g t, n) 9 22 2 = some (.inl (g 22 2)) := pb_fld (k := none) (a := 22) (ci := 9) rfl rfl
theorem p22_2 {g : pg} {t : pt} {n : Nat × Nat} (v : Int) : ol_put (pb g t, n) 9 22 2 (.inl v) = some (pb (pu g 22 2 v) t, n) := pb_put (a := 22) (ci := 9) rfl rfl v
theorem f22_3 {g : pg} {t : pt} {n : Nat × Nat} : ol_fld (pb g t, n) 9 22 3 = some (.inl (g 22 3)) := pb_fld (k := none) (a := 22) (ci := 9) rfl rfl
theorem p22_3 {g : pg} {t : pt} {n : Nat × Nat} (v : Int) : ol_put (pb g t, n) 9 22 3 (.inl v) = some (pb (pu g 22 3 v) t, n) := pb_put (a := 22) (ci := 9) rfl rfl v
theorem f22_4 {g : pg} {t : pt} {n : Nat × Nat} : ol_fld (pb g t, n) 9 22 4 = some (.inl (g 22 4)) := pb_fld (k := none) (a := 22) (ci := 9) rfl rfl
theorem p22_4 {g : pg} {t : pt} {n : Nat × Nat} (v : Int) : ol_put (pb g t, n) 9 22 4 (.inl v) = some (pb (pu g 22 4 v) t, n) := pb_put (a := 22) (ci := 9) rfl rfl v
theorem f22_5 {g : pg} {t : pt} {n : Nat × Nat} : ol_fld (pb g t, n) 9 22 5 = some (.inl (g 22 5)) := pb_fld (k := none) (a := 22) (ci := 9) rfl rfl
theorem p22_5 {g : pg} {t : pt} {n : Nat × Nat} (v : Int) : ol_put (pb g t, n) 9 22 5 (.inl v) = some (pb (pu g 22 5 v) t, n) := pb_put (a := 22) (ci := 9) rfl rfl v
theorem c22 {g : pg} {t : pt} {n : Nat × Nat} : ol_isC (pb g t, n) 22 9 = true := pb_isC (a := 22) (ci := 9) rfl
theorem f25_0 {g : pg} {t : pt} {n : Nat × Nat} : ol_fld (pb g t, n) 1 25 0 = some (.inr (.inl (some 26))) := pb_fld (k := some (some 26)) (a := 25) (ci := 1) rfl rfl
theorem f25_1 {g : pg} {t : pt} {n : Nat × Nat} : ol_fld (pb g t, n) 1 25 1 = some (.inl (g 25 1)) := pb_fld (k := none) (a := 25) (ci := 1) rfl rfl
theorem p25_1 {g : pg} {t : pt} {n : Nat × Nat} (v : Int) : ol_put (pb g t, n) 1 25 1 (.inl v) = some (pb (pu g 25 1 v) t, n) := pb_put (a := 25) (ci := 1) rfl rfl v
theorem f25_2 {g : pg} {t : pt} {n : Nat × Nat} : ol_fld (pb g t, n) 1 25 2 = some (.inl (g 25 2)) := pb_fld (k := none) (a := 25) (ci := 1) rfl rfl
theorem p25_2 {g : pg} {t : pt} {n : Nat × Nat} (v : Int) : ol_put (pb g t, n) 1 25 2 (.inl v) = some (pb (pu g 25 2 v) t, n) := pb_put (a := 25) (ci := 1) rfl rfl v
theorem f25_3 {g : pg} {t : pt} {n : Nat × Nat} : ol_fld (pb g t, n) 1 25 3 = some (.inl (g 25 3)) := pb_fld (k := none) (a := 25) (ci := 1) rfl rfl
theorem p25_3 {g : pg} {t : pt} {n : Nat × Nat} (v : Int) : ol_put (pb g t, n) 1 25 3 (.inl v) = some (pb (pu g 25 3 v) t, n) := pb_put (a := 25) (ci := 1) rfl rfl v
theorem f25_4 {g : pg} {t : pt} {n : Nat × Nat} : ol_fld (pb g t, n) 1 25 4 = some (.inl (g 25 4)) := pb_fld (k := none) (a := 25) (ci := 1) rfl rfl
theorem p25_4 {g : pg} {t : pt} {n : Nat × Nat} (v : Int) : ol_put (pb g t, n) 1 25 4 (.inl v) = some (pb (pu g 25 4 v) t, n) := pb_put (a := 25) (ci := 1) rfl rfl v
theorem f25_5 {g : pg} {t : pt} {n : Nat × Nat} : ol_fld (pb g t, n) 1 25 5 = some (.inl (g 25 5)) := pb_fld (k := none) (a := 25) (ci := 1) rfl rfl
theorem p25_5 {g : pg} {t : pt} {n : Nat × Nat} (v : Int) : ol_put (pb g t, n) 1 25 5 (.inl v) = some (pb (pu g 25 5 v) t, n) := pb_put (a := 25) (ci := 1) rfl rfl v
theorem f25_6 {g : pg} {t : pt} {n : Nat × Nat} : ol_fld (pb g t, n) 1 25 6 = some (.inl (g 25 6)) := pb_fld (k := none) (a := 25) (ci := 1) rfl rfl
theorem p25_6 {g : pg} {t : pt} {n : Nat × Nat} (v : Int) : ol_put (pb g t, n) 1 25 6 (.inl v) = some (pb (pu g 25 6 v) t, n) := pb_put (a := 25) (ci := 1) rfl rfl v
theorem f25_7 {g : pg} {t : pt} {n : Nat × Nat} : ol_fld (pb g t, n) 1 25 7 = some (.inl (g 25 7)) := pb_fld (k := none) (a := 25) (ci := 1) rfl rfl
theorem p25_7 {g : pg} {t : pt} {n : Nat × Nat} (v : Int) : ol_put (pb g t, n) 1 25 7 (.inl v) = some (pb (pu g 25 7 v) t, n) := pb_put (a := 25) (ci := 1) rfl rfl v
theorem c25 {g : pg} {t : pt} {n : Nat × Nat} : ol_isC (pb g t, n) 25 1 = true := pb_isC (a := 25) (ci := 1) rfl
theorem f26_0 {g : pg} {t : pt} {n : Nat × Nat} : ol_fld (pb g t, n) 6 26 0 = some (.inr (.inl (some 27))) := pb_fld (k := some (some 27)) (a := 26) (ci := 6) rfl rfl
theorem f26_1 {g : pg} {t : pt} {n : Nat × Nat} : ol_fld (pb g t, n) 6 26 1 = some (.inl (g 26 1)) := pb_fld (k := none) (a := 26) (ci := 6) rfl rfl
theorem p26_1 {g : pg} {t : pt} {n : Nat × Nat} (v : Int) : ol_put (pb g t, n) 6 26 1 (.inl v) = some (pb (pu g 26 1 v) t, n) := pb_put (a := 26) (ci := 6) rfl rfl v
theorem f26_2 {g : pg} {t : pt} {n : Nat × Nat} : ol_fld (pb g t, n) 6 26 2 = some (.inl (g 26 2)) := pb_fld (k := none) (a := 26) (ci := 6) rfl rfl
theorem p26_2 {g : pg} {t : pt} {n : Nat × Nat} (v : Int) : ol_put (pb g t, n) 6 26 2 (.inl v) = some (pb (pu g 26 2 v) t, n) := pb_put (a := 26) (ci := 6) rfl rfl v
theorem c26 {g : pg} {t : pt} {n : Nat × Nat} : ol_isC (pb g t, n) 26 6 = true := pb_isC (a := 26) (ci := 6) rfl
theorem f28_0 {g : pg} {t : pt} {n : Nat × Nat} : ol_fld (pb g t, n) 1 28 0 = some (.inr (.inl (some 29))) := pb_fld (k := some (some 29)) (a := 28) (ci := 1) rfl rfl
theorem f28_1 {g : pg} {t : pt} {n : Nat × Nat} : ol_fld (pb g t, n) 1 28 1 = some (.inl (g 28 1)) := pb_fld (k := none) (a := 28) (ci := 1) rfl rfl
theorem p28_1 {g : pg} {t : pt} {n : Nat × Nat} (v : Int) : ol_put (pb g t, n) 1 28 1 (.inl v) = some (pb (pu g 28 1 v) t, n) := pb_put (a := 28) (ci := 1) rfl rfl v
theorem f28_2 {g : pg} {t : pt} {n : Nat × Nat} : ol_fld (pb g t, n) 1 28 2 = some (.inl (g 28 2)) := pb_fld (k := none) (a := 28) (ci := 1) rfl rfl
theorem p28_2 {g : pg} {t : pt} {n : Nat × Nat} (v : Int) : ol_put (pb g t, n) 1 28 2 (.inl v) = some (pb (pu g 28 2 v) t, n) := pb_put (a := 28) (ci := 1) rfl rfl v
theorem f28_3 {g : pg} {t : pt} {n : Nat × Nat} : ol_fld (pb g t, n) 1 28 3 = some (.inl (g 28 3)) := pb_fld (k := none) (a := 28) (ci := 1) rfl rfl
theorem p28_3 {g : pg} {t : pt} {n : Nat × Nat} (v : Int) : ol_put (pb g t, n) 1 28 3 (.inl v) = some (pb (pu g 28 3 v) t, n) := pb_put (a := 28) (ci := 1) rfl rfl v
theorem f28_4 {g : pg} {t : pt} {n : Nat × Nat} : ol_fld (pb g t, n) 1 28 4 = some (.inl (g 28 4)) := pb_fld (k := none) (a := 28) (ci := 1) rfl rfl
theorem p28_4 {g : pg} {t : pt} {n : Nat × Nat} (v : Int) : ol_put (pb g t, n) 1 28 4 (.inl v) = some (pb (pu g 28 4 v) t, n) := pb_put (a := 28) (ci := 1) rfl rfl v
theorem f28_5 {g : pg} {t : pt} {n : Nat × Nat} : ol_fld (pb g t, n) 1 28 5 = some (.inl (g 28 5)) := pb_fld (k := none) (a := 28) (ci := 1) rfl rfl
theorem p28_5 {g : pg} {t : pt} {n : Nat × Nat} (v : Int) : ol_put (pb g t, n) 1 28 5 (.inl v) = some (pb (pu g 28 5 v) t, n) := pb_put (a := 28) (ci := 1) rfl rfl v
theorem f28_6 {g : pg} {t : pt} {n : Nat × Nat} : ol_fld (pb g t, n) 1 28 6 = some (.inl (g 28 6)) := pb_fld (k := none) (a := 28) (ci := 1) rfl rfl
theorem p28_6 {g : pg} {t : pt} {n : Nat × Nat} (v : Int) : ol_put (pb g t, n) 1 28 6 (.inl v) = some (pb (pu g 28 6 v) t, n) := pb_put (a := 28) (ci := 1) rfl rfl v
theorem f28_7 {g : pg} {t : pt} {n : Nat × Nat} : ol_fld (pb g t, n) 1 28 7 = some (.inl (g 28 7)) := pb_fld (k := none) (a := 28) (ci := 1) rfl rfl
theorem p28_7 {g : pg} {t : pt} {n : Nat × Nat} (v : Int) : ol_put (pb g t, n) 1 28 7 (.inl v) = some (pb (pu g 28 7 v) t, n) := pb_put (a := 28) (ci := 1) rfl rfl v
theorem c28 {g : pg} {t : pt} {n : Nat × Nat} : ol_isC (pb g t, n) 28 1 = true := pb_isC (a := 28) (ci := 1) rfl
theorem f29_0 {g : pg} {t : pt} {n : Nat × Nat} : ol_fld (pb g t, n) 6 29 0 = some (.inr (.inl (some 30))) := pb_fld (k := some (some 30)) (a := 29) (ci := 6) rfl rfl
theorem f29_1 {g : pg} {t : pt} {n : Nat × Nat} : ol_fld (pb g t, n) 6 29 1 = some (.inl (g 29 1)) := pb_fld (k := none) (a := 29) (ci := 6) rfl rfl
theorem p29_1 {g : pg} {t : pt} {n : Nat × Nat} (v : Int) : ol_put (pb g t, n) 6 29 1 (.inl v) = some (pb (pu g 29 1 v) t, n) := pb_put (a := 29) (ci := 6) rfl rfl v
theorem f29_2 {g : pg} {t : pt} {n : Nat × Nat} : ol_fld (pb g t, n) 6 29 2 = some (.inl (g 29 2)) := pb_fld (k := none) (a := 29) (ci := 6) rfl rfl
theorem p29_2 {g : pg} {t : pt} {n : Nat × Nat} (v : Int) : ol_put (pb g t, n) 6 29 2 (.inl v) = some (pb (pu g 29 2 v) t, n) := pb_put (a := 29) (ci := 6) rfl rfl v
theorem c29 {g : pg} {t : pt} {n : Nat × Nat} : ol_isC (pb g t, n) 29 6 = true := pb_isC (a := 29) (ci := 6) rfl
theorem f31_0 {g : pg} {t : pt} {n : Nat × Nat} : ol_fld (pb g t, n) 6 31 0 = some (.inr (.inl (some 32))) := pb_fld (k := some (some 32)) (a := 31) (ci := 6) rfl rfl
theorem f31_1 {g : pg} {t : pt} {n : Nat × Nat} : ol_fld (pb g t, n) 6 31 1 = some (.inl (g 31 1)) := pb_fld (k := none) (a := 31) (ci := 6) rfl rfl
theorem p31_1 {g : pg} {t : pt} {n : Nat × Nat} (v : Int) : ol_put (pb g t, n) 6 31 1 (.inl v) = some (pb (pu g 31 1 v) t, n) := pb_put (a := 31) (ci := 6) rfl rfl v
theorem f31_2 {g : pg} {t : pt} {n : Nat × Nat} : ol_fld (pb g t, n) 6 31 2 = some (.inl (g 31 2)) := pb_fld (k := none) (a := 31) (ci := 6) rfl rfl
theorem p31_2 {g : pg} {t : pt} {n : Nat × Nat} (v : Int) : ol_put (pb g t, n) 6 31 2 (.inl v) = some (pb (pu g 31 2 v) t, n) := pb_put (a := 31) (ci := 6) rfl rfl v
theorem c31 {g : pg} {t : pt} {n : Nat × Nat} : ol_isC (pb g t, n) 31 6 = true := pb_isC (a := 31) (ci := 6) rfl
theorem f33_0 {g : pg} {t : pt} {n : Nat × Nat} : ol_fld (pb g t, n) 3 33 0 = some (.inr (.inl (some 34))) := pb_fld (k := some (some 34)) (a := 33) (ci := 3) rfl rfl
theorem f33_1 {g : pg} {t : pt} {n : Nat × Nat} : ol_fld (pb g t, n) 3 33 1 = some (.inl (g 33 1)) := pb_fld (k := none) (a := 33) (ci := 3) rfl rfl
theorem p33_1 {g : pg} {t : pt} {n : Nat × Nat} (v : Int) : ol_put (pb g t, n) 3 33 1 (.inl v) = some (pb (pu g 33 1 v) t, n) := pb_put (a := 33) (ci := 3) rfl rfl v
theorem f33_2 {g : pg} {t : pt} {n : Nat × Nat} : ol_fld (pb g t, n) 3 33 2 = some (.inl (g 33 2)) := pb_fld (k := none) (a := 33) (ci := 3) rfl rfl
theorem p33_2 {g : pg} {t : pt} {n : Nat × Nat} (v : Int) : ol_put (pb g t, n) 3 33 2 (.inl v) = some (pb (pu g 33 2 v) t, n) := pb_put (a := 33) (ci := 3) rfl rfl v
theorem f33_3 {g : pg} {t : pt} {n : Nat × Nat} : ol_fld (pb g t, n) 3 33 3 = some (.inl (g 33 3)) := pb_fld (k := none) (a := 33) (ci := 3) rfl rfl
theorem p33_3 {g : pg} {t : pt} {n : Nat × Nat} (v : Int) : ol_put (pb g t, n) 3 33 3 (.inl v) = some (pb (pu g 33 3 v) t, n) := pb_put (a := 33) (ci := 3) rfl rfl v
theorem f33_4 {g : pg} {t : pt} {n : Nat × Nat} : ol_fld (pb g t, n) 3 33 4 = some (.inl (g 33 4)) := pb_fld (k := none) (a := 33) (ci := 3) rfl rfl
theorem p33_4 {g : pg} {t : pt} {n : Nat × Nat} (v : Int) : ol_put (pb g t, n) 3 33 4 (.inl v) = some (pb (pu g 33 4 v) t, n) := pb_put (a := 33) (ci := 3) rfl rfl v
theorem f33_5 {g : pg} {t : pt} {n : Nat × Nat} : ol_fld (pb g t, n) 3 33 5 = some (.inl (g 33 5)) := pb_fld (k := none) (a := 33) (ci := 3) rfl rfl
theorem p33_5 {g : pg} {t : pt} {n : Nat × Nat} (v : Int) : ol_put (pb g t, n) 3 33 5 (.inl v) = some (pb (pu g 33 5 v) t, n) := pb_put (a := 33) (ci := 3) rfl rfl v
theorem c33 {g : pg} {t : pt} {n : Nat × Nat} : ol_isC (pb g t, n) 33 3 = true := pb_isC (a := 33) (ci := 3) rfl
theorem f35_0 {g : pg} {t : pt} {n : Nat × Nat} : ol_fld (pb g t, n) 8 35 0 = some (.inr (.inl (some 36))) := pb_fld (k := some (some 36)) (a := 35) (ci := 8) rfl rfl
theorem f35_1 {g : pg} {t : pt} {n : Nat × Nat} : ol_fld (pb g t, n) 8 35 1 = some (.inr (.inl (some 37))) := pb_fld (k := some (some 37)) (a := 35) (ci := 8) rfl rfl
theorem f35_2 {g : pg} {t : pt} {n : Nat × Nat} : ol_fld (pb g t, n) 8 35 2 = some (.inr (.inl (some 40))) := pb_fld (k := some (some 40)) (a := 35) (ci := 8) rfl rfl
theorem f35_3 {g : pg} {t : pt} {n : Nat × Nat} : ol_fld (pb g t, n) 8 35 3 = some (.inr (.inl (some 41))) := pb_fld (k := some (some 41)) (a := 35) (ci := 8) rfl rfl
theorem f35_4 {g : pg} {t : pt} {n : Nat × Nat} : ol_fld (pb g t, n) 8 35 4 = some (.inl (g 35 4)) := pb_fld (k := none) (a := 35) (ci := 8) rfl rfl
theorem p35_4 {g : pg} {t : pt} {n : Nat × Nat} (v : Int) : ol_put (pb g t, n) 8 35 4 (.inl v) = some (pb (pu g 35 4 v) t, n) := pb_put (a := 35) (ci := 8) rfl rfl v
theorem f35_5 {g : pg} {t : pt} {n : Nat × Nat} : ol_fld (pb g t, n) 8 35 5 = some (.inl (g 35 5)) := pb_fld (k := none) (a := 35) (ci := 8) rfl rfl
theorem p35_5 {g : pg} {t : pt} {n : Nat × Nat} (v : Int) : ol_put (pb g t, n) 8 35 5 (.inl v) = some (pb (pu g 35 5 v) t, n) := pb_put (a := 35) (ci := 8) rfl rfl v
theorem f35_6 {g : pg} {t : pt} {n : Nat × Nat} : ol_fld (pb g t, n) 8 35 6 = some (.inl (g 35 6)) := pb_fld (k := none) (a := 35) (ci := 8) rfl rfl
theorem p35_6 {g : pg} {t : pt} {n : Nat × Nat} (v : Int) : ol_put (pb g t, n) 8 35 6 (.inl v) = some (pb (pu g 35 6 v) t, n) := pb_put (a := 35) (ci := 8) rfl rfl v
theorem f35_7 {g : pg} {t : pt} {n : Nat × Nat} : ol_fld (pb g t, n) 8 35 7 = some (.inl (g 35 7)) := pb_fld (k := none) (a := 35) (ci := 8) rfl rfl
theorem p35_7 {g : pg} {t : pt} {n : Nat × Nat} (v : Int) : ol_put (pb g t, n) 8 35 7 (.inl v) = some (pb (pu g 35 7 v) t, n) := pb_put (a := 35) (ci := 8) rfl rfl v
theorem c35 {g : pg} {t : pt} {n : Nat × Nat} : ol_isC (pb g t, n) 35 8 = true := pb_isC (a := 35) (ci := 8) rfl
theorem f37_0 {g : pg} {t : pt} {n : Nat × Nat} : ol_fld (pb g t, n) 1 37 0 = some (.inr (.inl (some 38))) := pb_fld (k := some (some 38)) (a := 37) (ci := 1) rfl rfl
theorem f37_1 {g : pg} {t : pt} {n : Nat × Nat} : ol_fld (pb g t, n) 1 37 1 = some (.inl (g 37 1)) := pb_fld (k := none) (a := 37) (ci := 1) rfl rfl
theorem p37_1 {g : pg} {t : pt} {n : Nat × Nat} (v : Int) : ol_put (pb g t, n) 1 37 1 (.inl v) = some (pb (pu g 37 1 v) t, n) := pb_put (a := 37) (ci := 1) rfl rfl v
theorem f37_2 {g : pg} {t : pt} {n : Nat × Nat} : ol_fld (pb g t, n) 1 37 2 = some (.inl (g 37 2)) := pb_fld (k := none) (a := 37) (ci := 1) rfl rfl
theorem p37_2 {g : pg} {t : pt} {n : Nat × Nat} (v : Int) : ol_put (pb g t, n) 1 37 2 (.inl v) = some (pb (pu g 37 2 v) t, n) := pb_put (a := 37) (ci := 1) rfl rfl v
theorem f37_3 {g : pg} {t : pt} {n : Nat × Nat} : ol_fld (pb g t, n) 1 37 3 = some (.inl (g 37 3)) := pb_fld (k := none) (a := 37) (ci := 1) rfl rfl
theorem p37_3 {g : pg} {t : pt} {n : Nat × Nat} (v : Int) : ol_put (pb g t, n) 1 37 3 (.inl v) = some (pb (pu g 37 3 v) t, n) := pb_put (a := 37) (ci := 1) rfl rfl v
theorem f37_4 {g : pg} {t : pt} {n : Nat × Nat} : ol_fld (pb g t, n) 1 37 4 = some (.inl (g 37 4)) := pb_fld (k := none) (a := 37) (ci := 1) rfl rfl
theorem p37_4 {g : pg} {t : pt} {n : Nat × Nat} (v : Int) : ol_put (pb g t, n) 1 37 4 (.inl v) = some (pb (pu g 37 4 v) t, n) := pb_put (a := 37) (ci := 1) rfl rfl v
theorem f37_5 {g : pg} {t : pt} {n : Nat × Nat} : ol_fld (pb g t, n) 1 37 5 = some (.inl (g 37 5)) := pb_fld (k := none) (a := 37) (ci := 1) rfl rfl
theorem p37_5 {g : pg} {t : pt} {n : Nat × Nat} (v : Int) : ol_put (pb g t, n) 1 37 5 (.inl v) = some (pb (pu g 37 5 v) t, n) := pb_put (a := 37) (ci := 1) rfl rfl v
theorem f37_6 {g : pg} {t : pt} {n : Nat × Nat} : ol_fld (pb g t, n) 1 37 6 = some (.inl (g 37 6)) := pb_fld (k := none) (a := 37) (ci := 1) rfl rfl
theorem p37_6 {g : pg} {t : pt} {n : Nat × Nat} (v : Int) : ol_put (pb g t, n) 1 37 6 (.inl v) = some (pb (pu g 37 6 v) t, n) := pb_put (a := 37) (ci := 1) rfl rfl v
theorem f37_7 {g : pg} {t : pt} {n : Nat × Nat} : ol_fld (pb g t, n) 1 37 7 = some (.inl (g 37 7)) := pb_fld (k := none) (a := 37) (ci := 1) rfl rfl
theorem p37_7 {g : pg} {t : pt} {n : Nat × Nat} (v : Int) : ol_put (pb g t, n) 1 37 7 (.inl v) = some (pb (pu g 37 7 v) t, n) := pb_put (a := 37) (ci := 1) rfl rfl v
theorem c37 {g : pg} {t : pt} {n : Nat × Nat} : ol_isC (pb g t, n) 37 1 = true := pb_isC (a := 37) (ci := 1) rfl
theorem f38_0 {g : pg} {t : pt} {n : Nat × Nat} : ol_fld (pb g t, n) 6 38 0 = some (.inr (.inl (some 39))) := pb_fld (k := some (some 39)) (a := 38) (ci := 6) rfl rfl
theorem f38_1 {g : pg} {t : pt} {n : Nat × Nat} : ol_fld (pb g t, n) 6 38 1 = some (.inl (g 38 1)) := pb_fld (k := none) (a := 38) (ci := 6) rfl rfl
theorem p38_1 {g : pg} {t : pt} {n : Nat × Nat} (v : Int) : ol_put (pb g t, n) 6 38 1 (.inl v) = some (pb (pu g 38 1 v) t, n) := pb_put (a := 38) (ci := 6) rfl rfl v
theorem f38_2 {g : pg} {t : pt} {n : Nat × Nat} : ol_fld (pb g t, n) 6 38 2 = some (.inl (g 38 2)) := pb_fld (k := none) (a := 38) (ci := 6) rfl rfl
theorem p38_2 {g : pg} {t : pt} {n : Nat × Nat} (v : Int) : ol_put (pb g t, n) 6 38 2 (.inl v) = some (pb (pu g 38 2 v) t, n) := pb_put (a := 38) (ci := 6) rfl rfl v
theorem c38 {g : pg} {t : pt} {n : Nat × Nat} : ol_isC (pb g t, n) 38 6 = true := pb_isC (a := 38) (ci := 6) rfl
theorem f45_0 {g : pg} {t : pt} {n : Nat × Nat} : ol_fld (pb g t, n) 5 45 0 = some (.inr (.inl (some 46))) := pb_fld (k := some (some 46)) (a := 45) (ci := 5) rfl rfl
theorem f45_1 {g : pg} {t : pt} {n : Nat × Nat} : ol_fld (pb g t, n) 5 45 1 = some (.inl (g 45 1)) := pb_fld (k := none) (a := 45) (ci := 5) rfl rfl
theorem p45_1 {g : pg} {t : pt} {n : Nat × Nat} (v : Int) : ol_put (pb g t, n) 5 45 1 (.inl v) = some (pb (pu g 45 1 v) t, n) := pb_put (a := 45) (ci := 5) rfl rfl v
theorem f45_2 {g : pg} {t : pt} {n : Nat × Nat} : ol_fld (pb g t, n) 5 45 2 = some (.inl (g 45 2)) := pb_fld (k := none) (a := 45) (ci := 5) rfl rfl
theorem p45_2 {g : pg} {t : pt} {n : Nat × Nat} (v : Int) : ol_put (pb g t, n) 5 45 2 (.inl v) = some (pb (pu g 45 2 v) t, n) := pb_put (a := 45) (ci := 5) rfl rfl v
theorem c45 {g : pg} {t : pt} {n : Nat × Nat} : ol_isC (pb g t, n) 45 5 = true := pb_isC (a := 45) (ci := 5) rfl
theorem f47_0 {g : pg} {t : pt} {n : Nat × Nat} : ol_fld (pb g t, n) 5 47 0 = some (.inr (.inl (some 48))) := pb_fld (k := some (some 48)) (a := 47) (ci := 5) rfl rfl
theorem f47_1 {g : pg} {t : pt} {n : Nat × Nat} : ol_fld (pb g t, n) 5 47 1 = some (.inl (g 47 1)) := pb_fld (k := none) (a := 47) (ci := 5) rfl rfl
theorem p47_1 {g : pg} {t : pt} {n : Nat × Nat} (v : Int) : ol_put (pb g t, n) 5 47 1 (.inl v) = some (pb (pu g 47 1 v) t, n) := pb_put (a := 47) (ci := 5) rfl rfl v
theorem f47_2 {g : pg} {t : pt} {n : Nat × Nat} : ol_fld (pb g t, n) 5 47 2 = some (.inl (g 47 2)) := pb_fld (k := none) (a := 47) (ci := 5) rfl rfl
theorem p47_2 {g : pg} {t : pt} {n : Nat × Nat} (v : Int) : ol_put (pb g t, n) 5 47 2 (.inl v) = some (pb (pu g 47 2 v) t, n) := pb_put (a := 47) (ci := 5) rfl rfl v
theorem c47 {g : pg} {t : pt} {n : Nat × Nat} : ol_isC (pb g t, n) 47 5 = true := pb_isC (a := 47) (ci := 5) rfl
theorem f49_0 {g : pg} {t : pt} {n : Nat × Nat} : ol_fld (pb g t, n) 5 49 0 = some (.inr (.inl (some 50))) := pb_fld (k := some (some 50)) (a := 49) (ci := 5) rfl rfl
theorem f49_1 {g : pg} {t : pt} {n : Nat × Nat} : ol_fld (pb g t, n) 5 49 1 = some (.inl (g 49 1)) := pb_fld (k := none) (a := 49) (ci := 5) rfl rfl
theorem p49_1 {g : pg} {t : pt} {n : Nat × Nat} (v : Int) : ol_put (pb g t, n) 5 49 1 (.inl v) = some (pb (pu g 49 1 v) t, n) := pb_put (a := 49) (ci := 5) rfl rfl v
theorem f49_2 {g : pg} {t : pt} {n : Nat × Nat} : ol_fld (pb g t, n) 5 49 2 = some (.inl (g 49 2)) := pb_fld (k := none) (a := 49) (ci := 5) rfl rfl
theorem p49_2 {g : pg} {t : pt} {n : Nat × Nat} (v : Int) : ol_put (pb g t, n) 5 49 2 (.inl v) = some (pb (pu g 49 2 v) t, n) := pb_put (a := 49) (ci := 5) rfl rfl v
theorem c49 {g : pg} {t : pt} {n : Nat × Nat} : ol_isC (pb g t, n) 49 5 = true := pb_isC (a := 49) (ci := 5) rfl
theorem f51_0 {g : pg} {t : pt} {n : Nat × Nat} : ol_fld (pb g t, n) 5 51 0 = some (.inr (.inl (some 52))) := pb_fld (k := some (some 52)) (a := 51) (ci := 5) rfl rfl
theorem f51_1 {g : pg} {t : pt} {n : Nat × Nat} : ol_fld (pb g t, n) 5 51 1 = some (.inl (g 51 1)) := pb_fld (k := none) (a := 51) (ci := 5) rfl rfl
theorem p51_1 {g : pg} {t : pt} {n : Nat × Nat} (v : Int) : ol_put (pb g t, n) 5 51 1 (.inl v) = some (pb (pu g 51 1 v) t, n) := pb_put (a := 51) (ci := 5) rfl rfl v
theorem f51_2 {g : pg} {t : pt} {n : Nat × Nat} : ol_fld (pb g t, n) 5 51 2 = some (.inl (g 51 2)) := pb_fld (k := none) (a := 51) (ci := 5) rfl rfl
theorem p51_2 {g : pg} {t : pt} {n : Nat × Nat} (v : Int) : ol_put (pb g t, n) 5 51 2 (.inl v) = some (pb (pu g 51 2 v) t, n) := pb_put (a := 51) (ci := 5) rfl rfl v
theorem c51 {g : pg} {t : pt} {n : Nat × Nat} : ol_isC (pb g t, n) 51 5 = true := pb_isC (a := 51) (ci := 5) rfl
theorem f53_0 {g : pg} {t : pt} {n : Nat × Nat} : ol_fld (pb g t, n) 0 53 0 = some (.inl (g 53 0)) := pb_fld (k := none) (a := 53) (ci := 0) rfl rfl
theorem p53_0 {g : pg} {t : pt} {n : Nat × Nat} (v : Int) : ol_put (pb g t, n) 0 53 0 (.inl v) = some (pb (pu g 53 0 v) t, n) := pb_put (a := 53) (ci := 0) rfl rfl v
theorem f53_1 {g : pg} {t : pt} {n : Nat × Nat} : ol_fld (pb g t, n) 0 53 1 = some (.inl (g 53 1)) := pb_fld (k := none) (a := 53) (ci := 0) rfl rfl
theorem p53_1 {g : pg} {t : pt} {n : Nat × Nat} (v : Int) : ol_put (pb g t, n) 0 53 1 (.inl v) = some (pb (pu g 53 1 v) t, n) := pb_put (a := 53) (ci := 0) rfl rfl v
theorem c53 {g : pg} {t : pt} {n : Nat × Nat} : ol_isC (pb g t, n) 53 0 = true := pb_isC (a := 53) (ci := 0) rfl
theorem f54_0 {g : pg} {t : pt} {n : Nat × Nat} : ol_fld (pb g t, n) 0 54 0 = some (.inl (g 54 0)) := pb_fld (k := none) (a := 54) (ci := 0) rfl rfl
theorem p54_0 {g : pg} {t : pt} {n : Nat × Nat} (v : Int) : ol_put (pb g t, n) 0 54 0 (.inl v) = some (pb (pu g 54 0 v) t, n) := pb_put (a := 54) (ci := 0) rfl rfl v
theorem f54_1 {g : pg} {t : pt} {n : Nat × Nat} : ol_fld (pb g t, n) 0 54 1 = some (.inl (g 54 1)) := pb_fld (k := none) (a := 54) (ci := 0) rfl rfl
theorem p54_1 {g : pg} {t : pt} {n : Nat × Nat} (v : Int) : ol_put (pb g t, n) 0 54 1 (.inl v) = some (pb (pu g 54 1 v) t, n) := pb_put (a := 54) (ci := 0) rfl rfl v
theorem c54 {g : pg} {t : pt} {n : Nat × Nat} : ol_isC (pb g t, n) 54 0 = true := pb_isC (a := 54) (ci := 0) rfl
theorem f55_0 {g : pg} {t : pt} {n : Nat × Nat} : ol_fld (pb g t, n) 0 55 0 = some (.inl (g 55 0)) := pb_fld (k := none) (a := 55) (ci := 0) rfl rfl
theorem p55_0 {g : pg} {t : pt} {n : Nat × Nat} (v : Int) : ol_put (pb g t, n) 0 55 0 (.inl v) = some (pb (pu g 55 0 v) t, n) := pb_put (a := 55) (ci := 0) rfl rfl v
theorem f55_1 {g : pg} {t : pt} {n : Nat × Nat} : ol_fld (pb g t, n) 0 55 1 = some (.inl (g 55 1)) := pb_fld (k := none) (a := 55) (ci := 0) rfl rfl
theorem p55_1 {g : pg} {t : pt} {n : Nat × Nat} (v : Int) : ol_put (pb g t, n) 0 55 1 (.inl v) = some (pb (pu g 55 1 v) t, n) := pb_put (a := 55) (ci := 0) rfl rfl v
theorem c55 {g : pg} {t : pt} {n : Nat × Nat} : ol_isC (pb g t, n) 55 0 = true := pb_isC (a := 55) (ci := 0) rfl
theorem f56_0 {g : pg} {t : pt} {n : Nat × Nat} : ol_fld (pb g t, n) 0 56 0 = some (.inl (g 56 0)) := pb_fld (k := none) (a := 56) (ci := 0) rfl rfl
theorem p56_0 {g : pg} {t : pt} {n : Nat × Nat} (v : Int) : ol_put (pb g t, n) 0 56 0 (.inl v) = some (pb (pu g 56 0 v) t, n) := pb_put (a := 56) (ci := 0) rfl rfl v
theorem f56_1 {g : pg} {t : pt} {n : Nat × Nat} : ol_fld (pb g t, n) 0 56 1 = some (.inl (g 56 1)) := pb_fld (k := none) (a := 56) (ci := 0) rfl rfl
theorem p56_1 {g : pg} {t : pt} {n : Nat × Nat} (v : Int) : ol_put (pb g t, n) 0 56 1 (.inl v) = some (pb (pu g 56 1 v) t, n) := pb_put (a := 56) (ci := 0) rfl rfl v
theorem c56 {g : pg} {t : pt} {n : Nat × Nat} : ol_isC (pb g t, n) 56 0 = true := pb_isC (a := 56) (ci := 0) rfl
theorem f57_0 {g : pg} {t : pt} {n : Nat × Nat} : ol_fld (pb g t, n) 0 57 0 = some (.inl (g 57 0)) := pb_fld (k := none) (a := 57) (ci := 0) rfl rfl
theorem p57_0 {g : pg} {t : pt} {n : Nat × Nat} (v : Int) : ol_put (pb g t, n) 0 57 0 (.inl v) = some (pb (pu g 57 0 v) t, n) := pb_put (a := 57) (ci := 0) rfl rfl v
theorem f57_1 {g : pg} {t : pt} {n : Nat × Nat} : ol_fld (pb g t, n) 0 57 1 = some (.inl (g 57 1)) := pb_fld (k := none) (a := 57) (ci := 0) rfl rfl
theorem p57_1 {g : pg} {t : pt} {n : Nat × Nat} (v : Int) : ol_put (pb g t, n) 0 57 1 (.inl v) = some (pb (pu g 57 1 v) t, n) := pb_put (a := 57) (ci := 0) rfl rfl v
theorem c57 {g : pg} {t : pt} {n : Nat × Nat} : ol_isC (pb g t, n) 57 0 = true := pb_isC (a := 57) (ci := 0) rfl
theorem f58_0 {g : pg} {t : pt} {n : Nat × Nat} : ol_fld (pb g t, n) 0 58 0 = some (.inl (g 58 0)) := pb_fld (k := none) (a := 58) (ci := 0) rfl rfl
theorem p58_0 {g : pg} {t : pt} {n : Nat × Nat} (v : Int) : ol_put (pb g t, n) 0 58 0 (.inl v) = some (pb (pu g 58 0 v) t, n) := pb_put (a := 58) (ci := 0) rfl rfl v
theorem f58_1 {g : pg} {t : pt} {n : Nat × Nat} : ol_fld (pb g t, n) 0 58 1 = some (.inl (g 58 1)) := pb_fld (k := none) (a := 58) (ci := 0) rfl rfl
theorem p58_1 {g : pg} {t : pt} {n : Nat × Nat} (v : Int) : ol_put (pb g t, n) 0 58 1 (.inl v) = some (pb (pu g 58 1 v) t, n) := pb_put (a := 58) (ci := 0) rfl rfl v
theorem c58 {g : pg} {t : pt} {n : Nat × Nat} : ol_isC (pb g t, n) 58 0 = true := pb_isC (a := 58) (ci := 0) rfl
theorem f59_0 {g : pg} {t : pt} {n : Nat × Nat} : ol_fld (pb g t, n) 2 59 0 = some (.inr (.inl (some 60))) := pb_fld (k := some (some 60)) (a := 59) (ci := 2) rfl rfl
theorem f59_1 {g : pg} {t : pt} {n : Nat × Nat} : ol_fld (pb g t, n) 2 59 1 = some (.inr (.inl (some 62))) := pb_fld (k := some (some 62)) (a := 59) (ci := 2) rfl rfl
theorem f59_2 {g : pg} {t : pt} {n : Nat × Nat} : ol_fld (pb g t, n) 2 59 2 = some (.inl (g 59 2)) := pb_fld (k := none) (a := 59) (ci := 2) rfl rfl
theorem p59_2 {g : pg} {t : pt} {n : Nat × Nat} (v : Int) : ol_put (pb g t, n) 2 59 2 (.inl v) = some (pb (pu g 59 2 v) t, n) := pb_put (a := 59) (ci := 2) rfl rfl v
theorem c59 {g : pg} {t : pt} {n : Nat × Nat} : ol_isC (pb g t, n) 59 2 = true := pb_isC (a := 59) (ci := 2) rfl
theorem f60_0 {g : pg} {t : pt} {n : Nat × Nat} : ol_fld (pb g t, n) 4 60 0 = some (.inr (.inl (some 61))) := pb_fld (k := some (some 61)) (a := 60) (ci := 4) rfl rfl
theorem c60 {g : pg} {t : pt} {n : Nat × Nat} : ol_isC (pb g t, n) 60 4 = true := pb_isC (a := 60) (ci := 4) rfl
theorem f63_0 {g : pg} {t : pt} {n : Nat × Nat} : ol_fld (pb g t, n) 9 63 0 = some (.inl (g 63 0)) := pb_fld (k := none) (a := 63) (ci := 9) rfl rfl
theorem p63_0 {g : pg} {t : pt} {n : Nat × Nat} (v : Int) : ol_put (pb g t, n) 9 63 0 (.inl v) = some (pb (pu g 63 0 v) t, n) := pb_put (a := 63) (ci := 9) rfl rfl v
theorem f63_1 {g : pg} {t : pt} {n : Nat × Nat} : ol_fld (pb g t, n) 9 63 1 = some (.inl (g 63 1)) := pb_fld (k := none) (a := 63) (ci := 9) rfl rfl
theorem p63_1 {g : pg} {t : pt} {n : Nat × Nat} (v : Int) : ol_put (pb g t, n) 9 63 1 (.inl v) = some (pb (pu g 63 1 v) t, n) := pb_put (a := 63) (ci := 9) rfl rfl v
theorem f63_2 {g : pg} {t : pt} {n : Nat × Nat} : ol_fld (pb g t, n) 9 63 2 = some (.inl (g 63 2)) := pb_fld (k := none) (a := 63) (ci := 9) rfl rfl
theorem p63_2 {g : pg} {t : pt} {n : Nat × Nat} (v : Int) : ol_put (pb g t, n) 9 63 2 (.inl v) = some (pb (pu g 63 2 v) t, n) := pb_put (a := 63) (ci := 9) rfl rfl v
theorem f63_3 {g : pg} {t : pt} {n : Nat × Nat} : ol_fld (pb g t, n) 9 63 3 = some (.inl (g 63 3)) := pb_fld (k := none) (a := 63) (ci := 9) rfl rfl
theorem p63_3 {g : pg} {t : pt} {n : Nat × Nat} (v : Int) : ol_put (pb g t, n) 9 63 3 (.inl v) = some (pb (pu g 63 3 v) t, n) := pb_put (a := 63) (ci := 9) rfl rfl v
theorem f63_4 {g : pg} {t : pt} {n : Nat × Nat} : ol_fld (pb g t, n) 9 63 4 = some (.inl (g 63 4)) := pb_fld (k := none) (a := 63) (ci := 9) rfl rfl
theorem p63_4 {g : pg} {t : pt} {n : Nat × Nat} (v : Int) : ol_put (pb g t, n) 9 63 4 (.inl v) = some (pb (pu g 63 4 v) t, n) := pb_put (a := 63) (ci := 9) rfl rfl v
theorem f63_5 {g : pg} {t : pt} {n : Nat × Nat} : ol_fld (pb g t, n) 9 63 5 = some (.inl (g 63 5)) := pb_fld (k := none) (a := 63) (ci := 9) rfl rfl
theorem p63_5 {g : pg} {t : pt} {n : Nat × Nat} (v : Int) : ol_put (pb g t, n) 9 63 5 (.inl v) = some (pb (pu g 63 5 v) t, n) := pb_put (a := 63) (ci := 9) rfl rfl v
theorem c63 {g : pg} {t : pt} {n : Nat × Nat} : ol_isC (pb g t, n) 63 9 = true := pb_isC (a := 63) (ci := 9) rfl
theorem f64_0 {g : pg} {t : pt} {n : Nat × Nat} : ol_fld (pb g t, n) 9 64 0 = some (.inl (g 64 0)) := pb_fld (k := none) (a := 64) (ci := 9) rfl rfl
theorem p64_0 {g : pg} {t : pt} {n : Nat × Nat} (v : Int) : ol_put (pb g t, n) 9 64 0 (.inl v) = some (pb (pu g 64 0 v) t, n) := pb_put (a := 64) (ci := 9) rfl rfl v
theorem f64_1 {g : pg} {t : pt} {n : Nat × Nat} : ol_fld (pb g t, n) 9 64 1 = some (.inl (g 64 1)) := pb_fld (k := none) (a := 64) (ci := 9) rfl rfl
theorem p64_1 {g : pg} {t : pt} {n : Nat × Nat} (v : Int) : ol_put (pb g t, n) 9 64 1 (.inl v) = some (pb (pu g 64 1 v) t, n) := pb_put (a := 64) (ci := 9) rfl rfl v
theorem f64_2 {g : pg} {t : pt} {n : Nat × Nat} : ol_fld (pb g t, n) 9 64 2 = some (.inl (g 64 2)) := pb_fld (k := none) (a := 64) (ci := 9) rfl rfl
theorem p64_2 {g : pg} {t : pt} {n : Nat × Nat} (v : Int) : ol_put (pb g t, n) 9 64 2 (.inl v) = some (pb (pu g 64 2 v) t, n) := pb_put (a := 64) (ci := 9) rfl rfl v
theorem f64_3 {g : pg} {t : pt} {n : Nat × Nat} : ol_fld (pb g t, n) 9 64 3 = some (.inl (g 64 3)) := pb_fld (k := none) (a := 64) (ci := 9) rfl rfl
theorem p64_3 {g : pg} {t : pt} {n : Nat × Nat} (v : Int) : ol_put (pb g t, n) 9 64 3 (.inl v) = some (pb (pu g 64 3 v) t, n) := pb_put (a := 64) (ci := 9) rfl rfl v
theorem f64_4 {g : pg} {t : pt} {n : Nat × Nat} : ol_fld (pb g t, n) 9 64 4 = some (.inl (g 64 4)) := pb_fld (k := none) (a := 64) (ci := 9) rfl rfl
theorem p64_4 {g : pg} {t : pt} {n : Nat × Nat} (v : Int) : ol_put (pb g t, n) 9 64 4 (.inl v) = some (pb (pu g 64 4 v) t, n) := pb_put (a := 64) (ci := 9) rfl rfl v
theorem f64_5 {g : pg} {t : pt} {n : Nat × Nat} : ol_fld (pb g t, n) 9 64 5 = some (.inl (g 64 5)) := pb_fld (k := none) (a := 64) (ci := 9) rfl rfl
theorem p64_5 {g : pg} {t : pt} {n : Nat × Nat} (v : Int) : ol_put (pb g t, n) 9 64 5 (.inl v) = some (pb (pu g 64 5 v) t, n) := pb_put (a := 64) (ci := 9) rfl rfl v
theorem c64 {g : pg} {t : pt} {n : Nat × Nat} : ol_isC (pb g t, n) 64 9 = true := pb_isC (a := 64) (ci := 9) rfl
theorem f65_0 {g : pg} {t : pt} {n : Nat × Nat} : ol_fld (pb g t, n) 9 65 0 = some (.inl (g 65 0)) := pb_fld (k := none) (a := 65) (ci := 9) rfl rfl
theorem p65_0 {g : pg} {t : pt} {n : Nat × Nat} (v : Int) : ol_put (pb g t, n) 9 65 0 (.inl v) = some (pb (pu g 65 0 v) t, n) := pb_put (a := 65) (ci := 9) rfl rfl v
theorem f65_1 {g : pg} {t : pt} {n : Nat × Nat} : ol_fld (pb g t, n) 9 65 1 = some (.inl (g 65 1)) := pb_fld (k := none) (a := 65) (ci := 9) rfl rfl
theorem p65_1 {g : pg} {t : pt} {n : Nat × Nat} (v : Int) : ol_put (pb g t, n) 9 65 1 (.inl v) = some (pb (pu g 65 1 v) t, n) := pb_put (a := 65) (ci := 9) rfl rfl v
theorem f65_2 {g : pg} {t : pt} {n : Nat × Nat} : ol_fld (pb g t, n) 9 65 2 = some (.inl (g 65 2)) := pb_fld (k := none) (a := 65) (ci := 9) rfl rfl
theorem p65_2 {g : pg} {t : pt} {n : Nat × Nat} (v : Int) : ol_put (pb g t, n) 9 65 2 (.inl v) = some (pb (pu g 65 2 v) t, n) := pb_put (a := 65) (ci := 9) rfl rfl v
theorem f65_3 {g : pg} {t : pt} {n : Nat × Nat} : ol_fld (pb g t, n) 9 65 3 = some (.inl (g 65 3)) := pb_fld (k := none) (a := 65) (ci := 9) rfl rfl
theorem p65_3 {g : pg} {t : pt} {n : Nat × Nat} (v : Int) : ol_put (pb g t, n) 9 65 3 (.inl v) = some (pb (pu g 65 3 v) t, n) := pb_put (a := 65) (ci := 9) rfl rfl v
theorem f65_4 {g : pg} {t : pt} {n : Nat × Nat} : ol_fld (pb g t, n) 9 65 4 = some (.inl (g 65 4)) := pb_fld (k := none) (a := 65) (ci := 9) rfl rfl
theorem p65_4 {g : pg} {t : pt} {n : Nat × Nat} (v : Int) : ol_put (pb g t, n) 9 65 4 (.inl v) = some (pb (pu g 65 4 v) t, n) := pb_put (a := 65) (ci := 9) rfl rfl v
theorem f65_5 {g : pg} {t : pt} {n : Nat × Nat} : ol_fld (pb g t, n) 9 65 5 = some (.inl (g 65 5)) := pb_fld (k := none) (a := 65) (ci := 9) rfl rfl
theorem p65_5 {g : pg} {t : pt} {n : Nat × Nat} (v : Int) : ol_put (pb g t, n) 9 65 5 (.inl v) = some (pb (pu g 65 5 v) t, n) := pb_put (a := 65) (ci := 9) rfl rfl v
theorem c65 {g : pg} {t : pt} {n : Nat × Nat} : ol_isC (pb g t, n) 65 9 = true := pb_isC (a := 65) (ci := 9) rfl
theorem f66_0 {g : pg} {t : pt} {n : Nat × Nat} : ol_fld (pb g t, n) 9 66 0 = some (.inl (g 66 0)) := pb_fld (k := none) (a := 66) (ci := 9) rfl rfl
theorem p66_0 {g : pg} {t : pt} {n : Nat × Nat} (v : Int) : ol_put (pb g t, n) 9 66 0 (.inl v) = some (pb (pu g 66 0 v) t, n) := pb_put (a := 66) (ci := 9) rfl rfl v
theorem f66_1 {g : pg} {t : pt} {n : Nat × Nat} : ol_fld (pb g t, n) 9 66 1 = some (.inl (g 66 1)) := pb_fld (k := none) (a := 66) (ci := 9) rfl rfl
theorem p66_1 {g : pg} {t : pt} {n : Nat × Nat} (v : Int) : ol_put (pb g t, n) 9 66 1 (.inl v) = some (pb (pu g 66 1 v) t, n) := pb_put (a := 66) (ci := 9) rfl rfl v
theorem f66_2 {g : pg} {t : pt} {n : Nat × Nat} : ol_fld (pb g t, n) 9 66 2 = some (.inl (g 66 2)) := pb_fld (k := none) (a := 66) (ci := 9) rfl rfl
theorem p66_2 {g : pg} {t : pt} {n : Nat × Nat} (v : Int) : ol_put (pb g t, n) 9 66 2 (.inl v) = some (pb (pu g 66 2 v) t, n) := pb_put (a := 66) (ci := 9) rfl rfl v
theorem f66_3 {g : pg} {t : pt} {n : Nat × Nat} : ol_fld (pb g t, n) 9 66 3 = some (.inl (g 66 3)) := pb_fld (k := none) (a := 66) (ci := 9) rfl rfl
theorem p66_3 {g : pg} {t : pt} {n : Nat × Nat} (v : Int) : ol_put (pb g t, n) 9 66 3 (.inl v) = some (pb (pu g 66 3 v) t, n) := pb_put (a := 66) (ci := 9) rfl rfl v
theorem f66_4 {g : pg} {t : pt} {n : Nat × Nat} : ol_fld (pb g t, n) 9 66 4 = some (.inl (g 66 4)) := pb_fld (k := none) (a := 66) (ci := 9) rfl rfl
theorem p66_4 {g : pg} {t : pt} {n : Nat × Nat} (v : Int) : ol_put (pb g t, n) 9 66 4 (.inl v) = some (pb (pu g 66 4 v) t, n) := pb_put (a := 66) (ci := 9) rfl rfl v
theorem f66_5 {g : pg} {t : pt} {n : Nat × Nat} : ol_fld (pb g t, n) 9 66 5 = some (.inl (g 66 5)) := pb_fld (k := none) (a := 66) (ci := 9) rfl rfl
theorem p66_5 {g : pg} {t : pt} {n : Nat × Nat} (v : Int) : ol_put (pb g t, n) 9 66 5 (.inl v) = some (pb (pu g 66 5 v) t, n) := pb_put (a := 66) (ci := 9) rfl rfl v
theorem c66 {g : pg} {t : pt} {n : Nat × Nat} : ol_isC (pb g t, n) 66 9 = true := pb_isC (a := 66) (ci := 9) rfl
theorem f67_0 {g : pg} {t : pt} {n : Nat × Nat} : ol_fld (pb g t, n) 2 67 0 = some (.inr (.inl (some 68))) := pb_fld (k := some (some 68)) (a := 67) (ci := 2) rfl rfl
theorem f67_1 {g : pg} {t : pt} {n : Nat × Nat} : ol_fld (pb g t, n) 2 67 1 = some (.inr (.inl (some 70))) := pb_fld (k := some (some 70)) (a := 67) (ci := 2) rfl rfl
theorem f67_2 {g : pg} {t : pt} {n : Nat × Nat} : ol_fld (pb g t, n) 2 67 2 = some (.inl (g 67 2)) := pb_fld (k := none) (a := 67) (ci := 2) rfl rfl
theorem p67_2 {g : pg} {t : pt} {n : Nat × Nat} (v : Int) : ol_put (pb g t, n) 2 67 2 (.inl v) = some (pb (pu g 67 2 v) t, n) := pb_put (a := 67) (ci := 2) rfl rfl v
theorem c67 {g : pg} {t : pt} {n : Nat × Nat} : ol_isC (pb g t, n) 67 2 = true := pb_isC (a := 67) (ci := 2) rfl
theorem f68_0 {g : pg} {t : pt} {n : Nat × Nat} : ol_fld (pb g t, n) 4 68 0 = some (.inr (.inl (some 69))) := pb_fld (k := some (some 69)) (a := 68) (ci := 4) rfl rfl
theorem c68 {g : pg} {t : pt} {n : Nat × Nat} : ol_isC (pb g t, n) 68 4 = true := pb_isC (a := 68) (ci := 4) rfl
theorem f71_0 {g : pg} {t : pt} {n : Nat × Nat} : ol_fld (pb g t, n) 9 71 0 = some (.inl (g 71 0)) := pb_fld (k := none) (a := 71) (ci := 9) rfl rfl
theorem p71_0 {g : pg} {t : pt} {n : Nat × Nat} (v : Int) : ol_put (pb g t, n) 9 71 0 (.inl v) = some (pb (pu g 71 0 v) t, n) := pb_put (a := 71) (ci := 9) rfl rfl v
theorem f71_1 {g : pg} {t : pt} {n : Nat × Nat} : ol_fld (pb g t, n) 9 71 1 = some (.inl (g 71 1)) := pb_fld (k := none) (a := 71) (ci := 9) rfl rfl
theorem p71_1 {g : pg} {t : pt} {n : Nat × Nat} (v : Int) : ol_put (pb g t, n) 9 71 1 (.inl v) = some (pb (pu g 71 1 v) t, n) := pb_put (a := 71) (ci := 9) rfl rfl v
theorem f71_2 {g : pg} {t : pt} {n : Nat × Nat} : ol_fld (pb g t, n) 9 71 2 = some (.inl (g 71 2)) := pb_fld (k := none) (a := 71) (ci := 9) rfl rfl
theorem p71_2 {g : pg} {t : pt} {n : Nat × Nat} (v : Int) : ol_put (pb g t, n) 9 71 2 (.inl v) = some (pb (pu g 71 2 v) t, n) := pb_put (a := 71) (ci := 9) rfl rfl v
theorem f71_3 {g : pg} {t : pt} {n : Nat × Nat} : ol_fld (pb g t, n) 9 71 3 = some (.inl (g 71 3)) := pb_fld (k := none) (a := 71) (ci := 9) rfl rfl
theorem p71_3 {g : pg} {t : pt} {n : Nat × Nat} (v : Int) : ol_put (pb g t, n) 9 71 3 (.inl v) = some (pb (pu g 71 3 v) t, n) := pb_put (a := 71) (ci := 9) rfl rfl v
theorem f71_4 {g : pg} {t : pt} {n : Nat × Nat} : ol_fld (pb g t, n) 9 71 4 = some (.inl (g 71 4)) := pb_fld (k := none) (a := 71) (ci := 9) rfl rfl
theorem p71_4 {g : pg} {t : pt} {n : Nat × Nat} (v : Int) : ol_put (pb g t, n) 9 71 4 (.inl v) = some (pb (pu g 71 4 v) t, n) := pb_put (a := 71) (ci := 9) rfl rfl v
theorem f71_5 {g : pg} {t : pt} {n : Nat × Nat} : ol_fld (pb g t, n) 9 71 5 = some (.inl (g 71 5)) := pb_fld (k := none) (a := 71) (ci := 9) rfl rfl
theorem p71_5 {g : pg} {t : pt} {n : Nat × Nat} (v : Int) : ol_put (pb g t, n) 9 71 5 (.inl v) = some (pb (pu g 71 5 v) t, n) := pb_put (a := 71) (ci := 9) rfl rfl v
theorem c71 {g : pg} {t : pt} {n : Nat × Nat} : ol_isC (pb g t, n) 71 9 = true := pb_isC (a := 71) (ci := 9) rfl
theorem f72_0 {g : pg} {t : pt} {n : Nat × Nat} : ol_fld (pb g t, n) 9 72 0 = some (.inl (g 72 0)) := pb_fld (k := none) (a := 72) (ci := 9) rfl rfl
theorem p72_0 {g : pg} {t : pt} {n : Nat × Nat} (v : Int) : ol_put (pb g t, n) 9 72 0 (.inl v) = some (pb (pu g 72 0 v) t, n) := pb_put (a := 72) (ci := 9) rfl rfl v
theorem f72_1 {g : pg} {t : pt} {n : Nat × Nat} : ol_fld (pb g t, n) 9 72 1 = some (.inl (g 72 1)) := pb_fld (k := none) (a := 72) (ci := 9) rfl rfl
theorem p72_1 {g : pg} {t : pt} {n : Nat × Nat} (v : Int) : ol_put (pb g t, n) 9 72 1 (.inl v) = some (pb (pu g 72 1 v) t, n) := pb_put (a := 72) (ci := 9) rfl rfl v
theorem f72_2 {g : pg} {t : pt} {n : Nat × Nat} : ol_fld (pb g t, n) 9 72 2 = some (.inl (g 72 2)) := pb_fld (k := none) (a := 72) (ci := 9) rfl rfl
theorem p72_2 {g : pg} {t : pt} {n : Nat × Nat} (v : Int) : ol_put (pb g t, n) 9 72 2 (.inl v) = some (pb (pu g 72 2 v) t, n) := pb_put (a := 72) (ci := 9) rfl rfl v
theorem f72_3 {g : pg} {t : pt} {n : Nat × Nat} : ol_fld (pb g t, n) 9 72 3 = some (.inl (g 72 3)) := pb_fld (k := none) (a := 72) (ci := 9) rfl rfl
theorem p72_3 {g : pg} {t : pt} {n : Nat × Nat} (v : Int) : ol_put (pb g t, n) 9 72 3 (.inl v) = some (pb (pu g 72 3 v) t, n) := pb_put (a := 72) (ci := 9) rfl rfl v
theorem f72_4 {g : pg} {t : pt} {n : Nat × Nat} : ol_fld (pb g t, n) 9 72 4 = some (.inl (g 72 4)) := pb_fld (k := none) (a := 72) (ci := 9) rfl rfl
theorem p72_4 {g : pg} {t : pt} {n : Nat × Nat} (v : Int) : ol_put (pb g t, n) 9 72 4 (.inl v) = some (pb (pu g 72 4 v) t, n) := pb_put (a := 72) (ci := 9) rfl rfl v
theorem f72_5 {g : pg} {t : pt} {n : Nat × Nat} : ol_fld (pb g t, n) 9 72 5 = some (.inl (g 72 5)) := pb_fld (k := none) (a := 72) (ci := 9) rfl rfl
theorem p72_5 {g : pg} {t : pt} {n : Nat × Nat} (v : Int) : ol_put (pb g t, n) 9 72 5 (.inl v) = some (pb (pu g 72 5 v) t, n) := pb_put (a := 72) (ci := 9) rfl rfl v
theorem c72 {g : pg} {t : pt} {n : Nat × Nat} : ol_isC (pb g t, n) 72 9 = true := pb_isC (a := 72) (ci := 9) rfl
theorem f73_0 {g : pg} {t : pt} {n : Nat × Nat} : ol_fld (pb g t, n) 9 73 0 = some (.inl (g 73 0)) := pb_fld (k := none) (a := 73) (ci := 9) rfl rfl
theorem p73_0 {g : pg} {t : pt} {n : Nat × Nat} (v : Int) : ol_put (pb g t, n) 9 73 0 (.inl v) = some (pb (pu g 73 0 v) t, n) := pb_put (a := 73) (ci := 9) rfl rfl v
theorem f73_1 {g : pg} {t : pt} {n : Nat × Nat} : ol_fld (pb g t, n) 9 73 1 = some (.inl (g 73 1)) := pb_fld (k := none) (a := 73) (ci := 9) rfl rfl
theorem p73_1 {g : pg} {t : pt} {n : Nat × Nat} (v : Int) : ol_put (pb g t, n) 9 73 1 (.inl v) = some (pb (pu g 73 1 v) t, n) := pb_put (a := 73) (ci := 9) rfl rfl v
theorem f73_2 {g : pg} {t : pt} {n : Nat × Nat} : ol_fld (pb g t, n) 9 73 2 = some (.inl (g 73 2)) := pb_fld (k := none) (a := 73) (ci := 9) rfl rfl
theorem p73_2 {g : pg} {t : pt} {n : Nat × Nat} (v : Int) : ol_put (pb g t, n) 9 73 2 (.inl v) = some (pb (pu g 73 2 v) t, n) := pb_put (a := 73) (ci := 9) rfl rfl v
theorem f73_3 {g : pg} {t : pt} {n : Nat × Nat} : ol_fld (pb g t, n) 9 73 3 = some (.inl (g 73 3)) := pb_fld (k := none) (a := 73) (ci := 9) rfl rfl
theorem p73_3 {g : pg} {t : pt} {n : Nat × Nat} (v : Int) : ol_put (pb g t, n) 9 73 3 (.inl v) = some (pb (pu g 73 3 v) t, n) := pb_put (a := 73) (ci := 9) rfl rfl v
theorem f73_4 {g : pg} {t : pt} {n : Nat × Nat} : ol_fld (pb g t, n) 9 73 4 = some (.inl (g 73 4)) := pb_fld (k := none) (a := 73) (ci := 9) rfl rfl
theorem p73_4 {g : pg} {t : pt} {n : Nat × Nat} (v : Int) : ol_put (pb g t, n) 9 73 4 (.inl v) = some (pb (pu g 73 4 v) t, n) := pb_put (a := 73) (ci := 9) rfl rfl v
theorem f73_5 {g : pg} {t : pt} {n : Nat × Nat} : ol_fld (pb g t, n) 9 73 5 = some (.inl (g 73 5)) := pb_fld (k := none) (a := 73) (ci := 9) rfl rfl
theorem p73_5 {g : pg} {t : pt} {n : Nat × Nat} (v : Int) : ol_put (pb g t, n) 9 73 5 (.inl v) = some (pb (pu g 73 5 v) t, n) := pb_put (a := 73) (ci := 9) rfl rfl v
theorem c73 {g : pg} {t : pt} {n : Nat × Nat} : ol_isC (pb g t, n) 73 9 = true := pb_isC (a := 73) (ci := 9) rfl
theorem f74_0 {g : pg} {t : pt} {n : Nat × Nat} : ol_fld (pb g t, n) 9 74 0 = some (.inl (g 74 0)) := pb_fld (k := none) (a := 74) (ci := 9) rfl rfl
theorem p74_0 {g : pg} {t : pt} {n : Nat × Nat} (v : Int) : ol_put (pb g t, n) 9 74 0 (.inl v) = some (pb (pu g 74 0 v) t, n) := pb_put (a := 74) (ci := 9) rfl rfl v
theorem f74_1 {g : pg} {t : pt} {n : Nat × Nat} : ol_fld (pb g t, n) 9 74 1 = some (.inl (g 74 1)) := pb_fld (k := none) (a := 74) (ci := 9) rfl rfl
theorem p74_1 {g : pg} {t : pt} {n : Nat × Nat} (v : Int) : ol_put (pb g t, n) 9 74 1 (.inl v) = some (pb (pu g 74 1 v) t, n) := pb_put (a := 74) (ci := 9) rfl rfl v
theorem f74_2 {g : pg} {t : pt} {n : Nat × Nat} : ol_fld (pb g t, n) 9 74 2 = some (.inl (g 74 2)) := pb_fld (k := none) (a := 74) (ci := 9) rfl rfl
theorem p74_2 {g : pg} {t : pt} {n : Nat × Nat} (v : Int) : ol_put (pb g t, n) 9 74 2 (.inl v) = some (pb (pu g 74 2 v) t, n) := pb_put (a := 74) (ci := 9) rfl rfl v
theorem f74_3 {g : pg} {t : pt} {n : Nat × Nat} : ol_fld (pb g t, n) 9 74 3 = some (.inl (g 74 3)) := pb_fld (k := none) (a := 74) (ci := 9) rfl rfl
theorem p74_3 {g : pg} {t : pt} {n : Nat × Nat} (v : Int) : ol_put (pb g t, n) 9 74 3 (.inl v) = some (pb (pu g 74 3 v) t, n) := pb_put (a := 74) (ci := 9) rfl rfl v
theorem f74_4 {g : pg} {t : pt} {n : Nat × Nat} : ol_fld (pb g t, n) 9 74 4 = some (.inl (g 74 4)) := pb_fld (k := none) (a := 74) (ci := 9) rfl rfl
theorem p74_4 {g : pg} {t : pt} {n : Nat × Nat} (v : Int) : ol_put (pb g t, n) 9 74 4 (.inl v) = some (pb (pu g 74 4 v) t, n) := pb_put (a := 74) (ci := 9) rfl rfl v
theorem f74_5 {g : pg} {t : pt} {n : Nat × Nat} : ol_fld (pb g t, n) 9 74 5 = some (.inl (g 74 5)) := pb_fld (k := none) (a := 74) (ci := 9) rfl rfl
theorem p74_5 {g : pg} {t : pt} {n : Nat × Nat} (v : Int) : ol_put (pb g t, n) 9 74 5 (.inl v) = some (pb (pu g 74 5 v) t, n) := pb_put (a := 74) (ci := 9) rfl rfl v
theorem c74 {g : pg} {t : pt} {n : Nat × Nat} : ol_isC (pb g t, n) 74 9 = true := pb_isC (a := 74) (ci := 9) rfl
theorem f75_0 {g : pg} {t : pt} {n : Nat × Nat} : ol_fld (pb g t, n) 11 75 0 = some (.inr (.inr (t 75))) := pb_fld (k := some none) (a := 75) (ci := 11) rfl rfl
theorem f75_1 {g : pg} {t : pt} {n : Nat × Nat} : ol_fld (pb g t, n) 11 75 1 = some (.inr (.inl (some 76))) := pb_fld (k := some (some 76)) (a := 75) (ci := 11) rfl rfl
theorem f75_2 {g : pg} {t : pt} {n : Nat × Nat} : ol_fld (pb g t, n) 11 75 2 = some (.inl (g 75 2)) := pb_fld (k := none) (a := 75) (ci := 11) rfl rfl
theorem p75_2 {g : pg} {t : pt} {n : Nat × Nat} (v : Int) : ol_put (pb g t, n) 11 75 2 (.inl v) = some (pb (pu g 75 2 v) t, n) := pb_put (a := 75) (ci := 11) rfl rfl v
theorem f75_3 {g : pg} {t : pt} {n : Nat × Nat} : ol_fld (pb g t, n) 11 75 3 = some (.inr (.inl (some 77))) := pb_fld (k := some (some 77)) (a := 75) (ci := 11) rfl rfl
theorem f75_4 {g : pg} {t : pt} {n : Nat × Nat} : ol_fld (pb g t, n) 11 75 4 = some (.inl (g 75 4)) := pb_fld (k := none) (a := 75) (ci := 11) rfl rfl
theorem p75_4 {g : pg} {t : pt} {n : Nat × Nat} (v : Int) : ol_put (pb g t, n) 11 75 4 (.inl v) = some (pb (pu g 75 4 v) t, n) := pb_put (a := 75) (ci := 11) rfl rfl v
theorem f75_5 {g : pg} {t : pt} {n : Nat × Nat} : ol_fld (pb g t, n) 11 75 5 = some (.inl (g 75 5)) := pb_fld (k := none) (a := 75) (ci := 11) rfl rfl
theorem p75_5 {g : pg} {t : pt} {n : Nat × Nat} (v : Int) : ol_put (pb g t, n) 11 75 5 (.inl v) = some (pb (pu g 75 5 v) t, n) := pb_put (a := 75) (ci := 11) rfl rfl v
theorem f75_6 {g : pg} {t : pt} {n : Nat × Nat} : ol_fld (pb g t, n) 11 75 6 = some (.inl (g 75 6)) := pb_fld (k := none) (a := 75) (ci := 11) rfl rfl
theorem p75_6 {g : pg} {t : pt} {n : Nat × Nat} (v : Int) : ol_put (pb g t, n) 11 75 6 (.inl v) = some (pb (pu g 75 6 v) t, n) := pb_put (a := 75) (ci := 11) rfl rfl v
theorem f75_7 {g : pg} {t : pt} {n : Nat × Nat} : ol_fld (pb g t, n) 11 75 7 = some (.inl (g 75 7)) := pb_fld (k := none) (a := 75) (ci := 11) rfl rfl
theorem p75_7 {g : pg} {t : pt} {n : Nat × Nat} (v : Int) : ol_put (pb g t, n) 11 75 7 (.inl v) = some (pb (pu g 75 7 v) t, n) := pb_put (a := 75) (ci := 11) rfl rfl v
theorem f75_8 {g : pg} {t : pt} {n : Nat × Nat} : ol_fld (pb g t, n) 11 75 8 = some (.inl (g 75 8)) := pb_fld (k := none) (a := 75) (ci := 11) rfl rfl
theorem p75_8 {g : pg} {t : pt} {n : Nat × Nat} (v : Int) : ol_put (pb g t, n) 11 75 8 (.inl v) = some (pb (pu g 75 8 v) t, n) := pb_put (a := 75) (ci := 11) rfl rfl v
theorem f75_9 {g : pg} {t : pt} {n : Nat × Nat} : ol_fld (pb g t, n) 11 75 9 = some (.inl (g 75 9)) := pb_fld (k := none) (a := 75) (ci := 11) rfl rfl
theorem p75_9 {g : pg} {t : pt} {n : Nat × Nat} (v : Int) : ol_put (pb g t, n) 11 75 9 (.inl v) = some (pb (pu g 75 9 v) t, n) := pb_put (a := 75) (ci := 11) rfl rfl v
theorem f75_10 {g : pg} {t : pt} {n : Nat × Nat} : ol_fld (pb g t, n) 11 75 10 = some (.inr (.inl (some 78))) := pb_fld (k := some (some 78)) (a := 75) (ci := 11) rfl rfl
theorem f75_11 {g : pg} {t : pt} {n : Nat × Nat} : ol_fld (pb g t, n) 11 75 11 = some (.inr (.inl (some 79))) := pb_fld (k := some (some 79)) (a := 75) (ci := 11) rfl rfl
theorem f75_12 {g : pg} {t : pt} {n : Nat × Nat} : ol_fld (pb g t, n) 11 75 12 = some (.inl (g 75 12)) := pb_fld (k := none) (a := 75) (ci := 11) rfl rfl
theorem p75_12 {g : pg} {t : pt} {n : Nat × Nat} (v : Int) : ol_put (pb g t, n) 11 75 12 (.inl v) = some (pb (pu g 75 12 v) t, n) := pb_put (a := 75) (ci := 11) rfl rfl v
theorem f75_13 {g : pg} {t : pt} {n : Nat × Nat} : ol_fld (pb g t, n) 11 75 13 = some (.inl (g 75 13)) := pb_fld (k := none) (a := 75) (ci := 11) rfl rfl
theorem p75_13 {g : pg} {t : pt} {n : Nat × Nat} (v : Int) : ol_put (pb g t, n) 11 75 13 (.inl v) = some (pb (pu g 75 13 v) t, n) := pb_put (a := 75) (ci := 11) rfl rfl v
theorem f75_14 {g : pg} {t : pt} {n : Nat × Nat} : ol_fld (pb g t, n) 11 75 14 = some (.inl (g 75 14)) := pb_fld (k := none) (a := 75) (ci := 11) rfl rfl
theorem p75_14 {g : pg} {t : pt} {n : Nat × Nat} (v : Int) : ol_put (pb g t, n) 11 75 14 (.inl v) = some (pb (pu g 75 14 v) t, n) := pb_put (a := 75) (ci := 11) rfl rfl v
theorem f75_15 {g : pg} {t : pt} {n : Nat × Nat} : ol_fld (pb g t, n) 11 75 15 = some (.inl (g 75 15)) := pb_fld (k := none) (a := 75) (ci := 11) rfl rfl
theorem p75_15 {g : pg} {t : pt} {n : Nat × Nat} (v : Int) : ol_put (pb g t, n) 11 75 15 (.inl v) = some (pb (pu g 75 15 v) t, n) := pb_put (a := 75) (ci := 11) rfl rfl v
theorem f75_16 {g : pg} {t : pt} {n : Nat × Nat} : ol_fld (pb g t, n) 11 75 16 = some (.inl (g 75 16)) := pb_fld (k := none) (a := 75) (ci := 11) rfl rfl
theorem p75_16 {g : pg} {t : pt} {n : Nat × Nat} (v : Int) : ol_put (pb g t, n) 11 75 16 (.inl v) = some (pb (pu g 75 16 v) t, n) := pb_put (a := 75) (ci := 11) rfl rfl v
theorem f75_17 {g : pg} {t : pt} {n : Nat × Nat} : ol_fld (pb g t, n) 11 75 17 = some (.inl (g 75 17)) := pb_fld (k := none) (a := 75) (ci := 11) rfl rfl
theorem p75_17 {g : pg} {t : pt} {n : Nat × Nat} (v : Int) : ol_put (pb g t, n) 11 75 17 (.inl v) = some (pb (pu g 75 17 v) t, n) := pb_put (a := 75) (ci := 11) rfl rfl v
theorem f75_18 {g : pg} {t : pt} {n : Nat × Nat} : ol_fld (pb g t, n) 11 75 18 = some (.inl (g 75 18)) := pb_fld (k := none) (a := 75) (ci := 11) rfl rfl
theorem p75_18 {g : pg} {t : pt} {n : Nat × Nat} (v : Int) : ol_put (pb g t, n) 11 75 18 (.inl v) = some (pb (pu g 75 18 v) t, n) := pb_put (a := 75) (ci := 11) rfl rfl v
theorem f75_19 {g : pg} {t : pt} {n : Nat × Nat} : ol_fld (pb g t, n) 11 75 19 = some (.inl (g 75 19)) := pb_fld (k := none) (a := 75) (ci := 11) rfl rfl
theorem p75_19 {g : pg} {t : pt} {n : Nat × Nat} (v : Int) : ol_put (pb g t, n) 11 75 19 (.inl v) = some (pb (pu g 75 19 v) t, n) := pb_put (a := 75) (ci := 11) rfl rfl v
theorem f75_20 {g : pg} {t : pt} {n : Nat × Nat} : ol_fld (pb g t, n) 11 75 20 = some (.inr (.inl (some 80))) := pb_fld (k := some (some 80)) (a := 75) (ci := 11) rfl rfl
theorem f75_21 {g : pg} {t : pt} {n : Nat × Nat} : ol_fld (pb g t, n) 11 75 21 = some (.inr (.inl (some 81))) := pb_fld (k := some (some 81)) (a := 75) (ci := 11) rfl rfl
theorem f75_22 {g : pg} {t : pt} {n : Nat × Nat} : ol_fld (pb g t, n) 11 75 22 = some (.inr (.inl (some 82))) := pb_fld (k := some (some 82)) (a := 75) (ci := 11) rfl rfl
theorem f75_23 {g : pg} {t : pt} {n : Nat × Nat} : ol_fld (pb g t, n) 11 75 23 = some (.inl (g 75 23)) := pb_fld (k := none) (a := 75) (ci := 11) rfl rfl
theorem p75_23 {g : pg} {t : pt} {n : Nat × Nat} (v : Int) : ol_put (pb g t, n) 11 75 23 (.inl v) = some (pb (pu g 75 23 v) t, n) := pb_put (a := 75) (ci := 11) rfl rfl v
theorem f75_24 {g : pg} {t : pt} {n : Nat × Nat} : ol_fld (pb g t, n) 11 75 24 = some (.inl (g 75 24)) := pb_fld (k := none) (a := 75) (ci := 11) rfl rfl
theorem p75_24 {g : pg} {t : pt} {n : Nat × Nat} (v : Int) : ol_put (pb g t, n) 11 75 24 (.inl v) = some (pb (pu g 75 24 v) t, n) := pb_put (a := 75) (ci := 11) rfl rfl v
theorem f75_25 {g : pg} {t : pt} {n : Nat × Nat} : ol_fld (pb g t, n) 11 75 25 = some (.inl (g 75 25)) := pb_fld (k := none) (a := 75) (ci := 11) rfl rfl
theorem p75_25 {g : pg} {t : pt} {n : Nat × Nat} (v : Int) : ol_put (pb g t, n) 11 75 25 (.inl v) = some (pb (pu g 75 25 v) t, n) := pb_put (a := 75) (ci := 11) rfl rfl v
theorem f75_26 {g : pg} {t : pt} {n : Nat × Nat} : ol_fld (pb g t, n) 11 75 26 = some (.inr (.inl (some 83))) := pb_fld (k := some (some 83)) (a := 75) (ci := 11) rfl rfl
theorem f75_27 {g : pg} {t : pt} {n : Nat × Nat} : ol_fld (pb g t, n) 11 75 27 = some (.inr (.inl (some 84))) := pb_fld (k := some (some 84)) (a := 75) (ci := 11) rfl rfl
theorem f75_28 {g : pg} {t : pt} {n : Nat × Nat} : ol_fld (pb g t, n) 11 75 28 = some (.inl (g 75 28)) := pb_fld (k := none) (a := 75) (ci := 11) rfl rfl
theorem p75_28 {g : pg} {t : pt} {n : Nat × Nat} (v : Int) : ol_put (pb g t, n) 11 75 28 (.inl v) = some (pb (pu g 75 28 v) t, n) := pb_put (a := 75) (ci := 11) rfl rfl v
theorem f75_29 {g : pg} {t : pt} {n : Nat × Nat} : ol_fld (pb g t, n) 11 75 29 = some (.inl (g 75 29)) := pb_fld (k := none) (a := 75) (ci := 11) rfl rfl
theorem p75_29 {g : pg} {t : pt} {n : Nat × Nat} (v : Int) : ol_put (pb g t, n) 11 75 29 (.inl v) = some (pb (pu g 75 29 v) t, n) := pb_put (a := 75) (ci := 11) rfl rfl v
theorem f75_30 {g : pg} {t : pt} {n : Nat × Nat} : ol_fld (pb g t, n) 11 75 30 = some (.inl (g 75 30)) := pb_fld (k := none) (a := 75) (ci := 11) rfl rfl
theorem p75_30 {g : pg} {t : pt} {n : Nat × Nat} (v : Int) : ol_put (pb g t, n) 11 75 30 (.inl v) = some (pb (pu g 75 30 v) t, n) := pb_put (a := 75) (ci := 11) rfl rfl v
theorem f75_31 {g : pg} {t : pt} {n : Nat × Nat} : ol_fld (pb g t, n) 11 75 31 = some (.inl (g 75 31)) := pb_fld (k := none) (a := 75) (ci := 11) rfl rfl
theorem p75_31 {g : pg} {t : pt} {n : Nat × Nat} (v : Int) : ol_put (pb g t, n) 11 75 31 (.inl v) = some (pb (pu g 75 31 v) t, n) := pb_put (a := 75) (ci := 11) rfl rfl v
theorem f75_32 {g : pg} {t : pt} {n : Nat × Nat} : ol_fld (pb g t, n) 11 75 32 = some (.inr (.inl (some 85))) := pb_fld (k := some (some 85)) (a := 75) (ci := 11) rfl rfl
theorem f75_33 {g : pg} {t : pt} {n : Nat × Nat} : ol_fld (pb g t, n) 11 75 33 = some (.inr (.inl (some 86))) := pb_fld (k := some (some 86)) (a := 75) (ci := 11) rfl rfl
theorem f75_34 {g : pg} {t : pt} {n : Nat × Nat} : ol_fld (pb g t, n) 11 75 34 = some (.inl (g 75 34)) := pb_fld (k := none) (a := 75) (ci := 11) rfl rfl
theorem p75_34 {g : pg} {t : pt} {n : Nat × Nat} (v : Int) : ol_put (pb g t, n) 11 75 34 (.inl v) = some (pb (pu g 75 34 v) t, n) := pb_put (a := 75) (ci := 11) rfl rfl v
theorem f75_35 {g : pg} {t : pt} {n : Nat × Nat} : ol_fld (pb g t, n) 11 75 35 = some (.inr (.inl (some 87))) := pb_fld (k := some (some 87)) (a := 75) (ci := 11) rfl rfl
theorem f75_36 {g : pg} {t : pt} {n : Nat × Nat} : ol_fld (pb g t, n) 11 75 36 = some (.inr (.inl (some 88))) := pb_fld (k := some (some 88)) (a := 75) (ci := 11) rfl rfl
theorem f75_37 {g : pg} {t : pt} {n : Nat × Nat} : ol_fld (pb g t, n) 11 75 37 = some (.inr (.inl (some 89))) := pb_fld (k := some (some 89)) (a := 75) (ci := 11) rfl rfl
theorem f75_38 {g : pg} {t : pt} {n : Nat × Nat} : ol_fld (pb g t, n) 11 75 38 = some (.inl (g 75 38)) := pb_fld (k := none) (a := 75) (ci := 11) rfl rfl
theorem p75_38 {g : pg} {t : pt} {n : Nat × Nat} (v : Int) : ol_put (pb g t, n) 11 75 38 (.inl v) = some (pb (pu g 75 38 v) t, n) := pb_put (a := 75) (ci := 11) rfl rfl v
theorem f75_39 {g : pg} {t : pt} {n : Nat × Nat} : ol_fld (pb g t, n) 11 75 39 = some (.inr (.inl (some 90))) := pb_fld (k := some (some 90)) (a := 75) (ci := 11) rfl rfl
theorem f75_40 {g : pg} {t : pt} {n : Nat × Nat} : ol_fld (pb g t, n) 11 75 40 = some (.inr (.inl (some 91))) := pb_fld (k := some (some 91)) (a := 75) (ci := 11) rfl rfl
theorem f75_41 {g : pg} {t : pt} {n : Nat × Nat} : ol_fld (pb g t, n) 11 75 41 = some (.inr (.inl (some 92))) := pb_fld (k := some (some 92)) (a := 75) (ci := 11) rfl rfl
theorem c75 {g : pg} {t : pt} {n : Nat × Nat} : ol_isC (pb g t, n) 75 11 = true := pb_isC (a := 75) (ci := 11) rfl
theorem a2 {g : pg} {t : pt} {n : Nat × Nat} {i : Int} (h0 : 0 ≤ i) (h1 : i < 300) : ol_arr (pb g t, n) 100 2 i = some (.inl (g 2 i.toNat)) := pb_arr (k := none) (a := 2) (ci := 100) (ks := List.replicate 300 none) rfl h0 (pb_rep h0 h1)
theorem s2 {g : pg} {t : pt} {n : Nat × Nat} {i : Int} (h0 : 0 ≤ i) (h1 : i < 300) (v : Int) : ol_ast (pb g t, n) 100 2 i (.inl v) = some (pb (pu g 2 i.toNat v) t, n) := pb_ast (a := 2) (ci := 100) (ks := List.replicate 300 none) rfl h0 (pb_rep h0 h1) v
theorem a4 {g : pg} {t : pt} {n : Nat × Nat} {i : Int} (h0 : 0 ≤ i) (h1 : i < 60) : ol_arr (pb g t, n) 100 4 i = some (.inl (g 4 i.toNat)) := pb_arr (k := none) (a := 4) (ci := 100) (ks := List.replicate 60 none) rfl h0 (pb_rep h0 h1)
theorem s4 {g : pg} {t : pt} {n : Nat × Nat} {i : Int} (h0 : 0 ≤ i) (h1 : i < 60) (v : Int) : ol_ast (pb g t, n) 100 4 i (.inl v) = some (pb (pu g 4 i.toNat v) t, n) := pb_ast (a := 4) (ci := 100) (ks := List.replicate 60 none) rfl h0 (pb_rep h0 h1) v
theorem a9 {g : pg} {t : pt} {n : Nat × Nat} {i : Int} (h0 : 0 ≤ i) (h1 : i < 780) : ol_arr (pb g t, n) 100 9 i = some (.inl (g 9 i.toNat)) := pb_arr (k := none) (a := 9) (ci := 100) (ks := List.replicate 780 none) rfl h0 (pb_rep h0 h1)
theorem s9 {g : pg} {t : pt} {n : Nat × Nat} {i : Int} (h0 : 0 ≤ i) (h1 : i < 780) (v : Int) : ol_ast (pb g t, n) 100 9 i (.inl v) = some (pb (pu g 9 i.toNat v) t, n) := pb_ast (a := 9) (ci := 100) (ks := List.replicate 780 none) rfl h0 (pb_rep h0 h1) v
theorem a17 {g : pg} {t : pt} {n : Nat × Nat} {i : Int} (h0 : 0 ≤ i) (h1 : i < 780) : ol_arr (pb g t, n) 100 17 i = some (.inl (g 17 i.toNat)) := pb_arr (k := none) (a := 17) (ci := 100) (ks := List.replicate 780 none) rfl h0 (pb_rep h0 h1)
theorem s17 {g : pg} {t : pt} {n : Nat × Nat} {i : Int} (h0 : 0 ≤ i) (h1 : i < 780) (v : Int) : ol_ast (pb g t, n) 100 17 i (.inl v) = some (pb (pu g 17 i.toNat v) t, n) := pb_ast (a := 17) (ci := 100) (ks := List.replicate 780 none) rfl h0 (pb_rep h0 h1) v
theorem a24 {g : pg} {t : pt} {n : Nat × Nat} {i : Int} (h0 : 0 ≤ i) (h1 : i < 2) : ol_arr (pb g t, n) 102 24 i = some (.inl (g 24 i.toNat)) := pb_arr (k := none) (a := 24) (ci := 102) (ks := List.replicate 2 none) rfl h0 (pb_rep h0 h1)
theorem s24 {g : pg} {t : pt} {n : Nat × Nat} {i : Int} (h0 : 0 ≤ i) (h1 : i < 2) (v : Int) : ol_ast (pb g t, n) 102 24 i (.inl v) = some (pb (pu g 24 i.toNat v) t, n) := pb_ast (a := 24) (ci := 102) (ks := List.replicate 2 none) rfl h0 (pb_rep h0 h1) v
theorem a27 {g : pg} {t : pt} {n : Nat × Nat} {i : Int} (h0 : 0 ≤ i) (h1 : i < 10) : ol_arr (pb g t, n) 100 27 i = some (.inl (g 27 i.toNat)) := pb_arr (k := none) (a := 27) (ci := 100) (ks := List.replicate 10 none) rfl h0 (pb_rep h0 h1)
theorem s27 {g : pg} {t : pt} {n : Nat × Nat} {i : Int} (h0 : 0 ≤ i) (h1 : i < 10) (v : Int) : ol_ast (pb g t, n) 100 27 i (.inl v) = some (pb (pu g 27 i.toNat v) t, n) := pb_ast (a := 27) (ci := 100) (ks := List.replicate 10 none) rfl h0 (pb_rep h0 h1) v
theorem a30 {g : pg} {t : pt} {n : Nat × Nat} {i : Int} (h0 : 0 ≤ i) (h1 : i < 10) : ol_arr (pb g t, n) 100 30 i = some (.inl (g 30 i.toNat)) := pb_arr (k := none) (a := 30) (ci := 100) (ks := List.replicate 10 none) rfl h0 (pb_rep h0 h1)
theorem s30 {g : pg} {t : pt} {n : Nat × Nat} {i : Int} (h0 : 0 ≤ i) (h1 : i < 10) (v : Int) : ol_ast (pb g t, n) 100 30 i (.inl v) = some (pb (pu g 30 i.toNat v) t, n) := pb_ast (a := 30) (ci := 100) (ks := List.replicate 10 none) rfl h0 (pb_rep h0 h1) v
theorem a32 {g : pg} {t : pt} {n : Nat × Nat} {i : Int} (h0 : 0 ≤ i) (h1 : i < 10) : ol_arr (pb g t, n) 100 32 i = some (.inl (g 32 i.toNat)) := pb_arr (k := none) (a := 32) (ci := 100) (ks := List.replicate 10 none) rfl h0 (pb_rep h0 h1)
theorem s32 {g : pg} {t : pt} {n : Nat × Nat} {i : Int} (h0 : 0 ≤ i) (h1 : i < 10) (v : Int) : ol_ast (pb g t, n) 100 32 i (.inl v) = some (pb (pu g 32 i.toNat v) t, n) := pb_ast (a := 32) (ci := 100) (ks := List.replicate 10 none) rfl h0 (pb_rep h0 h1) v
theorem a34 {g : pg} {t : pt} {n : Nat × Nat} {i : Int} (h0 : 0 ≤ i) (h1 : i < 21) : ol_arr (pb g t, n) 100 34 i = some (.inl (g 34 i.toNat)) := pb_arr (k := none) (a := 34) (ci := 100) (ks := List.replicate 21 none) rfl h0 (pb_rep h0 h1)
theorem s34 {g : pg} {t : pt} {n : Nat × Nat} {i : Int} (h0 : 0 ≤ i) (h1 : i < 21) (v : Int) : ol_ast (pb g t, n) 100 34 i (.inl v) = some (pb (pu g 34 i.toNat v) t, n) := pb_ast (a := 34) (ci := 100) (ks := List.replicate 21 none) rfl h0 (pb_rep h0 h1) v
theorem a36 {g : pg} {t : pt} {n : Nat × Nat} {i : Int} (h0 : 0 ≤ i) (h1 : i < 20) : ol_arr (pb g t, n) 100 36 i = some (.inl (g 36 i.toNat)) := pb_arr (k := none) (a := 36) (ci := 100) (ks := List.replicate 20 none) rfl h0 (pb_rep h0 h1)
theorem s36 {g : pg} {t : pt} {n : Nat × Nat} {i : Int} (h0 : 0 ≤ i) (h1 : i < 20) (v : Int) : ol_ast (pb g t, n) 100 36 i (.inl v) = some (pb (pu g 36 i.toNat v) t, n) := pb_ast (a := 36) (ci := 100) (ks := List.replicate 20 none) rfl h0 (pb_rep h0 h1) v
theorem a39 {g : pg} {t : pt} {n : Nat × Nat} {i : Int} (h0 : 0 ≤ i) (h1 : i < 10) : ol_arr (pb g t, n) 100 39 i = some (.inl (g 39 i.toNat)) := pb_arr (k := none) (a := 39) (ci := 100) (ks := List.replicate 10 none) rfl h0 (pb_rep h0 h1)
theorem s39 {g : pg} {t : pt} {n : Nat × Nat} {i : Int} (h0 : 0 ≤ i) (h1 : i < 10) (v : Int) : ol_ast (pb g t, n) 100 39 i (.inl v) = some (pb (pu g 39 i.toNat v) t, n) := pb_ast (a := 39) (ci := 100) (ks := List.replicate 10 none) rfl h0 (pb_rep h0 h1) v
theorem a40 {g : pg} {t : pt} {n : Nat × Nat} {i : Int} (h0 : 0 ≤ i) (h1 : i < 507) : ol_arr (pb g t, n) 100 40 i = some (.inl (g 40 i.toNat)) := pb_arr (k := none) (a := 40) (ci := 100) (ks := List.replicate 507 none) rfl h0 (pb_rep h0 h1)
theorem s40 {g : pg} {t : pt} {n : Nat × Nat} {i : Int} (h0 : 0 ≤ i) (h1 : i < 507) (v : Int) : ol_ast (pb g t, n) 100 40 i (.inl v) = some (pb (pu g 40 i.toNat v) t, n) := pb_ast (a := 40) (ci := 100) (ks := List.replicate 507 none) rfl h0 (pb_rep h0 h1) v
theorem a41 {g : pg} {t : pt} {n : Nat × Nat} {i : Int} (h0 : 0 ≤ i) (h1 : i < 24) : ol_arr (pb g t, n) 100 41 i = some (.inl (g 41 i.toNat)) := pb_arr (k := none) (a := 41) (ci := 100) (ks := List.replicate 24 none) rfl h0 (pb_rep h0 h1)
theorem s41 {g : pg} {t : pt} {n : Nat × Nat} {i : Int} (h0 : 0 ≤ i) (h1 : i < 24) (v : Int) : ol_ast (pb g t, n) 100 41 i (.inl v) = some (pb (pu g 41 i.toNat v) t, n) := pb_ast (a := 41) (ci := 100) (ks := List.replicate 24 none) rfl h0 (pb_rep h0 h1) v
theorem a42 {g : pg} {t : pt} {n : Nat × Nat} {i : Int} (h0 : 0 ≤ i) (h1 : i < 30) : ol_arr (pb g t, n) 100 42 i = some (.inl (g 42 i.toNat)) := pb_arr (k := none) (a := 42) (ci := 100) (ks := List.replicate 30 none) rfl h0 (pb_rep h0 h1)
theorem s42 {g : pg} {t : pt} {n : Nat × Nat} {i : Int} (h0 : 0 ≤ i) (h1 : i < 30) (v : Int) : ol_ast (pb g t, n) 100 42 i (.inl v) = some (pb (pu g 42 i.toNat v) t, n) := pb_ast (a := 42) (ci := 100) (ks := List.replicate 30 none) rfl h0 (pb_rep h0 h1) v
theorem a43 {g : pg} {t : pt} {n : Nat × Nat} {i : Int} (h0 : 0 ≤ i) (h1 : i < 4) : ol_arr (pb g t, n) 100 43 i = some (.inl (g 43 i.toNat)) := pb_arr (k := none) (a := 43) (ci := 100) (ks := List.replicate 4 none) rfl h0 (pb_rep h0 h1)
theorem s43 {g : pg} {t : pt} {n : Nat × Nat} {i : Int} (h0 : 0 ≤ i) (h1 : i < 4) (v : Int) : ol_ast (pb g t, n) 100 43 i (.inl v) = some (pb (pu g 43 i.toNat v) t, n) := pb_ast (a := 43) (ci := 100) (ks := List.replicate 4 none) rfl h0 (pb_rep h0 h1) v
theorem a44 {g : pg} {t : pt} {n : Nat × Nat} {i : Int} (h0 : 0 ≤ i) (h1 : i < 4) : ol_arr (pb g t, n) 100 44 i = some (.inl (g 44 i.toNat)) := pb_arr (k := none) (a := 44) (ci := 100) (ks := List.replicate 4 none) rfl h0 (pb_rep h0 h1)
theorem s44 {g : pg} {t : pt} {n : Nat × Nat} {i : Int} (h0 : 0 ≤ i) (h1 : i < 4) (v : Int) : ol_ast (pb g t, n) 100 44 i (.inl v) = some (pb (pu g 44 i.toNat v) t, n) := pb_ast (a := 44) (ci := 100) (ks := List.replicate 4 none) rfl h0 (pb_rep h0 h1) v
theorem a46 {g : pg} {t : pt} {n : Nat × Nat} {i : Int} (h0 : 0 ≤ i) (h1 : i < 60) : ol_arr (pb g t, n) 100 46 i = some (.inl (g 46 i.toNat)) := pb_arr (k := none) (a := 46) (ci := 100) (ks := List.replicate 60 none) rfl h0 (pb_rep h0 h1)
theorem s46 {g : pg} {t : pt} {n : Nat × Nat} {i : Int} (h0 : 0 ≤ i) (h1 : i < 60) (v : Int) : ol_ast (pb g t, n) 100 46 i (.inl v) = some (pb (pu g 46 i.toNat v) t, n) := pb_ast (a := 46) (ci := 100) (ks := List.replicate 60 none) rfl h0 (pb_rep h0 h1) v
theorem a48 {g : pg} {t : pt} {n : Nat × Nat} {i : Int} (h0 : 0 ≤ i) (h1 : i < 60) : ol_arr (pb g t, n) 100 48 i = some (.inl (g 48 i.toNat)) := pb_arr (k := none) (a := 48) (ci := 100) (ks := List.replicate 60 none) rfl h0 (pb_rep h0 h1)
theorem s48 {g : pg} {t : pt} {n : Nat × Nat} {i : Int} (h0 : 0 ≤ i) (h1 : i < 60) (v : Int) : ol_ast (pb g t, n) 100 48 i (.inl v) = some (pb (pu g 48 i.toNat v) t, n) := pb_ast (a := 48) (ci := 100) (ks := List.replicate 60 none) rfl h0 (pb_rep h0 h1) v
theorem a50 {g : pg} {t : pt} {n : Nat × Nat} {i : Int} (h0 : 0 ≤ i) (h1 : i < 60) : ol_arr (pb g t, n) 100 50 i = some (.inl (g 50 i.toNat)) := pb_arr (k := none) (a := 50) (ci := 100) (ks := List.replicate 60 none) rfl h0 (pb_rep h0 h1)
theorem s50 {g : pg} {t : pt} {n : Nat × Nat} {i : Int} (h0 : 0 ≤ i) (h1 : i < 60) (v : Int) : ol_ast (pb g t, n) 100 50 i (.inl v) = some (pb (pu g 50 i.toNat v) t, n) := pb_ast (a := 50) (ci := 100) (ks := List.replicate 60 none) rfl h0 (pb_rep h0 h1) v
theorem a52 {g : pg} {t : pt} {n : Nat × Nat} {i : Int} (h0 : 0 ≤ i) (h1 : i < 60) : ol_arr (pb g t, n) 100 52 i = some (.inl (g 52 i.toNat)) := pb_arr (k := none) (a := 52) (ci := 100) (ks := List.replicate 60 none) rfl h0 (pb_rep h0 h1)
theorem s52 {g : pg} {t : pt} {n : Nat × Nat} {i : Int} (h0 : 0 ≤ i) (h1 : i < 60) (v : Int) : ol_ast (pb g t, n) 100 52 i (.inl v) = some (pb (pu g 52 i.toNat v) t, n) := pb_ast (a := 52) (ci := 100) (ks := List.replicate 60 none) rfl h0 (pb_rep h0 h1) v
theorem a61 {g : pg} {t : pt} {n : Nat × Nat} {i : Int} (h0 : 0 ≤ i) (h1 : i < 780) : ol_arr (pb g t, n) 100 61 i = some (.inl (g 61 i.toNat)) := pb_arr (k := none) (a := 61) (ci := 100) (ks := List.replicate 780 none) rfl h0 (pb_rep h0 h1)
theorem s61 {g : pg} {t : pt} {n : Nat × Nat} {i : Int} (h0 : 0 ≤ i) (h1 : i < 780) (v : Int) : ol_ast (pb g t, n) 100 61 i (.inl v) = some (pb (pu g 61 i.toNat v) t, n) := pb_ast (a := 61) (ci := 100) (ks := List.replicate 780 none) rfl h0 (pb_rep h0 h1) v
theorem a69 {g : pg} {t : pt} {n : Nat × Nat} {i : Int} (h0 : 0 ≤ i) (h1 : i < 780) : ol_arr (pb g t, n) 100 69 i = some (.inl (g 69 i.toNat)) := pb_arr (k := none) (a := 69) (ci := 100) (ks := List.replicate 780 none) rfl h0 (pb_rep h0 h1)
theorem s69 {g : pg} {t : pt} {n : Nat × Nat} {i : Int} (h0 : 0 ≤ i) (h1 : i < 780) (v : Int) : ol_ast (pb g t, n) 100 69 i (.inl v) = some (pb (pu g 69 i.toNat v) t, n) := pb_ast (a := 69) (ci := 100) (ks := List.replicate 780 none) rfl h0 (pb_rep h0 h1) v
theorem a76 {g : pg} {t : pt} {n : Nat × Nat} {i : Int} (h0 : 0 ≤ i) (h1 : i < 300) : ol_arr (pb g t, n) 101 76 i = some (.inl (g 76 i.toNat)) := pb_arr (k := none) (a := 76) (ci := 101) (ks := List.replicate 300 none) rfl h0 (pb_rep h0 h1)
theorem s76 {g : pg} {t : pt} {n : Nat × Nat} {i : Int} (h0 : 0 ≤ i) (h1 : i < 300) (v : Int) : ol_ast (pb g t, n) 101 76 i (.inl v) = some (pb (pu g 76 i.toNat v) t, n) := pb_ast (a := 76) (ci := 101) (ks := List.replicate 300 none) rfl h0 (pb_rep h0 h1) v
theorem a77 {g : pg} {t : pt} {n : Nat × Nat} {i : Int} (h0 : 0 ≤ i) (h1 : i < 7020) : ol_arr (pb g t, n) 100 77 i = some (.inl (g 77 i.toNat)) := pb_arr (k := none) (a := 77) (ci := 100) (ks := List.replicate 7020 none) rfl h0 (pb_rep h0 h1)
theorem s77 {g : pg} {t : pt} {n : Nat × Nat} {i : Int} (h0 : 0 ≤ i) (h1 : i < 7020) (v : Int) : ol_ast (pb g t, n) 100 77 i (.inl v) = some (pb (pu g 77 i.toNat v) t, n) := pb_ast (a := 77) (ci := 100) (ks := List.replicate 7020 none) rfl h0 (pb_rep h0 h1) v
theorem a78 {g : pg} {t : pt} {n : Nat × Nat} {i : Int} (h0 : 0 ≤ i) (h1 : i < 6) : ol_arr (pb g t, n) 100 78 i = some (.inl (g 78 i.toNat)) := pb_arr (k := none) (a := 78) (ci := 100) (ks := List.replicate 6 none) rfl h0 (pb_rep h0 h1)
theorem s78 {g : pg} {t : pt} {n : Nat × Nat} {i : Int} (h0 : 0 ≤ i) (h1 : i < 6) (v : Int) : ol_ast (pb g t, n) 100 78 i (.inl v) = some (pb (pu g 78 i.toNat v) t, n) := pb_ast (a := 78) (ci := 100) (ks := List.replicate 6 none) rfl h0 (pb_rep h0 h1) v
theorem a79 {g : pg} {t : pt} {n : Nat × Nat} {i : Int} (h0 : 0 ≤ i) (h1 : i < 6) : ol_arr (pb g t, n) 100 79 i = some (.inl (g 79 i.toNat)) := pb_arr (k := none) (a := 79) (ci := 100) (ks := List.replicate 6 none) rfl h0 (pb_rep h0 h1)
theorem s79 {g : pg} {t : pt} {n : Nat × Nat} {i : Int} (h0 : 0 ≤ i) (h1 : i < 6) (v : Int) : ol_ast (pb g t, n) 100 79 i (.inl v) = some (pb (pu g 79 i.toNat v) t, n) := pb_ast (a := 79) (ci := 100) (ks := List.replicate 6 none) rfl h0 (pb_rep h0 h1) v
theorem a80 {g : pg} {t : pt} {n : Nat × Nat} {i : Int} (h0 : 0 ≤ i) (h1 : i < 10) : ol_arr (pb g t, n) 100 80 i = some (.inl (g 80 i.toNat)) := pb_arr (k := none) (a := 80) (ci := 100) (ks := List.replicate 10 none) rfl h0 (pb_rep h0 h1)
theorem s80 {g : pg} {t : pt} {n : Nat × Nat} {i : Int} (h0 : 0 ≤ i) (h1 : i < 10) (v : Int) : ol_ast (pb g t, n) 100 80 i (.inl v) = some (pb (pu g 80 i.toNat v) t, n) := pb_ast (a := 80) (ci := 100) (ks := List.replicate 10 none) rfl h0 (pb_rep h0 h1) v
theorem a81 {g : pg} {t : pt} {n : Nat × Nat} {i : Int} (h0 : 0 ≤ i) (h1 : i < 10) : ol_arr (pb g t, n) 100 81 i = some (.inl (g 81 i.toNat)) := pb_arr (k := none) (a := 81) (ci := 100) (ks := List.replicate 10 none) rfl h0 (pb_rep h0 h1)
theorem s81 {g : pg} {t : pt} {n : Nat × Nat} {i : Int} (h0 : 0 ≤ i) (h1 : i < 10) (v : Int) : ol_ast (pb g t, n) 100 81 i (.inl v) = some (pb (pu g 81 i.toNat v) t, n) := pb_ast (a := 81) (ci := 100) (ks := List.replicate 10 none) rfl h0 (pb_rep h0 h1) v
theorem a82 {g : pg} {t : pt} {n : Nat × Nat} {i : Int} (h0 : 0 ≤ i) (h1 : i < 10) : ol_arr (pb g t, n) 100 82 i = some (.inl (g 82 i.toNat)) := pb_arr (k := none) (a := 82) (ci := 100) (ks := List.replicate 10 none) rfl h0 (pb_rep h0 h1)
theorem s82 {g : pg} {t : pt} {n : Nat × Nat} {i : Int} (h0 : 0 ≤ i) (h1 : i < 10) (v : Int) : ol_ast (pb g t, n) 100 82 i (.inl v) = some (pb (pu g 82 i.toNat v) t, n) := pb_ast (a := 82) (ci := 100) (ks := List.replicate 10 none) rfl h0 (pb_rep h0 h1) v
theorem a83 {g : pg} {t : pt} {n : Nat × Nat} {i : Int} (h0 : 0 ≤ i) (h1 : i < 7) : ol_arr (pb g t, n) 100 83 i = some (.inl (g 83 i.toNat)) := pb_arr (k := none) (a := 83) (ci := 100) (ks := List.replicate 7 none) rfl h0 (pb_rep h0 h1)
theorem s83 {g : pg} {t : pt} {n : Nat × Nat} {i : Int} (h0 : 0 ≤ i) (h1 : i < 7) (v : Int) : ol_ast (pb g t, n) 100 83 i (.inl v) = some (pb (pu g 83 i.toNat v) t, n) := pb_ast (a := 83) (ci := 100) (ks := List.replicate 7 none) rfl h0 (pb_rep h0 h1) v
theorem a84 {g : pg} {t : pt} {n : Nat × Nat} {i : Int} (h0 : 0 ≤ i) (h1 : i < 24) : ol_arr (pb g t, n) 100 84 i = some (.inl (g 84 i.toNat)) := pb_arr (k := none) (a := 84) (ci := 100) (ks := List.replicate 24 none) rfl h0 (pb_rep h0 h1)
theorem s84 {g : pg} {t : pt} {n : Nat × Nat} {i : Int} (h0 : 0 ≤ i) (h1 : i < 24) (v : Int) : ol_ast (pb g t, n) 100 84 i (.inl v) = some (pb (pu g 84 i.toNat v) t, n) := pb_ast (a := 84) (ci := 100) (ks := List.replicate 24 none) rfl h0 (pb_rep h0 h1) v
theorem a85 {g : pg} {t : pt} {n : Nat × Nat} {i : Int} (h0 : 0 ≤ i) (h1 : i < 20) : ol_arr (pb g t, n) 100 85 i = some (.inl (g 85 i.toNat)) := pb_arr (k := none) (a := 85) (ci := 100) (ks := List.replicate 20 none) rfl h0 (pb_rep h0 h1)
theorem s85 {g : pg} {t : pt} {n : Nat × Nat} {i : Int} (h0 : 0 ≤ i) (h1 : i < 20) (v : Int) : ol_ast (pb g t, n) 100 85 i (.inl v) = some (pb (pu g 85 i.toNat v) t, n) := pb_ast (a := 85) (ci := 100) (ks := List.replicate 20 none) rfl h0 (pb_rep h0 h1) v
theorem a86 {g : pg} {t : pt} {n : Nat × Nat} {i : Int} (h0 : 0 ≤ i) (h1 : i < 39) : ol_arr (pb g t, n) 100 86 i = some (.inl (g 86 i.toNat)) := pb_arr (k := none) (a := 86) (ci := 100) (ks := List.replicate 39 none) rfl h0 (pb_rep h0 h1)
theorem s86 {g : pg} {t : pt} {n : Nat × Nat} {i : Int} (h0 : 0 ≤ i) (h1 : i < 39) (v : Int) : ol_ast (pb g t, n) 100 86 i (.inl v) = some (pb (pu g 86 i.toNat v) t, n) := pb_ast (a := 86) (ci := 100) (ks := List.replicate 39 none) rfl h0 (pb_rep h0 h1) v
theorem a87 {g : pg} {t : pt} {n : Nat × Nat} {i : Int} (h0 : 0 ≤ i) (h1 : i < 96) : ol_arr (pb g t, n) 100 87 i = some (.inl (g 87 i.toNat)) := pb_arr (k := none) (a := 87) (ci := 100) (ks := List.replicate 96 none) rfl h0 (pb_rep h0 h1)
theorem s87 {g : pg} {t : pt} {n : Nat × Nat} {i : Int} (h0 : 0 ≤ i) (h1 : i < 96) (v : Int) : ol_ast (pb g t, n) 100 87 i (.inl v) = some (pb (pu g 87 i.toNat v) t, n) := pb_ast (a := 87) (ci := 100) (ks := List.replicate 96 none) rfl h0 (pb_rep h0 h1) v
theorem a88 {g : pg} {t : pt} {n : Nat × Nat} {i : Int} (h0 : 0 ≤ i) (h1 : i < 2) : ol_arr (pb g t, n) 100 88 i = some (.inl (g 88 i.toNat)) := pb_arr (k := none) (a := 88) (ci := 100) (ks := List.replicate 2 none) rfl h0 (pb_rep h0 h1)
theorem s88 {g : pg} {t : pt} {n : Nat × Nat} {i : Int} (h0 : 0 ≤ i) (h1 : i < 2) (v : Int) : ol_ast (pb g t, n) 100 88 i (.inl v) = some (pb (pu g 88 i.toNat v) t, n) := pb_ast (a := 88) (ci := 100) (ks := List.replicate 2 none) rfl h0 (pb_rep h0 h1) v
theorem a89 {g : pg} {t : pt} {n : Nat × Nat} {i : Int} (h0 : 0 ≤ i) (h1 : i < 4) : ol_arr (pb g t, n) 100 89 i = some (.inl (g 89 i.toNat)) := pb_arr (k := none) (a := 89) (ci := 100) (ks := List.replicate 4 none) rfl h0 (pb_rep h0 h1)
theorem s89 {g : pg} {t : pt} {n : Nat × Nat} {i : Int} (h0 : 0 ≤ i) (h1 : i < 4) (v : Int) : ol_ast (pb g t, n) 100 89 i (.inl v) = some (pb (pu g 89 i.toNat v) t, n) := pb_ast (a := 89) (ci := 100) (ks := List.replicate 4 none) rfl h0 (pb_rep h0 h1) v
theorem a90 {g : pg} {t : pt} {n : Nat × Nat} {i : Int} (h0 : 0 ≤ i) (h1 : i < 30) : ol_arr (pb g t, n) 100 90 i = some (.inl (g 90 i.toNat)) := pb_arr (k := none) (a := 90) (ci := 100) (ks := List.replicate 30 none) rfl h0 (pb_rep h0 h1)
theorem s90 {g : pg} {t : pt} {n : Nat × Nat} {i : Int} (h0 : 0 ≤ i) (h1 : i < 30) (v : Int) : ol_ast (pb g t, n) 100 90 i (.inl v) = some (pb (pu g 90 i.toNat v) t, n) := pb_ast (a := 90) (ci := 100) (ks := List.replicate 30 none) rfl h0 (pb_rep h0 h1) v
theorem a91 {g : pg} {t : pt} {n : Nat × Nat} {i : Int} (h0 : 0 ≤ i) (h1 : i < 24) : ol_arr (pb g t, n) 100 91 i = some (.inl (g 91 i.toNat)) := pb_arr (k := none) (a := 91) (ci := 100) (ks := List.replicate 24 none) rfl h0 (pb_rep h0 h1)
theorem s91 {g : pg} {t : pt} {n : Nat × Nat} {i : Int} (h0 : 0 ≤ i) (h1 : i < 24) (v : Int) : ol_ast (pb g t, n) 100 91 i (.inl v) = some (pb (pu g 91 i.toNat v) t, n) := pb_ast (a := 91) (ci := 100) (ks := List.replicate 24 none) rfl h0 (pb_rep h0 h1) v
theorem a92 {g : pg} {t : pt} {n : Nat × Nat} {i : Int} (h0 : 0 ≤ i) (h1 : i < 2) : ol_arr (pb g t, n) 102 92 i = some (.inl (g 92 i.toNat)) := pb_arr (k := none) (a := 92) (ci := 102) (ks := List.replicate 2 none) rfl h0 (pb_rep h0 h1)
theorem s92 {g : pg} {t : pt} {n : Nat × Nat} {i : Int} (h0 : 0 ≤ i) (h1 : i < 2) (v : Int) : ol_ast (pb g t, n) 102 92 i (.inl v) = some (pb (pu g 92 i.toNat v) t, n) := pb_ast (a := 92) (ci := 102) (ks := List.replicate 2 none) rfl h0 (pb_rep h0 h1) v
theorem a10 {g : pg} {t : pt} {n : Nat × Nat} {i : Int} (h0 : 0 ≤ i) (h1 : i < 4) : ol_arr (pb g t, n) 106 10 i = some (.inr (.inl (some (11 + i.toNat)))) := aFlo (a := 7) (by simp [isFlo]) h0 h1
theorem a18 {g : pg} {t : pt} {n : Nat × Nat} {i : Int} (h0 : 0 ≤ i) (h1 : i < 4) : ol_arr (pb g t, n) 106 18 i = some (.inr (.inl (some (19 + i.toNat)))) := aFlo (a := 15) (by simp [isFlo]) h0 h1
theorem a62 {g : pg} {t : pt} {n : Nat × Nat} {i : Int} (h0 : 0 ≤ i) (h1 : i < 4) : ol_arr (pb g t, n) 106 62 i = some (.inr (.inl (some (63 + i.toNat)))) := aFlo (a := 59) (by simp [isFlo]) h0 h1
theorem a70 {g : pg} {t : pt} {n : Nat × Nat} {i : Int} (h0 : 0 ≤ i) (h1 : i < 4) : ol_arr (pb g t, n) 106 70 i = some (.inr (.inl (some (71 + i.toNat)))) := aFlo (a := 67) (by simp [isFlo]) h0 h1
