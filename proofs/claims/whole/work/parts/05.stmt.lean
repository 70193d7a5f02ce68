/-! statements -/
def ol_lset : ol_L → Nat → ol_V → ol_L
  | [], _, _ => []
  | _ :: t, 0, v => v :: t
  | .inr (.inr _) :: t, 1, v => .inr (.inl none) :: ol_lset t 0 v
  | w :: t, i + 1, v => w :: ol_lset t i v
theorem ol_lset_cons (w : ol_V) (t : ol_L) (i : Nat) (v : ol_V) : ∃ w', ol_lset (w :: t) (i + 1) v = w' :: ol_lset t i v ∧ (w' = .inr (.inl none) ∨ (w' = w ∧ ¬ (i = 0 ∧ ∃ q, w = .inr (.inr q)))) := by
  rcases w with n | r | q
  · exact ⟨_, by cases i <;> rfl, Or.inr ⟨rfl, by simp⟩⟩
  · exact ⟨_, by cases i <;> rfl, Or.inr ⟨rfl, by simp⟩⟩
  · cases i with
    | zero => exact ⟨_, rfl, Or.inl rfl⟩
    | succ i => exact ⟨_, rfl, Or.inr ⟨rfl, by simp⟩⟩
theorem ol_lset_get : ∀ (L : ol_L) (i : Nat) (v : ol_V) (j : Nat) (w : ol_V), (ol_lset L i v)[j]? = some w → w ≠ .inr (.inl none) → (j = i ∧ w = v) ∨ (j ≠ i ∧ L[j]? = some w ∧ ¬ (j + 1 = i ∧ ∃ q, w = .inr (.inr q))) := by
  intro L
  induction L with
  | nil => intro i v j w h; simp [ol_lset] at h
  | cons u t ih =>
    intro i v j w h hw
    cases i with
    | zero =>
      rw [show ol_lset (u :: t) 0 v = v :: t from rfl] at h
      cases j with
      | zero => simp at h; exact Or.inl ⟨rfl, h.symm⟩
      | succ j => simp at h; exact Or.inr ⟨by omega, by simpa using h, by omega⟩
    | succ i =>
      obtain ⟨w', e1, e2⟩ := ol_lset_cons u t i v
      rw [e1] at h
      cases j with
      | zero =>
        simp only [List.getElem?_cons_zero, Option.some.injEq] at h
        rcases e2 with e2 | ⟨e2, hn⟩
        · exact absurd (h.symm.trans e2) hw
        · subst h
          subst e2
          exact Or.inr ⟨by omega, rfl, fun hh => hn ⟨by omega, hh.2⟩⟩
      | succ j =>
        simp only [List.getElem?_cons_succ] at h
        rcases ih i v j w h hw with ⟨rfl, rfl⟩ | ⟨h1, h2, h3⟩
        · exact Or.inl ⟨rfl, rfl⟩
        · exact Or.inr ⟨by omega, by simpa using h2, fun hh => h3 ⟨by omega, hh.2⟩⟩
def ol_lp (K : ol_K) (j : Nat) : Option ol_V → Option (Nat × Value)
  | none => none
  | some (.inl n) => some (j, ol_tv K (.inl n))
  | some (.inr (.inl none)) => none
  | some (.inr (.inl (some a))) => some (j, ol_tv K (.inr (.inl (some a))))
  | some (.inr (.inr q)) => some (j, ol_tv K (.inr (.inr q)))
def ol_ll (K : ol_K) (L : ol_L) : List (Nat × Value) := (List.range L.length).filterMap (fun j => ol_lp K j L[j]?)
theorem ol_ll_mem {K : ol_K} {L : ol_L} {j : Nat} {v : ol_V} (h : L[j]? = some v) (hv : v ≠ .inr (.inl none)) : (j, ol_tv K v) ∈ ol_ll K L := by
  refine List.mem_filterMap.mpr ⟨j, List.mem_range.mpr (List.getElem?_eq_some_iff.mp h).1, ?_⟩
  rw [h]
  rcases v with n | (_ | a) | q
  · rfl
  · exact absurd rfl hv
  · rfl
  · rfl
theorem ol_ll_inv {K : ol_K} {L : ol_L} {q : Nat × Value} (h : q ∈ ol_ll K L) : ∃ v, L[q.1]? = some v ∧ v ≠ .inr (.inl none) ∧ q.2 = ol_tv K v := by
  obtain ⟨j, -, hj⟩ := List.mem_filterMap.mp h
  cases hv : L[j]? with
  | none => rw [hv] at hj; cases hj
  | some v =>
    rw [hv] at hj
    rcases v with n | (_ | a) | z
    · cases hj; exact ⟨_, hv, by simp, rfl⟩
    · cases hj
    · cases hj; exact ⟨_, hv, by simp, rfl⟩
    · cases hj; exact ⟨_, hv, by simp, rfl⟩
theorem ol_Lo.has {K : ol_K} {ls : Array Slot} {nL : Nat} {L : ol_L} (h : ol_Lo K ls nL L) : lv_has ls nL (ol_ll K L) := by
  refine ⟨h.1, h.2.1, fun q hq => ?_⟩
  obtain ⟨v, h1, h2, h3⟩ := ol_ll_inv hq
  rw [h3]
  exact (h.2.2 q.1 v h1 h2).1
theorem ol_Lo.put {K : ol_K} {ls ls' : Array Slot} {nL i : Nat} {L : ol_L} {v : ol_V} (h : ol_Lo K ls nL L) (hv : ol_rv v) (h' : lv_has ls' nL ((i, ol_tv K v) :: (ol_ll K L).filter (fun q => !(q.1 == i) && !(q.1 + 1 == i && q.2.category == 2)))) : ol_Lo K ls' nL (ol_lset L i v) := by
  refine ⟨h'.1, h'.2.1, fun j w hj hw => ?_⟩
  rcases ol_lset_get L i v j w hj hw with ⟨rfl, rfl⟩ | ⟨h1, h2, h3⟩
  · exact ⟨h'.2.2 (j, ol_tv K w) List.mem_cons_self, hv⟩
  · refine ⟨h'.2.2 (j, ol_tv K w) (List.mem_cons_of_mem _ (List.mem_filter.mpr ⟨ol_ll_mem h2 hw, ?_⟩)), (h.2.2 j w h2 hw).2⟩
    have e1 : (j == i) = false := by simpa using h1
    simp only [e1, Bool.not_false, Bool.true_and, Bool.not_eq_true', Bool.and_eq_false_iff]
    by_cases e2 : j + 1 = i
    · right
      rcases w with n | (_ | a) | q
      · rfl
      · exact absurd rfl hw
      · rfl
      · exact absurd ⟨e2, q, rfl⟩ h3
    · left
      simpa using e2
def es_skip : ol_SE := fun L h => some (none, L, h)
def es_seq (a b : ol_SE) : ol_SE := fun L h => (a L h).bind fun p => match p.1 with
  | none => b p.2.1 p.2.2
  | some r => some (some r, p.2)
def es_set (i : Nat) (e : ol_IE) : ol_SE := fun L h => (e L h).bind fun p => some (none, ol_lset L i (.inl p.1), p.2)
def es_setr (i : Nat) (e : ol_RE) : ol_SE := fun L h => (e L h).bind fun p => some (none, ol_lset L i (.inr (.inl (some p.1))), p.2)
def es_inc (i : Nat) (n : Int) : ol_SE := fun L h => (ol_int L[i]?).bind fun v => some (none, ol_lset L i (.inl (ol_w (v + n))), h)
def es_if (c : ol_CE) (a b : ol_SE) : ol_SE := fun L h => (c L h).bind fun p => if p.1 then a L p.2 else b L p.2
def ol_loop : Nat → ol_CE → ol_SE → ol_SE
  | 0, _, _ => fun _ _ => none
  | n + 1, c, b => fun L h => (c L h).bind fun p => if p.1 then (b L p.2).bind fun q => (match q.1 with
    | none => ol_loop n c b q.2.1 q.2.2
    | some r => some (some r, q.2)) else some (none, L, p.2)
def ol_fuel : Nat := 1000000
def es_wh (c : ol_CE) (b : ol_SE) : ol_SE := ol_loop ol_fuel c b
def es_ret (e : ol_IE) : ol_SE := fun L h => (e L h).bind fun p => some (some (some (.inl p.1)), L, p.2)
def es_retz (e : ol_IE) : ol_SE := fun L h => (e L h).bind fun p => if p.1 = 0 ∨ p.1 = 1 then some (some (some (.inl p.1)), L, p.2) else none
def es_retj (e : ol_JE) : ol_SE := fun L h => (e L h).bind fun p => some (some (some (.inr (.inr p.1))), L, p.2)
def es_retv : ol_SE := fun L h => some (some none, L, h)
section OLS
variable {x : ol_X} {K : ol_K} {M : ol_M} {d p p1 p2 p3 p4 pT pF pE pH pB pG : Nat}
theorem rs_skip : IM_S x K M p p es_skip := by
  intro ok L h c L' h' hf kn kr
  cases hf
  exact kn rfl
theorem rs_seq {a b : ol_SE} (ha : IM_S x K M p1 p2 a) (hb : IM_S x K M p2 p3 b) : IM_S x K M p1 p3 (es_seq a b) := by
  intro ok L h c L' h' hf kn kr
  simp only [es_seq, Option.bind_eq_some_iff] at hf
  obtain ⟨⟨c1, L1, h1⟩, e1, e2⟩ := hf
  refine ha ok L h c1 L1 h1 e1 (fun q => ?_) (fun r q => ?_)
  · subst q
    exact hb ok L1 h1 c L' h' e2 kn kr
  · subst q
    cases e2
    exact kr r rfl
theorem rs_setn {k : Fin 4} {i : Nat} {e : ol_IE} (he : IM_I x K M 0 p1 p e) (hd : decode M.1 p = .ok (.istore_n k, 1)) (hi : (k : Nat) = i) (hn : i < mn M) : IM_S x K M p1 (p + 1) (es_set i e) := by
  intro ok L h c L' h' hf kn kr
  simp only [es_set, Option.bind_eq_some_iff] at hf
  obtain ⟨⟨v, h1⟩, e1, e2⟩ := hf
  cases e2
  refine he ok L h [] v _ (Nat.le_refl _) e1 fun hv => ?_
  intro hb H locs ls hW hS hL
  exact lv_istore_n ok.1 ok.2.1 hd hi hL.has (by rw [ok.2.2.2.2.2.2.2.2.2.2.2.2.2.2.1]; exact hn) rfl (fun ls' h' => kn rfl hb H locs ls' hW hS (hL.put (v := .inl v) hv h'))
theorem rs_set {i : Nat} {e : ol_IE} (he : IM_I x K M 0 p1 p e) (hd : decode M.1 p = .ok (.istore i, 2)) (hn : i < mn M) : IM_S x K M p1 (p + 2) (es_set i e) := by
  intro ok L h c L' h' hf kn kr
  simp only [es_set, Option.bind_eq_some_iff] at hf
  obtain ⟨⟨v, h1⟩, e1, e2⟩ := hf
  cases e2
  refine he ok L h [] v _ (Nat.le_refl _) e1 fun hv => ?_
  intro hb H locs ls hW hS hL
  exact lv_istore ok.1 ok.2.1 hd hL.has (by rw [ok.2.2.2.2.2.2.2.2.2.2.2.2.2.2.1]; exact hn) rfl (fun ls' h' => kn rfl hb H locs ls' hW hS (hL.put (v := .inl v) hv h'))
theorem rs_setrn {k : Fin 4} {i : Nat} {e : ol_RE} (he : IM_R x K M 0 p1 p e) (hd : decode M.1 p = .ok (.astore_n k, 1)) (hi : (k : Nat) = i) (hn : i < mn M) : IM_S x K M p1 (p + 1) (es_setr i e) := by
  intro ok L h c L' h' hf kn kr
  simp only [es_setr, Option.bind_eq_some_iff] at hf
  obtain ⟨⟨v, h1⟩, e1, e2⟩ := hf
  cases e2
  refine he ok L h [] v _ (Nat.le_refl _) e1 ?_
  intro hb H locs ls hW hS hL
  exact lv_astore_n ok.1 ok.2.1 hd hi hL.has (by rw [ok.2.2.2.2.2.2.2.2.2.2.2.2.2.2.1]; exact hn) rfl (fun ls' h' => kn rfl hb H locs ls' hW hS (hL.put (v := .inr (.inl (some v))) trivial h'))
theorem rs_setr {i : Nat} {e : ol_RE} (he : IM_R x K M 0 p1 p e) (hd : decode M.1 p = .ok (.astore i, 2)) (hn : i < mn M) : IM_S x K M p1 (p + 2) (es_setr i e) := by
  intro ok L h c L' h' hf kn kr
  simp only [es_setr, Option.bind_eq_some_iff] at hf
  obtain ⟨⟨v, h1⟩, e1, e2⟩ := hf
  cases e2
  refine he ok L h [] v _ (Nat.le_refl _) e1 ?_
  intro hb H locs ls hW hS hL
  exact lv_astore ok.1 ok.2.1 hd hL.has (by rw [ok.2.2.2.2.2.2.2.2.2.2.2.2.2.2.1]; exact hn) rfl (fun ls' h' => kn rfl hb H locs ls' hW hS (hL.put (v := .inr (.inl (some v))) trivial h'))
theorem rs_inc {i : Nat} {n : Int} (hd : decode M.1 p = .ok (.iinc i n, 3)) (hn : i < mn M) : IM_S x K M p (p + 3) (es_inc i n) := by
  intro ok L h c L' h' hf kn kr hb H locs ls hW hS hL
  simp only [es_inc, Option.bind_eq_some_iff] at hf
  obtain ⟨v, e1, e2⟩ := hf
  cases e2
  have e1 := ol_int_inv e1
  obtain ⟨k, hk⟩ := List.getElem?_of_mem (ol_ll_mem (K := K) e1 (by simp))
  exact lv_iinc (k := k) ok.1 ok.2.1 hd hL.has hk rfl (by rw [ok.2.2.2.2.2.2.2.2.2.2.2.2.2.2.1]; exact hn) rfl (fun ls' h' => kn rfl hb H locs ls' hW hS (hL.put (v := .inl (ol_w (v + n))) (ol_w_in _) (by
    rw [← Int32.ofInt_add, ← ol_of_w] at h'
    exact h')))
theorem rs_if {c : ol_CE} {a b : ol_SE} (hc : IM_C x K M 0 p1 pT pF c) (ha : IM_S x K M pT pE a) (hb : IM_S x K M pF pE b) : IM_S x K M p1 pE (es_if c a b) := by
  intro ok L h c' L' h' hf kn kr
  simp only [es_if, Option.bind_eq_some_iff] at hf
  obtain ⟨⟨b1, h1⟩, e1, e2⟩ := hf
  refine hc ok L h [] b1 h1 (Nat.le_refl _) e1 (fun q => ?_) (fun q => ?_)
  · subst q
    exact ha ok L h1 c' L' h' e2 kn kr
  · subst q
    exact hb ok L h1 c' L' h' e2 kn kr
theorem rs_goto {a : ol_SE} {off : Int} (ha : IM_S x K M p1 p2 a) (hd : decode M.1 p2 = .ok (.goto off, 3)) (ht : (p2 : Int) + off = (p3 : Int)) : IM_S x K M p1 p3 a := by
  intro ok L h c L' h' hf kn kr
  refine ha ok L h c L' h' hf (fun q => ?_) kr
  intro hb H locs ls hW hS hL
  exact lv_goto ok.1 ok.2.1 hd ht (kn q hb H locs ls hW hS hL)
theorem rs_loop {c : ol_CE} {b : ol_SE} {off : Int} (hc : IM_C x K M 0 pH pB pE c) (hb : IM_S x K M pB pG b) (hd : decode M.1 pG = .ok (.goto off, 3)) (ht : (pG : Int) + off = (pH : Int)) : ∀ n, IM_S x K M pH pE (ol_loop n c b) := by
  intro n
  induction n with
  | zero => intro ok L h c' L' h' hf; cases hf
  | succ n ih =>
    intro ok L h c' L' h' hf kn kr
    simp only [ol_loop, Option.bind_eq_some_iff] at hf
    obtain ⟨⟨b1, h1⟩, e1, e2⟩ := hf
    refine hc ok L h [] b1 h1 (Nat.le_refl _) e1 (fun q => ?_) (fun q => ?_)
    · subst q
      simp only [if_true, Option.bind_eq_some_iff] at e2
      obtain ⟨⟨c2, L2, h2⟩, e3, e4⟩ := e2
      refine hb ok L h1 c2 L2 h2 e3 (fun q => ?_) (fun r q => ?_)
      · subst q
        have := ih ok L2 h2 c' L' h' e4 kn kr
        intro hb H locs ls hW hS hL
        exact lv_goto ok.1 ok.2.1 hd ht (this hb H locs ls hW hS hL)
      · subst q
        cases e4
        exact kr r rfl
    · subst q
      cases e2
      exact kn rfl
theorem rs_wh {c : ol_CE} {b : ol_SE} {off : Int} (hc : IM_C x K M 0 pH pB pE c) (hb : IM_S x K M pB pG b) (hd : decode M.1 pG = .ok (.goto off, 3)) (ht : (pG : Int) + off = (pH : Int)) : IM_S x K M pH pE (es_wh c b) := rs_loop hc hb hd ht _
theorem rs_ret {e : ol_IE} (he : IM_I x K M 0 p1 p e) (hr : mr M = some .int) (hd : decode M.1 p = .ok (.ireturn, 1)) : IM_S x K M p1 p2 (es_ret e) := by
  intro ok L h c L' h' hf kn kr
  simp only [es_ret, Option.bind_eq_some_iff] at hf
  obtain ⟨⟨v, h1⟩, e1, e2⟩ := hf
  cases e2
  refine he ok L h [] v _ (Nat.le_refl _) e1 fun hv => ?_
  intro hb H locs ls hW hS hL
  exact kr _ rfl (by rw [hr]; exact hv) hb H locs ls p hW hS hd
theorem rs_retz {e : ol_IE} (he : IM_I x K M 0 p1 p e) (hr : mr M = some .boolean) (hd : decode M.1 p = .ok (.ireturn, 1)) : IM_S x K M p1 p2 (es_retz e) := by
  intro ok L h c L' h' hf kn kr
  simp only [es_retz, Option.bind_eq_some_iff] at hf
  obtain ⟨⟨v, h1⟩, e1, e2⟩ := hf
  dsimp only at e2
  split at e2
  · rename_i h01
    cases e2
    refine he ok L h [] v _ (Nat.le_refl _) e1 fun hv => ?_
    intro hb H locs ls hW hS hL
    exact kr _ rfl (by rw [hr]; exact h01) hb H locs ls p hW hS hd
  · cases e2
theorem rs_retj {e : ol_JE} (he : IM_J x K M 0 p1 p e) (hr : mr M = some .long) (hd : decode M.1 p = .ok (.lreturn, 1)) : IM_S x K M p1 p2 (es_retj e) := by
  intro ok L h c L' h' hf kn kr
  simp only [es_retj, Option.bind_eq_some_iff] at hf
  obtain ⟨⟨v, h1⟩, e1, e2⟩ := hf
  cases e2
  refine he ok L h [] v _ (Nat.le_refl _) e1 ?_
  intro hb H locs ls hW hS hL
  exact kr _ rfl (by rw [hr]; trivial) hb H locs ls p hW hS hd
theorem rs_retv (hr : mr M = none) (hd : decode M.1 p = .ok (.return_, 1)) : IM_S x K M p p2 es_retv := by
  intro ok L h c L' h' hf kn kr hb H locs ls hW hS hL
  cases hf
  exact kr _ rfl (by rw [hr]; trivial) hb H locs ls p hW hS hd
end OLS
