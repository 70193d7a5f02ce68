/-! the script, as the law reads it -/
def ol_X8 (x : ol_X) (K : ol_K) (nn : Nat) (sc : Nat → Int) : Prop := ∃ ys : Nat → Int32, va_X (K.2.2.2 8) nn ys (xs x) (xs x).heap ∧ K.2.2.2 8 < (xs x).heap.size ∧ ¬ ol_A K (K.2.2.2 8) ∧ (∀ j, (ys j).toInt = sc j) ∧ nn < 2147483648
def ei_l8 (nn : Nat) (r : ol_RE) : ol_IE := fun L h => (r L h).bind fun p => if p.1 = 1000008 then some ((nn : Int), p.2) else none
def ei_s8 (nn : Nat) (sc : Nat → Int) (r : ol_RE) (e : ol_IE) : ol_IE := fun L h => (r L h).bind fun p => (e L p.2).bind fun q => if p.1 = 1000008 ∧ 0 ≤ q.1 ∧ q.1 < (nn : Int) then some (sc q.1.toNat, q.2) else none
section OLW
variable {x : ol_X} {K : ol_K} {M Mc : ol_M} {d p p1 p2 p3 nn : Nat} {sc : Nat → Int}
theorem ri_l8 {r : ol_RE} (hX : ol_X8 x K nn sc) (hr : IM_R x K M d p1 p r) (hd : decode M.1 p = .ok (.arraylength, 1)) : IM_I x K M d p1 (p + 1) (ei_l8 nn r) := by
  intro ok L h stk v h' hcs hf kk
  simp only [ei_l8, Option.bind_eq_some_iff] at hf
  obtain ⟨⟨a, h1⟩, e1, e2⟩ := hf
  dsimp only at e2
  split at e2
  case isFalse => cases e2
  rename_i ha
  cases e2
  subst ha
  refine hr ok L h stk _ _ hcs e1 ?_
  intro hb H locs ls hW hS hL
  rw [ol_adx (i := 8) rfl]
  obtain ⟨ys, g1, g2, g3, g4, g5⟩ := hX
  refine va_slen ok.1 ok.2.1 g1 g2 g3 hS hd ?_
  exact kk (by unfold ol_inR; omega) hb H locs ls hW hS hL
theorem ri_s8 {r : ol_RE} {e : ol_IE} (hX : ol_X8 x K nn sc) (hr : IM_R x K M d p1 p2 r) (he : IM_I x K M (d + 1) p2 p e) (hd : decode M.1 p = .ok (.iaload, 1)) : IM_I x K M d p1 (p + 1) (ei_s8 nn sc r e) := by
  intro ok L h stk v h' hcs hf kk
  simp only [ei_s8, Option.bind_eq_some_iff] at hf
  obtain ⟨⟨a, h1⟩, e1, ⟨j, h2⟩, e2, e3⟩ := hf
  dsimp only at e3
  split at e3
  case isFalse => cases e3
  rename_i ha
  obtain ⟨rfl, rfl⟩ := Prod.mk.inj (Option.some.inj e3)
  obtain ⟨ha, hj0, hj1⟩ := ha
  subst ha
  refine hr ok L h stk _ _ hcs e1 ?_
  refine he ok L h1 _ j _ (ol_cs1 rfl hcs) e2 fun hj => ?_
  intro hb H locs ls hW hS hL
  rw [ol_adx (i := 8) rfl]
  obtain ⟨ys, g1, g2, g3, g4, g5⟩ := hX
  refine va_sld ok.1 ok.2.1 g1 g2 g3 hS (ol_vin hj hj0 (by omega)) hd ?_
  rw [ol_nat32 hj hj0]
  have := kk (by rw [← g4]; exact ol_in32 _) hb H locs ls hW hS hL
  rw [← g4, Int32.ofInt_toInt] at this
  exact this
end OLW
