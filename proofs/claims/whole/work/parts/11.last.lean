/-! the last rules: conditions that choose, loops whose bodies jump back themselves, choices by keys, texts -/
theorem ol_inw {ws : List Cond} (is : List Nat) (h : (is.map (fun i => lw_tbl[i]?)) = ws.map some) (hg : ws.all goodWord = true) : ∀ w ∈ ws, w ∈ ol_tb := by
  intro w hw
  have h1 : some w ∈ is.map (fun i => lw_tbl[i]?) := by rw [h]; exact List.mem_map.mpr ⟨w, hw, rfl⟩
  obtain ⟨i, -, hi⟩ := List.mem_map.mp h1
  exact ol_mem i hi (List.all_eq_true.mp hg w hw)
def ec_if (c a b : ol_CE) : ol_CE := fun L h => (c L h).bind fun p => if p.1 then a L p.2 else b L p.2
def es_no : ol_SE := fun _ _ => none
def er_s (i : Nat) : ol_RE := fun _ h => some (1000003 + i, h)
section OLZ
variable {x : ol_X} {K : ol_K} {M Mc : ol_M} {d p p1 p2 p3 p4 p5 pE pT pF pD pH pB : Nat}
theorem rc_if {c a b : ol_CE} {off : Int} (hc : IM_C x K M d p1 p2 p4 c) (ha : IM_C x K M d p2 p3 pF a) (hd : decode M.1 p3 = .ok (.goto off, 3)) (ht : (p3 : Int) + off = (pT : Int)) (hb : IM_C x K M d p4 pT pF b) : IM_C x K M d p1 pT pF (ec_if c a b) := by
  intro ok L h stk v h' hcs hf kt kf
  simp only [ec_if, Option.bind_eq_some_iff] at hf
  obtain ⟨⟨b1, h1⟩, e1, e2⟩ := hf
  refine hc ok L h stk b1 h1 hcs e1 (fun q => ?_) (fun q => ?_)
  · subst q
    refine ha ok L h1 stk v h' hcs e2 (fun q => ?_) kf
    intro hB H locs ls hW hS hL
    exact lv_goto ok.1 ok.2.1 hd ht (kt q hB H locs ls hW hS hL)
  · subst q
    exact hb ok L h1 stk v h' hcs e2 kt kf
theorem rs_no : IM_S x K M p p2 es_no := by
  intro ok L h c L' h' hf
  cases hf
theorem rs_loop0 {c : ol_CE} {b : ol_SE} (hc : IM_C x K M 0 pH pB pE c) (hb : IM_S x K M pB pH b) : ∀ n, IM_S x K M pH pE (ol_loop n c b) := by
  intro n
  induction n with
  | zero => intro ok L h c' L' h' hf; cases hf
  | succ n ih =>
    intro ok L h c' L' h' hf kn kr
    simp only [ol_loop, Option.bind_eq_some_iff] at hf
    obtain ⟨⟨b1, h1⟩, e1, e2⟩ := hf
    refine hc ok L h [] b1 h1 (Nat.le_refl _) e1 (fun q => ?_) (fun q => ?_)
    · subst q
      simp only [if_true, Option.bind_eq_some_iff] at e2
      obtain ⟨⟨c2, L2, h2⟩, e3, e4⟩ := e2
      refine hb ok L h1 c2 L2 h2 e3 (fun q => ?_) (fun r q => ?_)
      · subst q
        exact ih ok L2 h2 c' L' h' e4 kn kr
      · subst q
        cases e4
        exact kr r rfl
    · subst q
      cases e2
      exact kn rfl
theorem rs_wh0 {c : ol_CE} {b : ol_SE} (hc : IM_C x K M 0 pH pB pE c) (hb : IM_S x K M pB pH b) : IM_S x K M pH pE (es_wh c b) := rs_loop0 hc hb _
theorem rs_lw {e : ol_IE} {dflt o0 o1 : Int} {len q0 q1 : Nat} {b0 b1 dd : ol_SE} (he : IM_I x K M 0 p1 p e) (hd : decode M.1 p = .ok (.lookupswitch dflt #[(0, o0), (1, o1)], len)) (h0 : (p : Int) + o0 = (q0 : Int)) (hb0 : IM_S x K M q0 pE b0) (h1 : (p : Int) + o1 = (q1 : Int)) (hb1 : IM_S x K M q1 pE b1) (ht : (p : Int) + dflt = (pD : Int)) (hD : IM_S x K M pD pE dd) : IM_S x K M p1 pE (es_sw e 0 [b0, b1] dd) := by
  intro ok L h c L' h' hf kn kr
  simp only [es_sw, Option.bind_eq_some_iff] at hf
  obtain ⟨⟨n, g1⟩, e1, e2⟩ := hf
  refine he ok L h [] n _ (Nat.le_refl _) e1 fun hn => ?_
  dsimp only at e2
  by_cases n0 : n = 0
  · subst n0
    have kk := hb0 ok L g1 c L' h' e2 kn kr
    intro hB H locs ls hW hS hL
    exact lv_lookup ok.1 ok.2.1 hd rfl (by rw [ol_toInt hn]; simp [Op.lookupswitch.offset_cons]) h0 (kk hB H locs ls hW hS hL)
  · by_cases n1 : n = 1
    · subst n1
      have kk := hb1 ok L g1 c L' h' e2 kn kr
      intro hB H locs ls hW hS hL
      exact lv_lookup ok.1 ok.2.1 hd rfl (by rw [ol_toInt hn]; simp [Op.lookupswitch.offset_cons]) h1 (kk hB H locs ls hW hS hL)
    · have e3 : dd L g1 = some (c, L', h') := by
        by_cases hlo : 0 ≤ n
        · rw [if_pos hlo] at e2
          have hg : ([b0, b1] : List ol_SE)[(n - 0).toNat]? = none := List.getElem?_eq_none (by simp; omega)
          rw [List.getD_eq_getElem?_getD, hg] at e2
          exact e2
        · rw [if_neg hlo] at e2
          exact e2
      have kk := hD ok L g1 c L' h' e3 kn kr
      intro hB H locs ls hW hS hL
      have a0 : ¬ (0 : Int) = n := fun z => n0 z.symm
      have a1 : ¬ (1 : Int) = n := fun z => n1 z.symm
      exact lv_lookup ok.1 ok.2.1 hd rfl (by rw [ol_toInt hn]; simp [Op.lookupswitch.offset_cons, Op.lookupswitch.offset_nil, a0, a1, n0, n1]) ht (kk hB H locs ls hW hS hL)
theorem rr_s {i index : Nat} {tx : String} (hi : i < 2) (hd : decode M.1 p = .ok (.ldc index, 2)) (hw : ∀ U, ol_Str K U → vk_R M.2.1 index tx (K.2.2.2 (3 + i)) U) : IM_R x K M d p (p + 2) (er_s i) := by
  intro ok L h stk v h' hcs hf kk hb H locs ls hW hS hL
  cases hf
  have had : ol_ad K (1000003 + i) = K.2.2.2 (3 + i) := by
    unfold ol_ad
    rw [if_neg (by omega), show 1000003 + i - 1000000 = 3 + i by omega]
  have := kk hb H locs ls hW hS hL
  rw [had] at this
  exact va_ldcS ok.1 ok.2.1 ok.2.2.1 (hw _ ok.2.2.2.2.2.2.2.2.2.2.2.2.2.1) hd this
end OLZ
