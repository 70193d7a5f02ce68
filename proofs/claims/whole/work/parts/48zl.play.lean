/-! rounds: what one throw does to everything -/
abbrev eT : Type := (Nat → Int) × (Nat → Nat → Int) × (Nat → Int) × Int × (Nat → Int)
noncomputable def ePn (K W : Nat → Int) (c : Nat → Int) (x : Nat → Int) : Nat := pF (K (x 3).toNat) (W (x 3).toNat) c (x 0) (x 1) (x 2) 1023
noncomputable def eTt (K : Nat → Int) (c : Nat → Int) (x : Nat → Int) : Nat → Int := tT (K (x 3).toNat) c (x 0) (x 1) (x 2) 20
noncomputable def e1 (K W : Nat → Int) (q : Nat) (S : eT) : eT := (tMk (K (S.2.1 q 3).toNat) S.1 (S.2.1 q 0) (S.2.1 q 1) (S.2.1 q 2) 20, fun t => if t = q then thS (hw (eTt K S.1 (S.2.1 q) 1) (eTt K S.1 (S.2.1 q) 2)) (S.2.1 q) else S.2.1 t, fun t => if t = q then S.2.2.1 t + (kCnt (ePn K W S.1 (S.2.1 q)) : Int) else S.2.2.1 t, S.2.2.2.1 + (kCnt (ePn K W S.1 (S.2.1 q)) : Int), fun f => if f = 7 then (ePn K W S.1 (S.2.1 q) : Int) else eTt K S.1 (S.2.1 q) f)
noncomputable def eS (K W : Nat → Int) (tu : Nat → Nat) (S0 : eT) : Nat → eT
  | 0 => S0
  | m + 1 => e1 K W (tu m) (eS K W tu S0 m)
set_option maxHeartbeats 200000 in
theorem eS_s (K W : Nat → Int) (tu : Nat → Nat) (S0 : eT) (m : Nat) : eS K W tu S0 (m + 1) = e1 K W (tu m) (eS K W tu S0 m) := rfl
def kwOk (K W : Nat → Int) : Prop := ∀ k, k < 6 → 1 ≤ K k ∧ K k ≤ 9 ∧ 5 ≤ W k ∧ W k ≤ 16
def eOk (S : eT) (m : Nat) : Prop := (∀ j, j < 780 → 0 ≤ S.1 j ∧ S.1 j ≤ 99) ∧ (∀ t, t < 4 → thOK (S.2.1 t)) ∧ (∀ t, t < 4 → 0 ≤ S.2.2.1 t ∧ S.2.2.1 t ≤ 10 * (m : Int)) ∧ 0 ≤ S.2.2.2.1 ∧ S.2.2.2.1 ≤ 10 * (m : Int)
set_option maxHeartbeats 200000 in
theorem eSh {K W : Nat → Int} (hK : kwOk K W) {S : eT} {m : Nat} (h : eOk S m) {q : Nat} (hq : q < 4) : shOk (K (S.2.1 q 3).toNat) S.1 (S.2.1 q 0) (S.2.1 q 1) (S.2.1 q 2) := by
  have ht := h.2.1 q hq
  unfold thOK thOk at ht
  have hk := hK (S.2.1 q 3).toNat (by omega)
  exact ⟨hk.1, hk.2.1, h.1, by omega, by omega, by omega, by omega, by omega, by omega⟩
set_option maxHeartbeats 200000 in
theorem e1_ok {K W : Nat → Int} (hK : kwOk K W) {S : eT} {m : Nat} (h : eOk S m) {q : Nat} (hq : q < 4) : eOk (e1 K W q S) (m + 1) := by
  have hs := eSh hK h hq
  have hc := kCnt_b (ePn K W S.1 (S.2.1 q))
  obtain ⟨h1, h2, h3, h4, h5⟩ := h
  refine ⟨fun j hj => tMk_b hs 20 (Nat.le_refl _) j hj, fun t ht => ?_, fun t ht => ?_, ?_, ?_⟩
  · show thOK (if t = q then _ else S.2.1 t)
    by_cases e : t = q
    · rw [if_pos e]; exact thS_ok (h2 q hq) (hw_b _ _)
    · rw [if_neg e]; exact h2 t ht
  · show 0 ≤ (if t = q then S.2.2.1 t + (kCnt (ePn K W S.1 (S.2.1 q)) : Int) else S.2.2.1 t) ∧ (if t = q then S.2.2.1 t + (kCnt (ePn K W S.1 (S.2.1 q)) : Int) else S.2.2.1 t) ≤ 10 * ((m + 1 : Nat) : Int)
    have := h3 t ht
    split <;> omega
  · show 0 ≤ S.2.2.2.1 + (kCnt (ePn K W S.1 (S.2.1 q)) : Int); omega
  · show S.2.2.2.1 + (kCnt (ePn K W S.1 (S.2.1 q)) : Int) ≤ 10 * ((m + 1 : Nat) : Int); omega
set_option maxHeartbeats 200000 in
theorem eS_ok {K W : Nat → Int} (hK : kwOk K W) {tu : Nat → Nat} {S0 : eT} (h0 : eOk S0 0) : ∀ m, (∀ i, i < m → tu i < 4) → eOk (eS K W tu S0 m) m := by
  intro m
  induction m with
  | zero => intro _; exact h0
  | succ m ih => intro h; exact e1_ok hK (ih fun i hi => h i (by omega)) (h m (by omega))
/-- what the class's floor at A, its pins and the delivery d hold -/
def cR (A d : Nat) (G : pg) (S : eT) (m : Nat) (g' : pg) : Prop := (∀ j, j < 780 → g' (A + 2) j = S.1 j) ∧ (∀ t f, t < 4 → f < 6 → g' (A + 4 + t) f = S.2.1 t f) ∧ (∀ t, t < 4 → g' 44 t = S.2.2.1 t) ∧ ((0 < m → ∀ f, 1 ≤ f → f ≤ 7 → g' d f = S.2.2.2.2 f) ∧ (m = 0 → ∀ x j, d ≤ x → x ≤ d + 2 → g' x j = G x j)) ∧ ∀ x j, ¬ ((x = A + 2 ∧ j < 780) ∨ (A + 4 ≤ x ∧ x ≤ A + 7) ∨ x = 44 ∨ (d ≤ x ∧ x ≤ d + 2)) → g' x j = G x j
def pyL (A : Nat) (n : Int) (d : Nat) (al : Int) (x7 x8 x9 : ol_V) : ol_L := [.inr (.inl (some A)), .inl n, .inr (.inl (some d)), .inr (.inl (some 6)), .inr (.inl (some 43)), .inr (.inl (some 44)), .inl al, x7, x8, x9]
set_option maxHeartbeats 4000000 in
 theorem play_b {A d : Nat} (hA : isFlo A) (hA1 : 7 ≤ A) (hA2 : A ≤ 15) (hd : isDel d) (hd1 : 25 ≤ d) (hd2 : d ≤ 28) {G : pg} {t : pt} {K W : Nat → Int} (hK : kwOk K W) (eK : ∀ k, k < 6 → G (53 + k) 0 = K k ∧ G (53 + k) 1 = W k) {S : eT} {m : Nat} (hm : m < 100) (hS : eOk S m) {g' : pg} (hR : cR A d G S m g') {k q : Nat} (hk : k < 4) (hq : q < 4) (e43 : G 43 k = (q : Int)) (n : Int) (z7 : Int) (x9 : ol_V) : ∃ g'' y9, wX2_playRounds_2b (pyL A n d S.2.2.2.1 (.inl z7) (.inl (k : Int)) x9) (pb g' t, 0, 0) = some (none, pyL A n d (e1 K W q S).2.2.2.1 (.inl z7) (.inl ((k + 1 : Nat) : Int)) y9, (pb g'' t, 0, 0)) ∧ cR A d G (e1 K W q S) (m + 1) g'' := by
  obtain ⟨r1, r2, r3, r4, r5⟩ := hR
  have hsh := eSh hK hS hq
  obtain ⟨o1, o2, o3, o4, o5⟩ := hS
  have ht := o2 q hq
  have ht' := ht
  unfold thOK thOk at ht'
  obtain ⟨bl, hbl⟩ : ∃ b : Nat, S.2.1 q 3 = (b : Int) := ⟨(S.2.1 q 3).toNat, by omega⟩
  have hthr : isThr (A + 4 + q) := by unfold isFlo at hA; unfold isThr; omega
  have hlan : isLan (A + 1) := by unfold isFlo at hA; unfold isLan; omega
  have hbal : isBal (53 + bl) := by unfold isBal; omega
  have hKb := hK bl (by omega)
  have eKb := eK bl (by omega)
  have ebl0 : g' (53 + bl) 0 = K bl := by rw [r5 _ _ (by omega)]; exact eKb.1
  have ebl1 : g' (53 + bl) 1 = W bl := by rw [r5 _ _ (by omega)]; exact eKb.2
  have e43' : g' 43 k = (q : Int) := by rw [r5 _ _ (by omega)]; exact e43
  rw [hbl, Int.toNat_natCast] at hsh
  have hcell : ∀ j, j < 780 → g' (A + 1 + 1) j = S.1 j := r1
  obtain ⟨g1, s0, s1, s2, s3, s4⟩ := v_send (g := g') (t := t) (d := d) (l := A + 1) (bl := 53 + bl) hd hlan hbal (by omega) hd1 (by omega) (by omega) (by omega) (by omega) (b := S.2.1 q 0) (a := S.2.1 q 1) (s := S.2.1 q 2) (mk := 1) (by rw [ebl0]; exact shOk_cg hsh hcell) (Or.inr rfl) (set := 1023) (by decide)
  rw [ebl0, ebl1, pF_cg hsh hcell] at s2
  rw [ebl0, tT_cg hsh hcell 20 (Nat.le_refl _)] at s1
  have hTo := tT_ok hsh 20 (Nat.le_refl _)
  unfold tOk at hTo
  have hpb := pF_b (w := W bl) (set := 1023) hsh
  have hTe : eTt K S.1 (S.2.1 q) = tT (K bl) S.1 (S.2.1 q 0) (S.2.1 q 1) (S.2.1 q 2) 20 := by unfold eTt; rw [hbl, Int.toNat_natCast]
  have hPe : ePn K W S.1 (S.2.1 q) = pF (K bl) (W bl) S.1 (S.2.1 q 0) (S.2.1 q 1) (S.2.1 q 2) 1023 := by unfold ePn; rw [hbl, Int.toNat_natCast]
  have xq : ∀ f, f < 6 → g1 (A + 4 + q) f = S.2.1 q f := fun f hf => by
    rw [s4 _ _ (by omega) (by omega) (by omega) (by omega)]; exact r2 q f hq hf
  have hth1 : thOK (g1 (A + 4 + q)) := by
    unfold thOK
    rw [xq 0 (by decide), xq 1 (by decide), xq 2 (by decide), xq 3 (by decide), xq 4 (by decide), xq 5 (by decide)]
    exact ht
  have f1 := s1 1 (by decide) (by decide)
  have f2 := s1 2 (by decide) (by decide)
  obtain ⟨g2, l0, l1, l2⟩ := v_learn (g := g1) (t := t) (q := A + 4 + q) (d := d) hthr hd (by omega) hth1 (by omega) (by omega) (by omega) (by omega)
  have hthS : ∀ f, f < 6 → g2 (A + 4 + q) f = thS (hw (eTt K S.1 (S.2.1 q) 1) (eTt K S.1 (S.2.1 q) 2)) (S.2.1 q) f := by
    intro f hf
    rw [l1 f hf, f1, f2, hTe]
    unfold thS
    rw [xq 0 (by decide), xq 2 (by decide), xq 3 (by decide), xq 4 (by decide), xq 5 (by decide), xq f hf]
  have s2' : g2 d 7 = ((pF (K bl) (W bl) S.1 (S.2.1 q 0) (S.2.1 q 1) (S.2.1 q 2) 1023 : Nat) : Int) := by rw [l2 _ _ (by omega)]; exact s2
  have p0 := fun gg (h : gg d 7 = ((pF (K bl) (W bl) S.1 (S.2.1 q 0) (S.2.1 q 1) (S.2.1 q 2) 1023 : Nat) : Int)) => v_pins (g := gg) (t := t) hd hpb h
  have hc10 := kCnt_b (pF (K bl) (W bl) S.1 (S.2.1 q 0) (S.2.1 q 1) (S.2.1 q 2) 1023)
  have q43 : g2 43 k = (q : Int) := by rw [l2 _ _ (by omega), s4 _ _ (by omega) (by omega) (by omega) (by omega)]; exact e43'
  have q44 : g2 44 q = S.2.2.1 q := by rw [l2 _ _ (by omega), s4 _ _ (by omega) (by omega) (by omega) (by omega)]; exact r3 q hq
  have h44 := o3 q hq
  have ek : (k : Int) + 1 = ((k + 1 : Nat) : Int) := by omega
  have eqn : ((q : Nat) : Int).toNat = q := Int.toNat_natCast q
  have ebn : ((bl : Nat) : Int).toNat = bl := Int.toNat_natCast bl
  have y0 := r2 q 0 hq (by decide)
  have y1 := r2 q 1 hq (by decide)
  have y2 := r2 q 2 hq (by decide)
  have y3 := r2 q 3 hq (by decide)
  rw [hbl] at y3
  have p1 := p0 g2 s2'
  have p2 := p0 (pu g2 44 q (S.2.2.1 q + (kCnt (pF (K bl) (W bl) S.1 (S.2.1 q 0) (S.2.1 q 1) (S.2.1 q 2) 1023) : Int))) (by rw [pr_ne (by omega)]; exact s2')
  rw [show ((1023 : Nat) : Int) = 1023 from rfl] at s0
  have hall : (e1 K W q S).2.2.2.1 = S.2.2.2.1 + (kCnt (pF (K bl) (W bl) S.1 (S.2.1 q 0) (S.2.1 q 1) (S.2.1 q 2) 1023) : Int) := by
    show S.2.2.2.1 + (kCnt (ePn K W S.1 (S.2.1 q)) : Int) = _
    rw [hPe]
  rw [hall]
  refine ⟨pu g2 44 q (S.2.2.1 q + (kCnt (pF (K bl) (W bl) S.1 (S.2.1 q 0) (S.2.1 q 1) (S.2.1 q 2) 1023) : Int)), .inr (.inl (some (A + 4 + q))), ?_, ?_, ?_, ?_, ?_, ?_⟩
  · clear hthS hTe hPe xq hth1 l1 l2 s1 s3 s4 r1 r2 r3 r4 r5 hcell hsh o1 o2 o3 p0 eK hK hall hTo
    generalize kCnt (pF (K bl) (W bl) S.1 (S.2.1 q 0) (S.2.1 q 1) (S.2.1 q 2) 1023) = kc at *
    simp (disch := (first | with_reducible assumption | omega)) only [x_c, x_fi, x_fr, x_fj, x_vi, x_vr, x_vj, x_fi1, x_fi2, x_fr1, x_fr2, x_fj1, x_fj2, x_ai1, x_ai2, x_ai3, x_ar1, x_ar2, x_ar3, x_t1, x_t2, x_t3, x_t4, x_21, x_22, x_23, x_24, x_n1, x_n2, x_ji1, x_ji2, x_jc, x_j21, x_j22, x_j23, x_js1, x_js2, x_js3, x_ij1, x_ij2, x_ib1, x_ib2, x_c21, x_c22, x_c23, x_cz1, x_cz2, x_an1, x_an2, x_an3, x_or1, x_or2, x_or3, x_nt1, x_nt2, x_anm, x_orm, x_anm0, x_orm0, x_if1, x_if2, x_if3, x_ifm, x_ifm0, x_cf1, x_cf2, x_cf3, x_cfm, x_cfm0, x_a0, x_pi1, x_pi2, x_pr1, x_pr2, x_pj1, x_pj2, x_av, x_cv1, x_cv2, x_cv3, x_cs1, x_cs2, x_cl, x_of1, x_of2, x_so1, x_so2, x_fe1, x_fe2, x_fe3, x_sq1, x_sq2, x_sq3, x_sk, x_st1, x_st2, x_sr1, x_sr2, x_in1, x_in2, x_sf1, x_sf2, x_sf3, x_rt1, x_rt2, x_rz1, x_rz2, x_rj1, x_rj2, x_rv, x_ue, x_pf1, x_pf2, x_pf3, x_pz1, x_pz2, x_pz3, x_as1, x_as2, x_as3, x_as4, x_bs1, x_bs2, x_bs3, x_bs4, x_zs1, x_zs2, x_zs3, x_zs4, x_uf1, x_uf2, x_uf3, x_uf4, x_uf5, x_ua1, x_ua2, x_ua3, x_ua4, x_ua5, x_ua6, x_cp1, x_cp2, x_cp3, x_sw1, x_sw2, x_sw3, b_t, b_f, b_a, b_o, b_n, b_i, pu_e, w_d, ex_0, ex_i, ex_r, ex_j, ol_ent, List.length_cons, List.length_nil, List.replicate, List.cons_append, List.nil_append, rcv_r, ls_0, ls_i, ls_r, ls_j, ol_lt, ol_le, ol_gt, ol_ge, ol_eq, ol_ne, v_in, v_out, v_isBall, v_isHand, v_shotM, v_shotC, ol_min, ol_max, Bool.and_true, Bool.true_and, Bool.and_false, Bool.false_and, Bool.or_true, Bool.true_or, Bool.or_false, Bool.false_or, if_pos, if_neg, not_true_eq_false, not_false_eq_true, decide_true, decide_false, fFlo0, fFlo1, fFlo2, pFlo2, cFlo, aFlo, fThr0, pThr0, fThr1, pThr1, fThr2, pThr2, fThr3, pThr3, fThr4, pThr4, fThr5, pThr5, cThr, fDel0, fDel1, pDel1, fDel2, pDel2, fDel3, pDel3, fDel4, pDel4, fDel5, pDel5, fDel6, pDel6, fDel7, pDel7, cDel, a43, s43, a44, s44, aBls, List.getElem?_cons_zero, List.getElem?_cons_succ, e_add, e_sub, e_mul, e_div, e_rem, ↓reduceIte, reduceIte, Int.reduceAdd, Int.reduceMul, Int.reduceSub, Int.reduceNeg, Int.reduceLT, Int.reduceLE, Int.reduceEq, Int.reduceToNat, Nat.reduceAdd, Nat.reduceSub, Nat.reduceMul, Nat.reduceLeDiff, Nat.reduceLT, Nat.reduceEqDiff, ite_true, ite_false, if_true, if_false, Bool.false_eq_true, Bool.not_true, Bool.not_false, Int.toNat_natCast, true_and, and_true, true_or, or_true, and_self, or_self, or_false, false_or, false_and, and_false, Int.neg_neg, Int.neg_zero, Nat.add_zero, Nat.zero_add, Int.zero_add, Int.add_zero, Int.sub_zero, Int.zero_sub, Int.one_ne_zero, wX2_playRounds_2b, pyL, e43', eqn, y0, y1, y2, y3, ebn, s0, l0, q43, q44, p1, p2, ek]
  · intro j hj
    rw [pr_ne (by omega), l2 _ _ (by omega)]
    have := s3 j hj
    rw [if_neg (by decide), ebl0, tMk_cg hsh hcell 20 (Nat.le_refl _) j hj] at this
    show g1 (A + 1 + 1) j = tMk (K (S.2.1 q 3).toNat) S.1 (S.2.1 q 0) (S.2.1 q 1) (S.2.1 q 2) 20 j
    rw [hbl, Int.toNat_natCast]; exact this
  · intro t' f ht2 hf
    rw [pr_ne (by omega)]
    show _ = (if t' = q then _ else S.2.1 t') f
    by_cases e : t' = q
    · subst e; rw [if_pos rfl]; exact hthS f hf
    · rw [if_neg e, l2 _ _ (by omega), s4 _ _ (by omega) (by omega) (by omega) (by omega)]; exact r2 t' f ht2 hf
  · intro t' ht2
    show _ = if t' = q then S.2.2.1 t' + (kCnt (ePn K W S.1 (S.2.1 q)) : Int) else S.2.2.1 t'
    by_cases e : t' = q
    · subst e; rw [pr_eq, if_pos rfl, hPe]
    · rw [if_neg e, pr_ne (by omega), l2 _ _ (by omega), s4 _ _ (by omega) (by omega) (by omega) (by omega)]; exact r3 t' ht2
  · refine ⟨?_, fun h => absurd h (by omega)⟩
    intro _ f hf1 hf2
    rw [pr_ne (by omega), l2 _ _ (by omega)]
    show _ = if f = 7 then (ePn K W S.1 (S.2.1 q) : Int) else eTt K S.1 (S.2.1 q) f
    by_cases e : f = 7
    · subst e; rw [if_pos rfl, hPe]; exact s2
    · rw [if_neg e, hTe]; exact s1 f hf1 (by omega)
  · intro x j hx
    rw [pr_ne (by omega), l2 _ _ (by omega), s4 _ _ (by omega) (by omega) (by omega) (by omega)]
    exact r5 x j hx
