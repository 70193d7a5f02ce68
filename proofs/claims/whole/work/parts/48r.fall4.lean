/-! pins: the reference fells what the document says -/
def kEf (f : Nat) (S T : kS) : Prop := S.1 = T.1 ∧ ∀ j, f ≤ j → S.2 j = T.2 j
set_option maxHeartbeats 200000 in
theorem kPush_f {f q : Nat} {o : Int} {S T : kS} (h : kEf f S T) : kEf f (kPush q o S) (kPush q o T) := by
  unfold kPush
  rw [← h.1]
  split
  · exact h
  · refine ⟨by rw [h.1], fun j hj => ?_⟩
    change (if j = q then o else S.2 j) = (if j = q then o else T.2 j)
    by_cases e : j = q
    · rw [if_pos e, if_pos e]
    · rw [if_neg e, if_neg e]
      exact h.2 j hj
set_option maxHeartbeats 200000 in
theorem kNx_f {f r p : Nat} {o : Int} {S T : kS} (h : kEf f S T) : kEf f (kNx r p o S) (kNx r p o T) := by
  unfold kNx
  split
  · exact h
  · split
    · exact kPush_f h
    · split
      · exact kPush_f h
      · exact kPush_f (kPush_f h)
set_option maxHeartbeats 200000 in
theorem kF1_f {w : Int} {set first r : Nat} {a0 : Int} {S T : kS} (h : kEf first S T) : ∀ i, kEf first (kF1 w set first r a0 S i) (kF1 w set first r a0 T i) := by
  intro i
  induction i with
  | zero => exact h
  | succ i ih =>
    rw [kF1_s, kF1_s]
    split
    · exact kNx_f ih
    · exact ih
set_option maxHeartbeats 200000 in
theorem kF2_f {w : Int} {set first r : Nat} {a0 : Int} {S T : kS} (h : kEf first S T) : ∀ i, kEf first (kF2 w set first r a0 S i) (kF2 w set first r a0 T i) ∧ kOs w set first a0 S i = kOs w set first a0 T i := by
  intro i
  induction i with
  | zero => exact ⟨kF1_f h _, rfl⟩
  | succ i ih =>
    rw [kF2_s, kF2_s, kOs_s, kOs_s]
    have e : kOt w set first a0 S i ↔ kOt w set first a0 T i := by unfold kOt; rw [h.1]
    by_cases c : kOt w set first a0 S i
    · rw [if_pos c, if_pos (e.mp c), if_pos c, if_pos (e.mp c), ← h.2 _ (Nat.le_add_right _ _)]
      exact ⟨kNx_f ih.1, by rw [ih.2]⟩
    · rw [if_neg c, if_neg (fun q => c (e.mpr q)), if_neg c, if_neg (fun q => c (e.mpr q))]
      exact ih
set_option maxHeartbeats 200000 in
theorem fall_r {g : pg} {t : pt} (hR : rRf g) {pl v w : Int} (hw1 : 5 ≤ w) (hw2 : w ≤ 16) (hv1 : -40 ≤ v) (hv2 : v ≤ 40) {set first r : Nat} (hset : set < 1024) (hr : r ≤ 3) (hfr : first + r < 10) (hr2 : r < 3 → first + 2 * r + 2 < 10) (hrow : ∀ p, p < 10 → (kRow p = r ↔ (first ≤ p ∧ p ≤ first + r))) {a0 : Int} (ha1 : -4000 ≤ a0) (ha2 : a0 ≤ 4000) {S : kS} (hS : S.1 < 1024) {F : Nat} (hF : F < 1024) {g1 : pg} (hP : rP (pu g 75 24 (F : Int)) S g1) (x7 x8 x9 : ol_V) : ∃ y7 y8 y9 g2, wX11_fallOf_0b (fLo pl v w set a0 r x7 x8 x9) (pb g1 t, 0, 0) = some (none, fLo pl v w set (kAt w set first a0 (r + 1) + v) (r + 1) y7 y8 y9, (pb g2 t, 0, 0)) ∧ rP (pu g 75 24 ((F ||| kBs w set first a0 (r + 1) ||| kOs w set first a0 S (r + 1) : Nat) : Int)) ((kF2 w set first r a0 S (r + 1)).1, kMk w set first a0 (r + 1) (kF2 w set first r a0 S (r + 1)).2) g2 := by
  have hR' : rRf (pu g 75 24 (F : Int)) := ⟨fun j hj => by rw [pr_ne (by omega)]; exact hR.1 j hj, fun j hj => by rw [pr_ne (by omega)]; exact hR.2 j hj⟩
  obtain ⟨y9, g2, e1, p1⟩ := fall_1 (t := t) hR' (pl := pl) (v := v) (a0 := a0) hw1 hw2 hset hr hfr hrow (by omega) (by omega) hP x9
  have e2 := fall_2 (t := t) hR' (pl := pl) (v := v) (w := w) (a0 := a0) (a1 := kAt w set first a0 (r + 1)) (S := (S.1, kMk w set first a0 (r + 1) S.2)) (S0 := S) hset hr hfr hrow hS rfl p1
  obtain ⟨g3, e3, p3⟩ := fall_3 (t := t) hR' (pl := pl) (v := v) (a1 := kAt w set first a0 (r + 1)) hr hfr hr2 hrow hS p1 (.inl (kOs w set first a0 S (r + 1) : Int)) ⟨_, rfl⟩
  obtain ⟨g4, e4, p4⟩ := fall_4 (t := t) hR' (pl := pl) (v := v) (a1 := kAt w set first a0 (r + 1)) hr hfr hr2 hrow hS p3 (kBs w set first a0 (r + 1) : Int)
  have hbs := kBs_b (w := w) (set := set) (first := first) (a0 := a0) (r := r) hfr (r + 1) (Nat.le_refl _)
  have hos := kOs_b (w := w) (set := set) (first := first) (a0 := a0) (S0 := S) (r := r) hfr (r + 1) (Nat.le_refl _)
  have hat := kAt_b (w := w) (set := set) (first := first) (a0 := a0) (i := r + 1)
  obtain ⟨q1, q2, q3⟩ := p4
  have h24 : g4 75 24 = (F : Int) := by rw [q3 _ _ (by omega) (by omega), pr_eq]
  have hbo : kBs w set first a0 (r + 1) ||| kOs w set first a0 S (r + 1) < 1024 := Nat.or_lt_two_pow (n := 10) hbs hos
  have er : (r : Int) + 1 = ((r + 1 : Nat) : Int) := by omega
  have eo : F ||| (kBs w set first a0 (r + 1) ||| kOs w set first a0 S (r + 1)) = F ||| kBs w set first a0 (r + 1) ||| kOs w set first a0 S (r + 1) := (Nat.or_assoc _ _ _).symm
  unfold fLo at e1 e2 e3 e4
  refine ⟨.inl (kBs w set first a0 (r + 1) : Int), .inl (kOs w set first a0 S (r + 1) : Int), .inl 10, pu g4 75 24 ((F ||| kBs w set first a0 (r + 1) ||| kOs w set first a0 S (r + 1) : Nat) : Int), ?_, ?_, ?_, ?_⟩
  · simp (disch := (first | with_reducible assumption | omega)) only [x_c, x_fi, x_fr, x_fj, x_vi, x_vr, x_vj, x_fi1, x_fi2, x_fr1, x_fr2, x_fj1, x_fj2, x_ai1, x_ai2, x_ai3, x_ar1, x_ar2, x_ar3, x_t1, x_t2, x_t3, x_t4, x_21, x_22, x_23, x_24, x_n1, x_n2, x_ji1, x_ji2, x_jc, x_j21, x_j22, x_j23, x_js1, x_js2, x_js3, x_ij1, x_ij2, x_ib1, x_ib2, x_c21, x_c22, x_c23, x_cz1, x_cz2, x_an1, x_an2, x_an3, x_or1, x_or2, x_or3, x_nt1, x_nt2, x_anm, x_orm, x_anm0, x_orm0, x_if1, x_if2, x_if3, x_ifm, x_ifm0, x_cf1, x_cf2, x_cf3, x_cfm, x_cfm0, x_a0, x_pi1, x_pi2, x_pr1, x_pr2, x_pj1, x_pj2, x_av, x_cv1, x_cv2, x_cv3, x_cs1, x_cs2, x_cl, x_of1, x_of2, x_so1, x_so2, x_fe1, x_fe2, x_fe3, x_sq1, x_sq2, x_sq3, x_sk, x_st1, x_st2, x_sr1, x_sr2, x_in1, x_in2, x_sf1, x_sf2, x_sf3, x_rt1, x_rt2, x_rz1, x_rz2, x_rj1, x_rj2, x_rv, x_ue, x_pf1, x_pf2, x_pf3, x_pz1, x_pz2, x_pz3, x_as1, x_as2, x_as3, x_as4, x_bs1, x_bs2, x_bs3, x_bs4, x_zs1, x_zs2, x_zs3, x_zs4, x_uf1, x_uf2, x_uf3, x_uf4, x_uf5, x_ua1, x_ua2, x_ua3, x_ua4, x_ua5, x_ua6, x_cp1, x_cp2, x_cp3, x_sw1, x_sw2, x_sw3, b_t, b_f, b_a, b_o, b_n, b_i, pu_e, w_d, ex_0, ex_i, ex_r, ex_j, ol_ent, List.length_cons, List.length_nil, List.replicate, List.cons_append, List.nil_append, rcv_r, ls_0, ls_i, ls_r, ls_j, ol_lt, ol_le, ol_gt, ol_ge, ol_eq, ol_ne, v_in, v_out, v_isBall, v_isHand, v_shotM, v_shotC, ol_min, ol_max, Bool.and_true, Bool.true_and, Bool.and_false, Bool.false_and, Bool.or_true, Bool.true_or, Bool.or_false, Bool.false_or, if_pos, if_neg, not_true_eq_false, not_false_eq_true, decide_true, decide_false, f75_0, f75_1, f75_2, p75_2, f75_3, f75_4, p75_4, f75_5, p75_5, f75_6, p75_6, f75_7, p75_7, f75_8, p75_8, f75_9, p75_9, f75_10, f75_11, f75_12, p75_12, f75_13, p75_13, f75_14, p75_14, f75_15, p75_15, f75_16, p75_16, f75_17, p75_17, f75_18, p75_18, f75_19, p75_19, f75_20, f75_21, f75_22, f75_23, p75_23, f75_24, p75_24, f75_25, p75_25, f75_26, f75_27, f75_28, p75_28, f75_29, p75_29, f75_30, p75_30, f75_31, p75_31, f75_32, f75_33, f75_34, p75_34, f75_35, f75_36, f75_37, f75_38, p75_38, f75_39, f75_40, f75_41, c75, List.getElem?_cons_zero, List.getElem?_cons_succ, e_add, e_sub, e_mul, e_div, e_rem, ↓reduceIte, reduceIte, Int.reduceAdd, Int.reduceMul, Int.reduceSub, Int.reduceNeg, Int.reduceLT, Int.reduceLE, Int.reduceEq, Int.reduceToNat, Nat.reduceAdd, Nat.reduceSub, Nat.reduceMul, Nat.reduceLeDiff, Nat.reduceLT, Nat.reduceEqDiff, ite_true, ite_false, if_true, if_false, Bool.false_eq_true, Bool.not_true, Bool.not_false, Int.toNat_natCast, true_and, and_true, true_or, or_true, and_self, or_self, or_false, false_or, false_and, and_false, Int.neg_neg, Int.neg_zero, Nat.add_zero, Nat.zero_add, Int.zero_add, Int.add_zero, Int.sub_zero, Int.zero_sub, Int.one_ne_zero, wX11_fallOf_0b, fLo, e1, e2, e3, e4, h24, or_n, eo, er]
  · rw [pr_ne (by omega)]; exact q1
  · intro j hj; rw [pr_ne (by omega)]; exact q2 j hj
  · intro x j a b
    by_cases c : x = 75 ∧ j = 24
    · obtain ⟨rfl, rfl⟩ := c; rw [pr_eq, pr_eq]
    · rw [pr_ne c, pr_ne c, q3 x j a b, pr_ne c]
set_option maxHeartbeats 200000 in
theorem v_fallOf {g : pg} {t : pt} (hR : rRf g) {a0 v w : Int} {set : Nat} (hw1 : 5 ≤ w) (hw2 : w ≤ 16) (hv1 : -40 ≤ v) (hv2 : v ≤ 40) (ha1 : 0 ≤ a0) (ha2 : a0 ≤ 389) (hset : set < 1024) : ∃ g', fX11_fallOf [.inr (.inl (some 75)), .inl a0, .inl v, .inl w, .inl (set : Int)] (pb g t, 0, 0) = some (some (.inl (kFall w v set a0 : Int)), (pb g' t, 0, 0)) ∧ ∀ x j, ¬ (x = 75 ∧ (j = 23 ∨ j = 24)) → ¬ (x = 82 ∧ j < 10) → g' x j = g x j := by
  have hI : rP (pu g 75 24 ((0 : Nat) : Int)) (0, g 82) (pu (pu g 75 23 0) 75 24 0) := by
    refine ⟨?_, ?_, ?_⟩
    · rw [pr_ne (by omega), pr_eq]; rfl
    · intro j _; rw [pr_ne (by omega), pr_ne (by omega)]
    · intro x j a b
      by_cases c : x = 75 ∧ j = 24
      · obtain ⟨rfl, rfl⟩ := c; rw [pr_eq, pr_eq]; rfl
      · rw [pr_ne c, pr_ne c, pr_ne a]
  obtain ⟨L', g', e, ⟨y7, y8, y9, rfl⟩, S, hS, hq⟩ := wh_for (c := wX11_fallOf_0c) (b := wX11_fallOf_0b) (t := t) (g := pu (pu g 75 23 0) 75 24 0) 4 (by decide) (fun r L g' => (∃ x7 x8 x9, L = fLo a0 v w set (kR w v set (g 82) a0 r).1 r x7 x8 x9) ∧ ∃ S, kEf (r * (r + 1) / 2) S (kR w v set (g 82) a0 r).2.1 ∧ rP (pu g 75 24 (((kR w v set (g 82) a0 r).2.2 : Nat) : Int)) S g')
    (by
      rintro r L g' hr ⟨⟨x7, x8, x9, rfl⟩, -⟩
      simp (disch := (first | with_reducible assumption | omega)) only [x_c, x_fi, x_fr, x_fj, x_vi, x_vr, x_vj, x_fi1, x_fi2, x_fr1, x_fr2, x_fj1, x_fj2, x_ai1, x_ai2, x_ai3, x_ar1, x_ar2, x_ar3, x_t1, x_t2, x_t3, x_t4, x_21, x_22, x_23, x_24, x_n1, x_n2, x_ji1, x_ji2, x_jc, x_j21, x_j22, x_j23, x_js1, x_js2, x_js3, x_ij1, x_ij2, x_ib1, x_ib2, x_c21, x_c22, x_c23, x_cz1, x_cz2, x_an1, x_an2, x_an3, x_or1, x_or2, x_or3, x_nt1, x_nt2, x_anm, x_orm, x_anm0, x_orm0, x_if1, x_if2, x_if3, x_ifm, x_ifm0, x_cf1, x_cf2, x_cf3, x_cfm, x_cfm0, x_a0, x_pi1, x_pi2, x_pr1, x_pr2, x_pj1, x_pj2, x_av, x_cv1, x_cv2, x_cv3, x_cs1, x_cs2, x_cl, x_of1, x_of2, x_so1, x_so2, x_fe1, x_fe2, x_fe3, x_sq1, x_sq2, x_sq3, x_sk, x_st1, x_st2, x_sr1, x_sr2, x_in1, x_in2, x_sf1, x_sf2, x_sf3, x_rt1, x_rt2, x_rz1, x_rz2, x_rj1, x_rj2, x_rv, x_ue, x_pf1, x_pf2, x_pf3, x_pz1, x_pz2, x_pz3, x_as1, x_as2, x_as3, x_as4, x_bs1, x_bs2, x_bs3, x_bs4, x_zs1, x_zs2, x_zs3, x_zs4, x_uf1, x_uf2, x_uf3, x_uf4, x_uf5, x_ua1, x_ua2, x_ua3, x_ua4, x_ua5, x_ua6, x_cp1, x_cp2, x_cp3, x_sw1, x_sw2, x_sw3, b_t, b_f, b_a, b_o, b_n, b_i, pu_e, w_d, ex_0, ex_i, ex_r, ex_j, ol_ent, List.length_cons, List.length_nil, List.replicate, List.cons_append, List.nil_append, rcv_r, ls_0, ls_i, ls_r, ls_j, ol_lt, ol_le, ol_gt, ol_ge, ol_eq, ol_ne, v_in, v_out, v_isBall, v_isHand, v_shotM, v_shotC, ol_min, ol_max, Bool.and_true, Bool.true_and, Bool.and_false, Bool.false_and, Bool.or_true, Bool.true_or, Bool.or_false, Bool.false_or, if_pos, if_neg, not_true_eq_false, not_false_eq_true, decide_true, decide_false, List.getElem?_cons_zero, List.getElem?_cons_succ, e_add, e_sub, e_mul, e_div, e_rem, ↓reduceIte, reduceIte, Int.reduceAdd, Int.reduceMul, Int.reduceSub, Int.reduceNeg, Int.reduceLT, Int.reduceLE, Int.reduceEq, Int.reduceToNat, Nat.reduceAdd, Nat.reduceSub, Nat.reduceMul, Nat.reduceLeDiff, Nat.reduceLT, Nat.reduceEqDiff, ite_true, ite_false, if_true, if_false, Bool.false_eq_true, Bool.not_true, Bool.not_false, Int.toNat_natCast, true_and, and_true, true_or, or_true, and_self, or_self, or_false, false_or, false_and, and_false, Int.neg_neg, Int.neg_zero, Nat.add_zero, Nat.zero_add, Int.zero_add, Int.add_zero, Int.sub_zero, Int.zero_sub, Int.one_ne_zero, wX11_fallOf_0c, fLo])
    (by
      rintro L g' ⟨⟨x7, x8, x9, rfl⟩, -⟩
      simp (disch := (first | with_reducible assumption | omega)) only [x_c, x_fi, x_fr, x_fj, x_vi, x_vr, x_vj, x_fi1, x_fi2, x_fr1, x_fr2, x_fj1, x_fj2, x_ai1, x_ai2, x_ai3, x_ar1, x_ar2, x_ar3, x_t1, x_t2, x_t3, x_t4, x_21, x_22, x_23, x_24, x_n1, x_n2, x_ji1, x_ji2, x_jc, x_j21, x_j22, x_j23, x_js1, x_js2, x_js3, x_ij1, x_ij2, x_ib1, x_ib2, x_c21, x_c22, x_c23, x_cz1, x_cz2, x_an1, x_an2, x_an3, x_or1, x_or2, x_or3, x_nt1, x_nt2, x_anm, x_orm, x_anm0, x_orm0, x_if1, x_if2, x_if3, x_ifm, x_ifm0, x_cf1, x_cf2, x_cf3, x_cfm, x_cfm0, x_a0, x_pi1, x_pi2, x_pr1, x_pr2, x_pj1, x_pj2, x_av, x_cv1, x_cv2, x_cv3, x_cs1, x_cs2, x_cl, x_of1, x_of2, x_so1, x_so2, x_fe1, x_fe2, x_fe3, x_sq1, x_sq2, x_sq3, x_sk, x_st1, x_st2, x_sr1, x_sr2, x_in1, x_in2, x_sf1, x_sf2, x_sf3, x_rt1, x_rt2, x_rz1, x_rz2, x_rj1, x_rj2, x_rv, x_ue, x_pf1, x_pf2, x_pf3, x_pz1, x_pz2, x_pz3, x_as1, x_as2, x_as3, x_as4, x_bs1, x_bs2, x_bs3, x_bs4, x_zs1, x_zs2, x_zs3, x_zs4, x_uf1, x_uf2, x_uf3, x_uf4, x_uf5, x_ua1, x_ua2, x_ua3, x_ua4, x_ua5, x_ua6, x_cp1, x_cp2, x_cp3, x_sw1, x_sw2, x_sw3, b_t, b_f, b_a, b_o, b_n, b_i, pu_e, w_d, ex_0, ex_i, ex_r, ex_j, ol_ent, List.length_cons, List.length_nil, List.replicate, List.cons_append, List.nil_append, rcv_r, ls_0, ls_i, ls_r, ls_j, ol_lt, ol_le, ol_gt, ol_ge, ol_eq, ol_ne, v_in, v_out, v_isBall, v_isHand, v_shotM, v_shotC, ol_min, ol_max, Bool.and_true, Bool.true_and, Bool.and_false, Bool.false_and, Bool.or_true, Bool.true_or, Bool.or_false, Bool.false_or, if_pos, if_neg, not_true_eq_false, not_false_eq_true, decide_true, decide_false, List.getElem?_cons_zero, List.getElem?_cons_succ, e_add, e_sub, e_mul, e_div, e_rem, ↓reduceIte, reduceIte, Int.reduceAdd, Int.reduceMul, Int.reduceSub, Int.reduceNeg, Int.reduceLT, Int.reduceLE, Int.reduceEq, Int.reduceToNat, Nat.reduceAdd, Nat.reduceSub, Nat.reduceMul, Nat.reduceLeDiff, Nat.reduceLT, Nat.reduceEqDiff, ite_true, ite_false, if_true, if_false, Bool.false_eq_true, Bool.not_true, Bool.not_false, Int.toNat_natCast, true_and, and_true, true_or, or_true, and_self, or_self, or_false, false_or, false_and, and_false, Int.neg_neg, Int.neg_zero, Nat.add_zero, Nat.zero_add, Int.zero_add, Int.add_zero, Int.sub_zero, Int.zero_sub, Int.one_ne_zero, wX11_fallOf_0c, fLo, Int.cast_ofNat_Int])
    (by
      rintro r L g' hr ⟨⟨x7, x8, x9, rfl⟩, S, hS, hp⟩
      obtain ⟨k1, k2, k3⟩ := kTri r (by omega)
      have k4 := kT3 r (by omega)
      obtain ⟨o1, o2, o3, o4, o5⟩ := kR_ok (w := w) (v := v) (set := set) (O := g 82) (a0 := a0) hv1 hv2 r (by omega)
      obtain ⟨y7, y8, y9, g2, e1, e2⟩ := fall_r (t := t) hR (pl := a0) (v := v) (a0 := (kR w v set (g 82) a0 r).1) hw1 hw2 hv1 hv2 hset (by omega) k1 k2 k4 (by omega) (by omega) (by rw [hS.1]; exact o3) o4 hp x7 x8 x9
      have hf := kF2_f (w := w) (set := set) (r := r) (a0 := (kR w v set (g 82) a0 r).1) hS (r + 1)
      refine ⟨_, g2, e1, ⟨y7, y8, y9, ?_⟩, ((kF2 w set (r * (r + 1) / 2) r (kR w v set (g 82) a0 r).1 S (r + 1)).1, kMk w set (r * (r + 1) / 2) (kR w v set (g 82) a0 r).1 (r + 1) (kF2 w set (r * (r + 1) / 2) r (kR w v set (g 82) a0 r).1 S (r + 1)).2), ?_, ?_⟩
      · rw [kR_s]
      · rw [kR_s, ← k3]
        refine ⟨hf.1.1, fun j hj => ?_⟩
        show kMk _ _ _ _ _ _ j = _
        rw [kMk_up (by omega)]
        exact hf.1.2 j (by omega)
      · rw [kR_s, ← hf.2]
        exact e2) (L := fLo a0 v w set a0 0 (.inr (.inl none)) (.inr (.inl none)) (.inr (.inl none))) ⟨⟨.inr (.inl none), .inr (.inl none), .inr (.inl none), rfl⟩, (0, g 82), ⟨rfl, fun j _ => rfl⟩, hI⟩
  obtain ⟨q1, q2, q3⟩ := hq
  have h24 : g' 75 24 = ((kFall w v set a0 : Nat) : Int) := by rw [← kFall_e (g 82), q3 _ _ (by omega) (by omega), pr_eq]
  refine ⟨g', ?_, fun x j a b => by rw [q3 x j (by omega) b, pr_ne (by omega)]⟩
  unfold fLo at e
  rw [show ((0 : Nat) : Int) = 0 by decide] at e
  simp (disch := (first | with_reducible assumption | omega)) only [x_c, x_fi, x_fr, x_fj, x_vi, x_vr, x_vj, x_fi1, x_fi2, x_fr1, x_fr2, x_fj1, x_fj2, x_ai1, x_ai2, x_ai3, x_ar1, x_ar2, x_ar3, x_t1, x_t2, x_t3, x_t4, x_21, x_22, x_23, x_24, x_n1, x_n2, x_ji1, x_ji2, x_jc, x_j21, x_j22, x_j23, x_js1, x_js2, x_js3, x_ij1, x_ij2, x_ib1, x_ib2, x_c21, x_c22, x_c23, x_cz1, x_cz2, x_an1, x_an2, x_an3, x_or1, x_or2, x_or3, x_nt1, x_nt2, x_anm, x_orm, x_anm0, x_orm0, x_if1, x_if2, x_if3, x_ifm, x_ifm0, x_cf1, x_cf2, x_cf3, x_cfm, x_cfm0, x_a0, x_pi1, x_pi2, x_pr1, x_pr2, x_pj1, x_pj2, x_av, x_cv1, x_cv2, x_cv3, x_cs1, x_cs2, x_cl, x_of1, x_of2, x_so1, x_so2, x_fe1, x_fe2, x_fe3, x_sq1, x_sq2, x_sq3, x_sk, x_st1, x_st2, x_sr1, x_sr2, x_in1, x_in2, x_sf1, x_sf2, x_sf3, x_rt1, x_rt2, x_rz1, x_rz2, x_rj1, x_rj2, x_rv, x_ue, x_pf1, x_pf2, x_pf3, x_pz1, x_pz2, x_pz3, x_as1, x_as2, x_as3, x_as4, x_bs1, x_bs2, x_bs3, x_bs4, x_zs1, x_zs2, x_zs3, x_zs4, x_uf1, x_uf2, x_uf3, x_uf4, x_uf5, x_ua1, x_ua2, x_ua3, x_ua4, x_ua5, x_ua6, x_cp1, x_cp2, x_cp3, x_sw1, x_sw2, x_sw3, b_t, b_f, b_a, b_o, b_n, b_i, pu_e, w_d, ex_0, ex_i, ex_r, ex_j, ol_ent, List.length_cons, List.length_nil, List.replicate, List.cons_append, List.nil_append, rcv_r, ls_0, ls_i, ls_r, ls_j, ol_lt, ol_le, ol_gt, ol_ge, ol_eq, ol_ne, v_in, v_out, v_isBall, v_isHand, v_shotM, v_shotC, ol_min, ol_max, Bool.and_true, Bool.true_and, Bool.and_false, Bool.false_and, Bool.or_true, Bool.true_or, Bool.or_false, Bool.false_or, if_pos, if_neg, not_true_eq_false, not_false_eq_true, decide_true, decide_false, f75_0, f75_1, f75_2, p75_2, f75_3, f75_4, p75_4, f75_5, p75_5, f75_6, p75_6, f75_7, p75_7, f75_8, p75_8, f75_9, p75_9, f75_10, f75_11, f75_12, p75_12, f75_13, p75_13, f75_14, p75_14, f75_15, p75_15, f75_16, p75_16, f75_17, p75_17, f75_18, p75_18, f75_19, p75_19, f75_20, f75_21, f75_22, f75_23, p75_23, f75_24, p75_24, f75_25, p75_25, f75_26, f75_27, f75_28, p75_28, f75_29, p75_29, f75_30, p75_30, f75_31, p75_31, f75_32, f75_33, f75_34, p75_34, f75_35, f75_36, f75_37, f75_38, p75_38, f75_39, f75_40, f75_41, c75, List.getElem?_cons_zero, List.getElem?_cons_succ, e_add, e_sub, e_mul, e_div, e_rem, ↓reduceIte, reduceIte, Int.reduceAdd, Int.reduceMul, Int.reduceSub, Int.reduceNeg, Int.reduceLT, Int.reduceLE, Int.reduceEq, Int.reduceToNat, Nat.reduceAdd, Nat.reduceSub, Nat.reduceMul, Nat.reduceLeDiff, Nat.reduceLT, Nat.reduceEqDiff, ite_true, ite_false, if_true, if_false, Bool.false_eq_true, Bool.not_true, Bool.not_false, Int.toNat_natCast, true_and, and_true, true_or, or_true, and_self, or_self, or_false, false_or, false_and, and_false, Int.neg_neg, Int.neg_zero, Nat.add_zero, Nat.zero_add, Int.zero_add, Int.add_zero, Int.sub_zero, Int.zero_sub, Int.one_ne_zero, fX11_fallOf, eX11_fallOf, e, h24]
