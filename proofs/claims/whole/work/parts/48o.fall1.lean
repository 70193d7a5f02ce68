/-! pins: the reference's hitNext -/
set_option maxHeartbeats 200000 in
theorem kT1 : ∀ p, p < 10 → ∀ q, q < 10 → ((kRow q = kRow p + 1 ∧ kSpot q - kSpot p = 30) ↔ (kRow p < 3 ∧ q = p + kRow p + 2)) ∧ ((kRow q = kRow p + 1 ∧ kSpot p - kSpot q = 30) ↔ (kRow p < 3 ∧ q = p + kRow p + 1)) := by decide
set_option maxHeartbeats 200000 in
theorem kT2 : ∀ p, p < 10 → kRow p ≤ 3 ∧ (kRow p < 3 → p + kRow p + 2 < 10) := by decide
def rP (g : pg) (S : kS) (g' : pg) : Prop := g' 75 23 = (S.1 : Int) ∧ (∀ j, j < 10 → g' 82 j = S.2 j) ∧ ∀ x j, ¬ (x = 75 ∧ j = 23) → ¬ (x = 82 ∧ j < 10) → g' x j = g x j
def rRf (g : pg) : Prop := (∀ j, j < 10 → g 80 j = (kRow j : Int)) ∧ ∀ j, j < 10 → g 81 j = kSpot j
set_option maxHeartbeats 200000 in
theorem hit_b {g : pg} {t : pt} (hR : rRf g) {S : kS} (hS : S.1 < 1024) {g' : pg} (hP : rP g S g') {p q : Nat} (hp : p < 10) (hq : q < 10) (x3 x4 : ol_V) : ∃ y3 y4 g'', wX11_hitNext_0b [.inr (.inl (some 75)), .inl (p : Int), .inl (q : Int), x3, x4] (pb g' t, 0, 0) = some (none, [.inr (.inl (some 75)), .inl (p : Int), .inl ((q + 1 : Nat) : Int), y3, y4], (pb g'' t, 0, 0)) ∧ rP g (if kRow p < 3 ∧ ((q = p + kRow p + 2 ∧ -4 ≤ S.2 p) ∨ (q = p + kRow p + 1 ∧ S.2 p ≤ 4)) then kPush q (S.2 p) S else S) g'' := by
  obtain ⟨h1, h2, h3⟩ := hP
  have e80p : g' 80 p = (kRow p : Int) := by rw [h3 _ _ (by omega) (by omega)]; exact hR.1 p hp
  have e80q : g' 80 q = (kRow q : Int) := by rw [h3 _ _ (by omega) (by omega)]; exact hR.1 q hq
  have e81p : g' 81 p = kSpot p := by rw [h3 _ _ (by omega) (by omega)]; exact hR.2 p hp
  have e81q : g' 81 q = kSpot q := by rw [h3 _ _ (by omega) (by omega)]; exact hR.2 q hq
  have e82 := h2 p hp
  have b1 := kSpot_b p
  have b2 := kSpot_b q
  have b3 := (kT2 p hp).1
  have b4 := (kT2 q hq).1
  obtain ⟨T1, T2⟩ := kT1 p hp q hq
  have hpw := pw hq
  have eq : (q : Int) + 1 = ((q + 1 : Nat) : Int) := by omega
  generalize kRow p = r at *
  generalize kRow q = s at *
  generalize kSpot p = sp at *
  generalize kSpot q = sq at *
  generalize hO : S.2 p = o at *
  by_cases hc : r < 3 ∧ ((q = p + r + 2 ∧ -4 ≤ o) ∨ (q = p + r + 1 ∧ o ≤ 4))
  · rw [if_pos hc]
    by_cases hb : S.1.testBit q = true
    · refine ⟨_, _, g', by (simp (disch := (first | with_reducible assumption | omega)) only [x_c, x_fi, x_fr, x_fj, x_vi, x_vr, x_vj, x_fi1, x_fi2, x_fr1, x_fr2, x_fj1, x_fj2, x_ai1, x_ai2, x_ai3, x_ar1, x_ar2, x_ar3, x_t1, x_t2, x_t3, x_t4, x_21, x_22, x_23, x_24, x_n1, x_n2, x_ji1, x_ji2, x_jc, x_j21, x_j22, x_j23, x_js1, x_js2, x_js3, x_ij1, x_ij2, x_ib1, x_ib2, x_c21, x_c22, x_c23, x_cz1, x_cz2, x_an1, x_an2, x_an3, x_or1, x_or2, x_or3, x_nt1, x_nt2, x_anm, x_orm, x_anm0, x_orm0, x_if1, x_if2, x_if3, x_ifm, x_ifm0, x_cf1, x_cf2, x_cf3, x_cfm, x_cfm0, x_a0, x_pi1, x_pi2, x_pr1, x_pr2, x_pj1, x_pj2, x_av, x_cv1, x_cv2, x_cv3, x_cs1, x_cs2, x_cl, x_of1, x_of2, x_so1, x_so2, x_fe1, x_fe2, x_fe3, x_sq1, x_sq2, x_sq3, x_sk, x_st1, x_st2, x_sr1, x_sr2, x_in1, x_in2, x_sf1, x_sf2, x_sf3, x_rt1, x_rt2, x_rz1, x_rz2, x_rj1, x_rj2, x_rv, x_ue, x_pf1, x_pf2, x_pf3, x_pz1, x_pz2, x_pz3, x_as1, x_as2, x_as3, x_as4, x_bs1, x_bs2, x_bs3, x_bs4, x_zs1, x_zs2, x_zs3, x_zs4, x_uf1, x_uf2, x_uf3, x_uf4, x_uf5, x_ua1, x_ua2, x_ua3, x_ua4, x_ua5, x_ua6, x_cp1, x_cp2, x_cp3, x_sw1, x_sw2, x_sw3, b_t, b_f, b_a, b_o, b_n, b_i, pu_e, w_d, ex_0, ex_i, ex_r, ex_j, ol_ent, List.length_cons, List.length_nil, List.replicate, List.cons_append, List.nil_append, rcv_r, ls_0, ls_i, ls_r, ls_j, ol_lt, ol_le, ol_gt, ol_ge, ol_eq, ol_ne, v_in, v_out, v_isBall, v_isHand, v_shotM, v_shotC, ol_min, ol_max, Bool.and_true, Bool.true_and, Bool.and_false, Bool.false_and, Bool.or_true, Bool.true_or, Bool.or_false, Bool.false_or, if_pos, if_neg, not_true_eq_false, not_false_eq_true, decide_true, decide_false, f75_0, f75_1, f75_2, p75_2, f75_3, f75_4, p75_4, f75_5, p75_5, f75_6, p75_6, f75_7, p75_7, f75_8, p75_8, f75_9, p75_9, f75_10, f75_11, f75_12, p75_12, f75_13, p75_13, f75_14, p75_14, f75_15, p75_15, f75_16, p75_16, f75_17, p75_17, f75_18, p75_18, f75_19, p75_19, f75_20, f75_21, f75_22, f75_23, p75_23, f75_24, p75_24, f75_25, p75_25, f75_26, f75_27, f75_28, p75_28, f75_29, p75_29, f75_30, p75_30, f75_31, p75_31, f75_32, f75_33, f75_34, p75_34, f75_35, f75_36, f75_37, f75_38, p75_38, f75_39, f75_40, f75_41, c75, a80, s80, a81, s81, a82, s82, List.getElem?_cons_zero, List.getElem?_cons_succ, e_add, e_sub, e_mul, e_div, e_rem, ↓reduceIte, reduceIte, Int.reduceAdd, Int.reduceMul, Int.reduceSub, Int.reduceNeg, Int.reduceLT, Int.reduceLE, Int.reduceEq, Int.reduceToNat, Nat.reduceAdd, Nat.reduceSub, Nat.reduceMul, Nat.reduceLeDiff, Nat.reduceLT, Nat.reduceEqDiff, ite_true, ite_false, if_true, if_false, Bool.false_eq_true, Bool.not_true, Bool.not_false, Int.toNat_natCast, true_and, and_true, true_or, or_true, and_self, or_self, or_false, false_or, false_and, and_false, Int.neg_neg, Int.neg_zero, Nat.add_zero, Nat.zero_add, Int.zero_add, Int.add_zero, Int.sub_zero, Int.zero_sub, Int.one_ne_zero, wX11_hitNext_0b, e80p, e80q, e81p, e81q, e82, h1, shr_n, bt, hb, eq]) <;> rfl, ?_⟩
      unfold kPush
      rw [if_pos hb]
      exact ⟨h1, h2, h3⟩
    · refine ⟨_, _, pu (pu g' 75 23 ((S.1 ||| 2 ^ q : Nat) : Int)) 82 q o, by (simp (disch := (first | with_reducible assumption | omega)) only [x_c, x_fi, x_fr, x_fj, x_vi, x_vr, x_vj, x_fi1, x_fi2, x_fr1, x_fr2, x_fj1, x_fj2, x_ai1, x_ai2, x_ai3, x_ar1, x_ar2, x_ar3, x_t1, x_t2, x_t3, x_t4, x_21, x_22, x_23, x_24, x_n1, x_n2, x_ji1, x_ji2, x_jc, x_j21, x_j22, x_j23, x_js1, x_js2, x_js3, x_ij1, x_ij2, x_ib1, x_ib2, x_c21, x_c22, x_c23, x_cz1, x_cz2, x_an1, x_an2, x_an3, x_or1, x_or2, x_or3, x_nt1, x_nt2, x_anm, x_orm, x_anm0, x_orm0, x_if1, x_if2, x_if3, x_ifm, x_ifm0, x_cf1, x_cf2, x_cf3, x_cfm, x_cfm0, x_a0, x_pi1, x_pi2, x_pr1, x_pr2, x_pj1, x_pj2, x_av, x_cv1, x_cv2, x_cv3, x_cs1, x_cs2, x_cl, x_of1, x_of2, x_so1, x_so2, x_fe1, x_fe2, x_fe3, x_sq1, x_sq2, x_sq3, x_sk, x_st1, x_st2, x_sr1, x_sr2, x_in1, x_in2, x_sf1, x_sf2, x_sf3, x_rt1, x_rt2, x_rz1, x_rz2, x_rj1, x_rj2, x_rv, x_ue, x_pf1, x_pf2, x_pf3, x_pz1, x_pz2, x_pz3, x_as1, x_as2, x_as3, x_as4, x_bs1, x_bs2, x_bs3, x_bs4, x_zs1, x_zs2, x_zs3, x_zs4, x_uf1, x_uf2, x_uf3, x_uf4, x_uf5, x_ua1, x_ua2, x_ua3, x_ua4, x_ua5, x_ua6, x_cp1, x_cp2, x_cp3, x_sw1, x_sw2, x_sw3, b_t, b_f, b_a, b_o, b_n, b_i, pu_e, w_d, ex_0, ex_i, ex_r, ex_j, ol_ent, List.length_cons, List.length_nil, List.replicate, List.cons_append, List.nil_append, rcv_r, ls_0, ls_i, ls_r, ls_j, ol_lt, ol_le, ol_gt, ol_ge, ol_eq, ol_ne, v_in, v_out, v_isBall, v_isHand, v_shotM, v_shotC, ol_min, ol_max, Bool.and_true, Bool.true_and, Bool.and_false, Bool.false_and, Bool.or_true, Bool.true_or, Bool.or_false, Bool.false_or, if_pos, if_neg, not_true_eq_false, not_false_eq_true, decide_true, decide_false, f75_0, f75_1, f75_2, p75_2, f75_3, f75_4, p75_4, f75_5, p75_5, f75_6, p75_6, f75_7, p75_7, f75_8, p75_8, f75_9, p75_9, f75_10, f75_11, f75_12, p75_12, f75_13, p75_13, f75_14, p75_14, f75_15, p75_15, f75_16, p75_16, f75_17, p75_17, f75_18, p75_18, f75_19, p75_19, f75_20, f75_21, f75_22, f75_23, p75_23, f75_24, p75_24, f75_25, p75_25, f75_26, f75_27, f75_28, p75_28, f75_29, p75_29, f75_30, p75_30, f75_31, p75_31, f75_32, f75_33, f75_34, p75_34, f75_35, f75_36, f75_37, f75_38, p75_38, f75_39, f75_40, f75_41, c75, a80, s80, a81, s81, a82, s82, List.getElem?_cons_zero, List.getElem?_cons_succ, e_add, e_sub, e_mul, e_div, e_rem, ↓reduceIte, reduceIte, Int.reduceAdd, Int.reduceMul, Int.reduceSub, Int.reduceNeg, Int.reduceLT, Int.reduceLE, Int.reduceEq, Int.reduceToNat, Nat.reduceAdd, Nat.reduceSub, Nat.reduceMul, Nat.reduceLeDiff, Nat.reduceLT, Nat.reduceEqDiff, ite_true, ite_false, if_true, if_false, Bool.false_eq_true, Bool.not_true, Bool.not_false, Int.toNat_natCast, true_and, and_true, true_or, or_true, and_self, or_self, or_false, false_or, false_and, and_false, Int.neg_neg, Int.neg_zero, Nat.add_zero, Nat.zero_add, Int.zero_add, Int.add_zero, Int.sub_zero, Int.zero_sub, Int.one_ne_zero, wX11_hitNext_0b, e80p, e80q, e81p, e81q, e82, h1, shr_n, bt, hb, eq, shl1_n, or_n]) <;> rfl, ?_⟩
      unfold kPush
      rw [if_neg hb]
      refine ⟨?_, ?_, ?_⟩
      · rw [pr_ne (by omega), pr_eq]
      · intro j hj
        show _ = if j = q then o else S.2 j
        by_cases e : j = q
        · subst e; rw [pr_eq, if_pos rfl]
        · rw [pr_ne (by omega), pr_ne (by omega), if_neg e]; exact h2 j hj
      · intro x j q1 q2
        rw [pr_ne (by omega), pr_ne (by omega)]; exact h3 x j q1 q2
  · rw [if_neg hc]
    by_cases hrow : s = r + 1 ∧ ((sq - sp = 30 ∧ -4 ≤ o) ∨ (sp - sq = 30 ∧ o ≤ 4))
    · exact absurd hrow (by omega)
    · refine ⟨_, _, g', by (simp (disch := (first | with_reducible assumption | omega)) only [x_c, x_fi, x_fr, x_fj, x_vi, x_vr, x_vj, x_fi1, x_fi2, x_fr1, x_fr2, x_fj1, x_fj2, x_ai1, x_ai2, x_ai3, x_ar1, x_ar2, x_ar3, x_t1, x_t2, x_t3, x_t4, x_21, x_22, x_23, x_24, x_n1, x_n2, x_ji1, x_ji2, x_jc, x_j21, x_j22, x_j23, x_js1, x_js2, x_js3, x_ij1, x_ij2, x_ib1, x_ib2, x_c21, x_c22, x_c23, x_cz1, x_cz2, x_an1, x_an2, x_an3, x_or1, x_or2, x_or3, x_nt1, x_nt2, x_anm, x_orm, x_anm0, x_orm0, x_if1, x_if2, x_if3, x_ifm, x_ifm0, x_cf1, x_cf2, x_cf3, x_cfm, x_cfm0, x_a0, x_pi1, x_pi2, x_pr1, x_pr2, x_pj1, x_pj2, x_av, x_cv1, x_cv2, x_cv3, x_cs1, x_cs2, x_cl, x_of1, x_of2, x_so1, x_so2, x_fe1, x_fe2, x_fe3, x_sq1, x_sq2, x_sq3, x_sk, x_st1, x_st2, x_sr1, x_sr2, x_in1, x_in2, x_sf1, x_sf2, x_sf3, x_rt1, x_rt2, x_rz1, x_rz2, x_rj1, x_rj2, x_rv, x_ue, x_pf1, x_pf2, x_pf3, x_pz1, x_pz2, x_pz3, x_as1, x_as2, x_as3, x_as4, x_bs1, x_bs2, x_bs3, x_bs4, x_zs1, x_zs2, x_zs3, x_zs4, x_uf1, x_uf2, x_uf3, x_uf4, x_uf5, x_ua1, x_ua2, x_ua3, x_ua4, x_ua5, x_ua6, x_cp1, x_cp2, x_cp3, x_sw1, x_sw2, x_sw3, b_t, b_f, b_a, b_o, b_n, b_i, pu_e, w_d, ex_0, ex_i, ex_r, ex_j, ol_ent, List.length_cons, List.length_nil, List.replicate, List.cons_append, List.nil_append, rcv_r, ls_0, ls_i, ls_r, ls_j, ol_lt, ol_le, ol_gt, ol_ge, ol_eq, ol_ne, v_in, v_out, v_isBall, v_isHand, v_shotM, v_shotC, ol_min, ol_max, Bool.and_true, Bool.true_and, Bool.and_false, Bool.false_and, Bool.or_true, Bool.true_or, Bool.or_false, Bool.false_or, if_pos, if_neg, not_true_eq_false, not_false_eq_true, decide_true, decide_false, f75_0, f75_1, f75_2, p75_2, f75_3, f75_4, p75_4, f75_5, p75_5, f75_6, p75_6, f75_7, p75_7, f75_8, p75_8, f75_9, p75_9, f75_10, f75_11, f75_12, p75_12, f75_13, p75_13, f75_14, p75_14, f75_15, p75_15, f75_16, p75_16, f75_17, p75_17, f75_18, p75_18, f75_19, p75_19, f75_20, f75_21, f75_22, f75_23, p75_23, f75_24, p75_24, f75_25, p75_25, f75_26, f75_27, f75_28, p75_28, f75_29, p75_29, f75_30, p75_30, f75_31, p75_31, f75_32, f75_33, f75_34, p75_34, f75_35, f75_36, f75_37, f75_38, p75_38, f75_39, f75_40, f75_41, c75, a80, s80, a81, s81, a82, s82, List.getElem?_cons_zero, List.getElem?_cons_succ, e_add, e_sub, e_mul, e_div, e_rem, ↓reduceIte, reduceIte, Int.reduceAdd, Int.reduceMul, Int.reduceSub, Int.reduceNeg, Int.reduceLT, Int.reduceLE, Int.reduceEq, Int.reduceToNat, Nat.reduceAdd, Nat.reduceSub, Nat.reduceMul, Nat.reduceLeDiff, Nat.reduceLT, Nat.reduceEqDiff, ite_true, ite_false, if_true, if_false, Bool.false_eq_true, Bool.not_true, Bool.not_false, Int.toNat_natCast, true_and, and_true, true_or, or_true, and_self, or_self, or_false, false_or, false_and, and_false, Int.neg_neg, Int.neg_zero, Nat.add_zero, Nat.zero_add, Int.zero_add, Int.add_zero, Int.sub_zero, Int.zero_sub, Int.one_ne_zero, wX11_hitNext_0b, e80p, e80q, e81p, e81q, e82, h1, shr_n, bt, eq]) <;> rfl, h1, h2, h3⟩
set_option maxHeartbeats 200000 in
theorem v_hitNext {g : pg} {t : pt} (hR : rRf g) {S : kS} (hS : S.1 < 1024) {g1 : pg} (hP : rP g S g1) {p : Nat} (hp : p < 10) : ∃ g', fX11_hitNext [.inr (.inl (some 75)), .inl (p : Int)] (pb g1 t, 0, 0) = some (none, (pb g' t, 0, 0)) ∧ rP g (kNx (kRow p) p (S.2 p) S) g' := by
  obtain ⟨t1, t2⟩ := kT2 p hp
  generalize hr : kRow p = r at *
  generalize hO : S.2 p = o at *
  let st : Nat → kS := fun q => if r < 3 ∧ p + r + 1 < q then (if p + r + 2 < q then kNx r p o S else if o ≤ 4 then kPush (p + r + 1) o S else S) else S
  have stdef : ∀ q, st q = if r < 3 ∧ p + r + 1 < q then (if p + r + 2 < q then kNx r p o S else if o ≤ 4 then kPush (p + r + 1) o S else S) else S := fun q => rfl
  have stb : ∀ q, (st q).1 < 1024 := by
    intro q
    rw [stdef]
    split
    · split
      · exact kNx_b t2 hS
      · split
        · exact kPush_b (by omega) hS
        · exact hS
    · exact hS
  have sto : ∀ q, (st q).2 p = o := by
    intro q
    rw [stdef]
    split
    · split
      · rw [(kNx_t (j := p) (by omega)).2, hO]
      · split
        · rw [(kPush_t (j := p) (by omega)).2, hO]
        · exact hO
    · exact hO
  have sA : ∀ q, ¬ (r < 3 ∧ p + r + 1 < q) → st q = S := fun q h => by rw [stdef, if_neg h]
  have sB : ∀ q, r < 3 → q = p + r + 2 → st q = if o ≤ 4 then kPush (p + r + 1) o S else S := fun q h1 h2 => by rw [stdef, if_pos ⟨h1, by omega⟩, if_neg (by omega)]
  have sC : ∀ q, r < 3 → p + r + 2 < q → st q = kNx r p o S := fun q h1 h2 => by rw [stdef, if_pos ⟨h1, by omega⟩, if_pos h2]
  have sts : ∀ q, (if r < 3 ∧ ((q = p + r + 2 ∧ -4 ≤ o) ∨ (q = p + r + 1 ∧ o ≤ 4)) then kPush q o (st q) else st q) = st (q + 1) := by
    intro q
    by_cases h3 : r < 3
    · have n3 : ¬ 3 ≤ r := by omega
      by_cases q1 : q = p + r + 1
      · rw [sA q (by omega), sB (q + 1) h3 (by omega)]
        by_cases ho : o ≤ 4
        · rw [if_pos (show r < 3 ∧ ((q = p + r + 2 ∧ -4 ≤ o) ∨ (q = p + r + 1 ∧ o ≤ 4)) from ⟨h3, Or.inr ⟨q1, ho⟩⟩), if_pos ho, q1]
        · rw [if_neg (show ¬ (r < 3 ∧ ((q = p + r + 2 ∧ -4 ≤ o) ∨ (q = p + r + 1 ∧ o ≤ 4))) by omega), if_neg ho]
      · by_cases q2 : q = p + r + 2
        · rw [sB q h3 q2, sC (q + 1) h3 (by omega)]
          unfold kNx
          rw [if_neg n3]
          by_cases o1 : 4 < o
          · rw [if_neg (show ¬ o ≤ 4 by omega), if_pos o1, if_pos (show r < 3 ∧ ((q = p + r + 2 ∧ -4 ≤ o) ∨ (q = p + r + 1 ∧ o ≤ 4)) by omega), q2]
          · rw [if_pos (show o ≤ 4 by omega), if_neg o1]
            by_cases o2 : o < -4
            · rw [if_pos o2, if_neg (show ¬ (r < 3 ∧ ((q = p + r + 2 ∧ -4 ≤ o) ∨ (q = p + r + 1 ∧ o ≤ 4))) by omega)]
            · rw [if_neg o2, if_pos (show r < 3 ∧ ((q = p + r + 2 ∧ -4 ≤ o) ∨ (q = p + r + 1 ∧ o ≤ 4)) by omega), q2]
        · rw [if_neg (show ¬ (r < 3 ∧ ((q = p + r + 2 ∧ -4 ≤ o) ∨ (q = p + r + 1 ∧ o ≤ 4))) by omega)]
          by_cases c1 : p + r + 1 < q
          · rw [sC q h3 (by omega), sC (q + 1) h3 (by omega)]
          · rw [sA q (by omega), sA (q + 1) (by omega)]
    · rw [if_neg (show ¬ (r < 3 ∧ ((q = p + r + 2 ∧ -4 ≤ o) ∨ (q = p + r + 1 ∧ o ≤ 4))) by omega), sA q (by omega), sA (q + 1) (by omega)]
  have st10 : st 10 = kNx r p o S := by
    rw [stdef]
    by_cases h3 : r < 3
    · have := t2 h3
      rw [if_pos ⟨h3, by omega⟩, if_pos (by omega)]
    · rw [if_neg (by omega)]
      unfold kNx
      rw [if_pos (by omega)]
  have st0 : st 0 = S := by rw [stdef, if_neg (by omega)]
  obtain ⟨L', g', e, ⟨y3, y4, rfl⟩, hq⟩ := wh_for (c := wX11_hitNext_0c) (b := wX11_hitNext_0b) (t := t) (g := g1) 10 (by decide) (fun q L g' => (∃ x3 x4, L = [.inr (.inl (some 75)), .inl (p : Int), .inl (q : Int), x3, x4]) ∧ rP g (st q) g')
    (by
      rintro q L g' hq ⟨⟨x3, x4, rfl⟩, -⟩
      simp (disch := (first | with_reducible assumption | omega)) only [x_c, x_fi, x_fr, x_fj, x_vi, x_vr, x_vj, x_fi1, x_fi2, x_fr1, x_fr2, x_fj1, x_fj2, x_ai1, x_ai2, x_ai3, x_ar1, x_ar2, x_ar3, x_t1, x_t2, x_t3, x_t4, x_21, x_22, x_23, x_24, x_n1, x_n2, x_ji1, x_ji2, x_jc, x_j21, x_j22, x_j23, x_js1, x_js2, x_js3, x_ij1, x_ij2, x_ib1, x_ib2, x_c21, x_c22, x_c23, x_cz1, x_cz2, x_an1, x_an2, x_an3, x_or1, x_or2, x_or3, x_nt1, x_nt2, x_anm, x_orm, x_anm0, x_orm0, x_if1, x_if2, x_if3, x_ifm, x_ifm0, x_cf1, x_cf2, x_cf3, x_cfm, x_cfm0, x_a0, x_pi1, x_pi2, x_pr1, x_pr2, x_pj1, x_pj2, x_av, x_cv1, x_cv2, x_cv3, x_cs1, x_cs2, x_cl, x_of1, x_of2, x_so1, x_so2, x_fe1, x_fe2, x_fe3, x_sq1, x_sq2, x_sq3, x_sk, x_st1, x_st2, x_sr1, x_sr2, x_in1, x_in2, x_sf1, x_sf2, x_sf3, x_rt1, x_rt2, x_rz1, x_rz2, x_rj1, x_rj2, x_rv, x_ue, x_pf1, x_pf2, x_pf3, x_pz1, x_pz2, x_pz3, x_as1, x_as2, x_as3, x_as4, x_bs1, x_bs2, x_bs3, x_bs4, x_zs1, x_zs2, x_zs3, x_zs4, x_uf1, x_uf2, x_uf3, x_uf4, x_uf5, x_ua1, x_ua2, x_ua3, x_ua4, x_ua5, x_ua6, x_cp1, x_cp2, x_cp3, x_sw1, x_sw2, x_sw3, b_t, b_f, b_a, b_o, b_n, b_i, pu_e, w_d, ex_0, ex_i, ex_r, ex_j, ol_ent, List.length_cons, List.length_nil, List.replicate, List.cons_append, List.nil_append, rcv_r, ls_0, ls_i, ls_r, ls_j, ol_lt, ol_le, ol_gt, ol_ge, ol_eq, ol_ne, v_in, v_out, v_isBall, v_isHand, v_shotM, v_shotC, ol_min, ol_max, Bool.and_true, Bool.true_and, Bool.and_false, Bool.false_and, Bool.or_true, Bool.true_or, Bool.or_false, Bool.false_or, if_pos, if_neg, not_true_eq_false, not_false_eq_true, decide_true, decide_false, List.getElem?_cons_zero, List.getElem?_cons_succ, e_add, e_sub, e_mul, e_div, e_rem, ↓reduceIte, reduceIte, Int.reduceAdd, Int.reduceMul, Int.reduceSub, Int.reduceNeg, Int.reduceLT, Int.reduceLE, Int.reduceEq, Int.reduceToNat, Nat.reduceAdd, Nat.reduceSub, Nat.reduceMul, Nat.reduceLeDiff, Nat.reduceLT, Nat.reduceEqDiff, ite_true, ite_false, if_true, if_false, Bool.false_eq_true, Bool.not_true, Bool.not_false, Int.toNat_natCast, true_and, and_true, true_or, or_true, and_self, or_self, or_false, false_or, false_and, and_false, Int.neg_neg, Int.neg_zero, Nat.add_zero, Nat.zero_add, Int.zero_add, Int.add_zero, Int.sub_zero, Int.zero_sub, Int.one_ne_zero, wX11_hitNext_0c])
    (by
      rintro L g' ⟨⟨x3, x4, rfl⟩, -⟩
      simp (disch := (first | with_reducible assumption | omega)) only [x_c, x_fi, x_fr, x_fj, x_vi, x_vr, x_vj, x_fi1, x_fi2, x_fr1, x_fr2, x_fj1, x_fj2, x_ai1, x_ai2, x_ai3, x_ar1, x_ar2, x_ar3, x_t1, x_t2, x_t3, x_t4, x_21, x_22, x_23, x_24, x_n1, x_n2, x_ji1, x_ji2, x_jc, x_j21, x_j22, x_j23, x_js1, x_js2, x_js3, x_ij1, x_ij2, x_ib1, x_ib2, x_c21, x_c22, x_c23, x_cz1, x_cz2, x_an1, x_an2, x_an3, x_or1, x_or2, x_or3, x_nt1, x_nt2, x_anm, x_orm, x_anm0, x_orm0, x_if1, x_if2, x_if3, x_ifm, x_ifm0, x_cf1, x_cf2, x_cf3, x_cfm, x_cfm0, x_a0, x_pi1, x_pi2, x_pr1, x_pr2, x_pj1, x_pj2, x_av, x_cv1, x_cv2, x_cv3, x_cs1, x_cs2, x_cl, x_of1, x_of2, x_so1, x_so2, x_fe1, x_fe2, x_fe3, x_sq1, x_sq2, x_sq3, x_sk, x_st1, x_st2, x_sr1, x_sr2, x_in1, x_in2, x_sf1, x_sf2, x_sf3, x_rt1, x_rt2, x_rz1, x_rz2, x_rj1, x_rj2, x_rv, x_ue, x_pf1, x_pf2, x_pf3, x_pz1, x_pz2, x_pz3, x_as1, x_as2, x_as3, x_as4, x_bs1, x_bs2, x_bs3, x_bs4, x_zs1, x_zs2, x_zs3, x_zs4, x_uf1, x_uf2, x_uf3, x_uf4, x_uf5, x_ua1, x_ua2, x_ua3, x_ua4, x_ua5, x_ua6, x_cp1, x_cp2, x_cp3, x_sw1, x_sw2, x_sw3, b_t, b_f, b_a, b_o, b_n, b_i, pu_e, w_d, ex_0, ex_i, ex_r, ex_j, ol_ent, List.length_cons, List.length_nil, List.replicate, List.cons_append, List.nil_append, rcv_r, ls_0, ls_i, ls_r, ls_j, ol_lt, ol_le, ol_gt, ol_ge, ol_eq, ol_ne, v_in, v_out, v_isBall, v_isHand, v_shotM, v_shotC, ol_min, ol_max, Bool.and_true, Bool.true_and, Bool.and_false, Bool.false_and, Bool.or_true, Bool.true_or, Bool.or_false, Bool.false_or, if_pos, if_neg, not_true_eq_false, not_false_eq_true, decide_true, decide_false, List.getElem?_cons_zero, List.getElem?_cons_succ, e_add, e_sub, e_mul, e_div, e_rem, ↓reduceIte, reduceIte, Int.reduceAdd, Int.reduceMul, Int.reduceSub, Int.reduceNeg, Int.reduceLT, Int.reduceLE, Int.reduceEq, Int.reduceToNat, Nat.reduceAdd, Nat.reduceSub, Nat.reduceMul, Nat.reduceLeDiff, Nat.reduceLT, Nat.reduceEqDiff, ite_true, ite_false, if_true, if_false, Bool.false_eq_true, Bool.not_true, Bool.not_false, Int.toNat_natCast, true_and, and_true, true_or, or_true, and_self, or_self, or_false, false_or, false_and, and_false, Int.neg_neg, Int.neg_zero, Nat.add_zero, Nat.zero_add, Int.zero_add, Int.add_zero, Int.sub_zero, Int.zero_sub, Int.one_ne_zero, wX11_hitNext_0c, Int.cast_ofNat_Int])
    (by
      rintro q L g' hq ⟨⟨x3, x4, rfl⟩, hp'⟩
      obtain ⟨y3, y4, g'', e1, e2⟩ := hit_b (t := t) hR (stb q) hp' hp hq x3 x4
      rw [hr, sto q, sts q] at e2
      exact ⟨_, g'', e1, ⟨y3, y4, rfl⟩, e2⟩) (L := [.inr (.inl (some 75)), .inl (p : Int), .inl 0, .inr (.inl none), .inr (.inl none)]) ⟨⟨.inr (.inl none), .inr (.inl none), rfl⟩, by rw [st0]; exact hP⟩
  rw [st10] at hq
  refine ⟨g', ?_, hq⟩
  simp (disch := (first | with_reducible assumption | omega)) only [x_c, x_fi, x_fr, x_fj, x_vi, x_vr, x_vj, x_fi1, x_fi2, x_fr1, x_fr2, x_fj1, x_fj2, x_ai1, x_ai2, x_ai3, x_ar1, x_ar2, x_ar3, x_t1, x_t2, x_t3, x_t4, x_21, x_22, x_23, x_24, x_n1, x_n2, x_ji1, x_ji2, x_jc, x_j21, x_j22, x_j23, x_js1, x_js2, x_js3, x_ij1, x_ij2, x_ib1, x_ib2, x_c21, x_c22, x_c23, x_cz1, x_cz2, x_an1, x_an2, x_an3, x_or1, x_or2, x_or3, x_nt1, x_nt2, x_anm, x_orm, x_anm0, x_orm0, x_if1, x_if2, x_if3, x_ifm, x_ifm0, x_cf1, x_cf2, x_cf3, x_cfm, x_cfm0, x_a0, x_pi1, x_pi2, x_pr1, x_pr2, x_pj1, x_pj2, x_av, x_cv1, x_cv2, x_cv3, x_cs1, x_cs2, x_cl, x_of1, x_of2, x_so1, x_so2, x_fe1, x_fe2, x_fe3, x_sq1, x_sq2, x_sq3, x_sk, x_st1, x_st2, x_sr1, x_sr2, x_in1, x_in2, x_sf1, x_sf2, x_sf3, x_rt1, x_rt2, x_rz1, x_rz2, x_rj1, x_rj2, x_rv, x_ue, x_pf1, x_pf2, x_pf3, x_pz1, x_pz2, x_pz3, x_as1, x_as2, x_as3, x_as4, x_bs1, x_bs2, x_bs3, x_bs4, x_zs1, x_zs2, x_zs3, x_zs4, x_uf1, x_uf2, x_uf3, x_uf4, x_uf5, x_ua1, x_ua2, x_ua3, x_ua4, x_ua5, x_ua6, x_cp1, x_cp2, x_cp3, x_sw1, x_sw2, x_sw3, b_t, b_f, b_a, b_o, b_n, b_i, pu_e, w_d, ex_0, ex_i, ex_r, ex_j, ol_ent, List.length_cons, List.length_nil, List.replicate, List.cons_append, List.nil_append, rcv_r, ls_0, ls_i, ls_r, ls_j, ol_lt, ol_le, ol_gt, ol_ge, ol_eq, ol_ne, v_in, v_out, v_isBall, v_isHand, v_shotM, v_shotC, ol_min, ol_max, Bool.and_true, Bool.true_and, Bool.and_false, Bool.false_and, Bool.or_true, Bool.true_or, Bool.or_false, Bool.false_or, if_pos, if_neg, not_true_eq_false, not_false_eq_true, decide_true, decide_false, List.getElem?_cons_zero, List.getElem?_cons_succ, e_add, e_sub, e_mul, e_div, e_rem, ↓reduceIte, reduceIte, Int.reduceAdd, Int.reduceMul, Int.reduceSub, Int.reduceNeg, Int.reduceLT, Int.reduceLE, Int.reduceEq, Int.reduceToNat, Nat.reduceAdd, Nat.reduceSub, Nat.reduceMul, Nat.reduceLeDiff, Nat.reduceLT, Nat.reduceEqDiff, ite_true, ite_false, if_true, if_false, Bool.false_eq_true, Bool.not_true, Bool.not_false, Int.toNat_natCast, true_and, and_true, true_or, or_true, and_self, or_self, or_false, false_or, false_and, and_false, Int.neg_neg, Int.neg_zero, Nat.add_zero, Nat.zero_add, Int.zero_add, Int.add_zero, Int.sub_zero, Int.zero_sub, Int.one_ne_zero, fX11_hitNext, eX11_hitNext, e]
