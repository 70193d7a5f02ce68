/-! a shot: how it travels -/
def tGrip (k d : Int) : Int := k * (if 0 < 10 - d then 10 - d else 0)
def tB (v r q : Int) : Int := v + (r * q).tdiv 100
def tV (v r q : Int) : Int := if 40 < tB v r q then 40 else if tB v r q < -40 then -40 else tB v r q
def tE (q : Int) : Int := if 60 ≤ q then 2 else if 20 ≤ q then 1 else 0
def tR (r q : Int) : Int := if tE q < r then r - tE q else if r < -(tE q) then r + tE q else 0
def tN (d f : Int) : Int := if 0 < d ∧ f < 9 then d - 1 else if d = 0 ∧ 0 < f then 1 else d
set_option maxHeartbeats 200000 in
theorem tGrip_b {k d : Int} (h1 : 1 ≤ k) (h2 : k ≤ 9) (h3 : 0 ≤ d) : 0 ≤ tGrip k d ∧ tGrip k d ≤ 90 := by
  unfold tGrip
  have h : 0 ≤ (if 0 < 10 - d then 10 - d else 0) ∧ (if 0 < 10 - d then 10 - d else 0) ≤ 10 := by omega
  have := mb (r := k) (A := 9) (B := 10) (by decide) (by omega) (by omega) h.1 h.2
  have := Int.mul_nonneg (show 0 ≤ k by omega) h.1
  omega
set_option maxHeartbeats 200000 in
theorem tV_b {v r q : Int} : -40 ≤ tV v r q ∧ tV v r q ≤ 40 := by unfold tV; omega
set_option maxHeartbeats 200000 in
theorem tR_b {r q : Int} (h1 : -30 ≤ r) (h2 : r ≤ 30) : -30 ≤ tR r q ∧ tR r q ≤ 30 := by
  unfold tR tE; omega
set_option maxHeartbeats 200000 in
theorem tB_b {v r q : Int} (h0 : 0 ≤ q) (h1 : q ≤ 90) (hv1 : -40 ≤ v) (hv2 : v ≤ 40) (hr1 : -30 ≤ r) (hr2 : r ≤ 30) : -70 ≤ tB v r q ∧ tB v r q ≤ 70 ∧ -2700 ≤ r * q ∧ r * q ≤ 2700 ∧ -27 ≤ (r * q).tdiv 100 ∧ (r * q).tdiv 100 ≤ 27 := by
  have hm := mb (r := r) (q := q) (A := 30) (B := 90) (by decide) hr1 hr2 h0 h1
  unfold tB
  rw [td]
  omega
set_option maxHeartbeats 200000 in
theorem tB_f (v r q : Int) : v + (r * q).tdiv 100 = tB v r q := rfl
set_option maxHeartbeats 200000 in
theorem tE_f (q : Int) : (if 60 ≤ q then 2 else if 20 ≤ q then 1 else 0) = tE q := rfl
set_option maxHeartbeats 200000 in
theorem v_turnOn {g : pg} {t : pt} {d : Nat} (hd : isDel d) {q : Int} (h0 : 0 ≤ q) (h1 : q ≤ 90) (hv1 : -40 ≤ g d 2) (hv2 : g d 2 ≤ 40) (hr1 : -30 ≤ g d 3) (hr2 : g d 3 ≤ 30) (h51 : 0 ≤ g d 5) (h52 : g d 5 ≤ 20) (h61 : 0 ≤ g d 6) (h62 : g d 6 ≤ 20) : ∃ g', fX1_turnOn [.inr (.inl (some d)), .inl q] (pb g t, 0, 0) = some (none, (pb g' t, 0, 0)) ∧ g' d 2 = tV (g d 2) (g d 3) q ∧ g' d 3 = tR (g d 3) q ∧ g' d 5 = g d 5 + (if q = 0 then 1 else 0) ∧ g' d 6 = g d 6 + (if tV (g d 2) (g d 3) q = g d 2 then 0 else 1) ∧ ∀ a j, ¬ (a = d ∧ (j = 2 ∨ j = 3 ∨ j = 5 ∨ j = 6)) → g' a j = g a j := by
  have hB := tB_b h0 h1 hv1 hv2 hr1 hr2
  by_cases hq : q = 0
  · subst hq
    have hz : tB (g d 2) (g d 3) 0 = g d 2 := by unfold tB; simp
    have hz2 : tV (g d 2) (g d 3) 0 = g d 2 := by unfold tV; rw [hz]; omega
    have hz3 : tR (g d 3) 0 = g d 3 := by unfold tR tE; omega
    refine ⟨pu g d 5 (g d 5 + 1), ?_, ?_, ?_, ?_, ?_, ?_⟩
    · simp (disch := (first | with_reducible assumption | omega)) only [x_c, x_fi, x_fr, x_fj, x_vi, x_vr, x_vj, x_fi1, x_fi2, x_fr1, x_fr2, x_fj1, x_fj2, x_ai1, x_ai2, x_ai3, x_ar1, x_ar2, x_ar3, x_t1, x_t2, x_t3, x_t4, x_21, x_22, x_23, x_24, x_n1, x_n2, x_ji1, x_ji2, x_jc, x_j21, x_j22, x_j23, x_js1, x_js2, x_js3, x_ij1, x_ij2, x_ib1, x_ib2, x_c21, x_c22, x_c23, x_cz1, x_cz2, x_an1, x_an2, x_an3, x_or1, x_or2, x_or3, x_nt1, x_nt2, x_anm, x_orm, x_anm0, x_orm0, x_if1, x_if2, x_if3, x_ifm, x_ifm0, x_cf1, x_cf2, x_cf3, x_cfm, x_cfm0, x_a0, x_pi1, x_pi2, x_pr1, x_pr2, x_pj1, x_pj2, x_av, x_cv1, x_cv2, x_cv3, x_cs1, x_cs2, x_cl, x_of1, x_of2, x_so1, x_so2, x_fe1, x_fe2, x_fe3, x_sq1, x_sq2, x_sq3, x_sk, x_st1, x_st2, x_sr1, x_sr2, x_in1, x_in2, x_sf1, x_sf2, x_sf3, x_rt1, x_rt2, x_rz1, x_rz2, x_rj1, x_rj2, x_rv, x_ue, x_pf1, x_pf2, x_pf3, x_pz1, x_pz2, x_pz3, x_as1, x_as2, x_as3, x_as4, x_bs1, x_bs2, x_bs3, x_bs4, x_zs1, x_zs2, x_zs3, x_zs4, x_uf1, x_uf2, x_uf3, x_uf4, x_uf5, x_ua1, x_ua2, x_ua3, x_ua4, x_ua5, x_ua6, x_cp1, x_cp2, x_cp3, x_sw1, x_sw2, x_sw3, b_t, b_f, b_a, b_o, b_n, b_i, ex_0, ex_i, ex_r, ex_j, ol_ent, List.length_cons, List.length_nil, List.replicate, List.cons_append, List.nil_append, rcv_r, ls_0, ls_i, ls_r, ls_j, ol_lt, ol_le, ol_gt, ol_ge, ol_eq, ol_ne, v_in, v_out, v_isBall, v_isHand, v_shotM, v_shotC, ol_min, ol_max, Bool.and_true, Bool.true_and, Bool.and_false, Bool.false_and, Bool.or_true, Bool.true_or, Bool.or_false, Bool.false_or, if_pos, if_neg, not_true_eq_false, not_false_eq_true, decide_true, decide_false, fDel0, fDel1, pDel1, fDel2, pDel2, fDel3, pDel3, fDel4, pDel4, fDel5, pDel5, fDel6, pDel6, fDel7, pDel7, cDel, List.getElem?_cons_zero, List.getElem?_cons_succ, e_add, e_sub, e_mul, e_div, e_rem, w_id, pr_eq, pr_ne, ↓reduceIte, reduceIte, Int.reduceAdd, Int.reduceMul, Int.reduceSub, Int.reduceNeg, Int.reduceLT, Int.reduceLE, Int.reduceEq, Int.reduceToNat, Nat.reduceAdd, Nat.reduceSub, Nat.reduceMul, Nat.reduceLeDiff, Nat.reduceLT, Nat.reduceEqDiff, ite_true, ite_false, if_true, if_false, Bool.false_eq_true, Bool.not_true, Bool.not_false, Int.toNat_natCast, true_and, and_true, true_or, or_true, and_self, or_self, or_false, false_or, false_and, and_false, Int.neg_neg, Int.neg_zero, Nat.add_zero, Nat.zero_add, Int.zero_add, Int.add_zero, Int.sub_zero, Int.zero_sub, Int.one_ne_zero, fX1_turnOn, bX1_turnOn]
    · rw [hz2, pr_ne (by omega)]
    · rw [hz3, pr_ne (by omega)]
    · rw [pr_eq]; simp
    · rw [hz2, pr_ne (by omega)]; simp
    · intro a j h
      rw [pr_ne (by omega)]
  · have hvb := tV_b (v := g d 2) (r := g d 3) (q := q)
    have ebv : (if -40 < (if tB (g d 2) (g d 3) q < 40 then tB (g d 2) (g d 3) q else 40) then (if tB (g d 2) (g d 3) q < 40 then tB (g d 2) (g d 3) q else 40) else -40) = tV (g d 2) (g d 3) q := by unfold tV; omega
    have etr : (if 0 < g d 3 then (if 0 < g d 3 - tE q then g d 3 - tE q else 0) else (if g d 3 + tE q < 0 then g d 3 + tE q else 0)) = tR (g d 3) q := by unfold tR tE; omega
    have hE : 0 ≤ tE q ∧ tE q ≤ 2 := by unfold tE; omega
    by_cases hne : tV (g d 2) (g d 3) q = g d 2
    · refine ⟨pu g d 3 (tR (g d 3) q), ?_, ?_, ?_, ?_, ?_, ?_⟩
      · simp (disch := (first | with_reducible assumption | omega)) only [x_c, x_fi, x_fr, x_fj, x_vi, x_vr, x_vj, x_fi1, x_fi2, x_fr1, x_fr2, x_fj1, x_fj2, x_ai1, x_ai2, x_ai3, x_ar1, x_ar2, x_ar3, x_t1, x_t2, x_t3, x_t4, x_21, x_22, x_23, x_24, x_n1, x_n2, x_ji1, x_ji2, x_jc, x_j21, x_j22, x_j23, x_js1, x_js2, x_js3, x_ij1, x_ij2, x_ib1, x_ib2, x_c21, x_c22, x_c23, x_cz1, x_cz2, x_an1, x_an2, x_an3, x_or1, x_or2, x_or3, x_nt1, x_nt2, x_anm, x_orm, x_anm0, x_orm0, x_if1, x_if2, x_if3, x_ifm, x_ifm0, x_cf1, x_cf2, x_cf3, x_cfm, x_cfm0, x_a0, x_pi1, x_pi2, x_pr1, x_pr2, x_pj1, x_pj2, x_av, x_cv1, x_cv2, x_cv3, x_cs1, x_cs2, x_cl, x_of1, x_of2, x_so1, x_so2, x_fe1, x_fe2, x_fe3, x_sq1, x_sq2, x_sq3, x_sk, x_st1, x_st2, x_sr1, x_sr2, x_in1, x_in2, x_sf1, x_sf2, x_sf3, x_rt1, x_rt2, x_rz1, x_rz2, x_rj1, x_rj2, x_rv, x_ue, x_pf1, x_pf2, x_pf3, x_pz1, x_pz2, x_pz3, x_as1, x_as2, x_as3, x_as4, x_bs1, x_bs2, x_bs3, x_bs4, x_zs1, x_zs2, x_zs3, x_zs4, x_uf1, x_uf2, x_uf3, x_uf4, x_uf5, x_ua1, x_ua2, x_ua3, x_ua4, x_ua5, x_ua6, x_cp1, x_cp2, x_cp3, x_sw1, x_sw2, x_sw3, b_t, b_f, b_a, b_o, b_n, b_i, ex_0, ex_i, ex_r, ex_j, ol_ent, List.length_cons, List.length_nil, List.replicate, List.cons_append, List.nil_append, rcv_r, ls_0, ls_i, ls_r, ls_j, ol_lt, ol_le, ol_gt, ol_ge, ol_eq, ol_ne, v_in, v_out, v_isBall, v_isHand, v_shotM, v_shotC, ol_min, ol_max, Bool.and_true, Bool.true_and, Bool.and_false, Bool.false_and, Bool.or_true, Bool.true_or, Bool.or_false, Bool.false_or, if_pos, if_neg, not_true_eq_false, not_false_eq_true, decide_true, decide_false, fDel0, fDel1, pDel1, fDel2, pDel2, fDel3, pDel3, fDel4, pDel4, fDel5, pDel5, fDel6, pDel6, fDel7, pDel7, cDel, List.getElem?_cons_zero, List.getElem?_cons_succ, e_add, e_sub, e_mul, e_div, e_rem, w_id, pr_eq, pr_ne, ↓reduceIte, reduceIte, Int.reduceAdd, Int.reduceMul, Int.reduceSub, Int.reduceNeg, Int.reduceLT, Int.reduceLE, Int.reduceEq, Int.reduceToNat, Nat.reduceAdd, Nat.reduceSub, Nat.reduceMul, Nat.reduceLeDiff, Nat.reduceLT, Nat.reduceEqDiff, ite_true, ite_false, if_true, if_false, Bool.false_eq_true, Bool.not_true, Bool.not_false, Int.toNat_natCast, true_and, and_true, true_or, or_true, and_self, or_self, or_false, false_or, false_and, and_false, Int.neg_neg, Int.neg_zero, Nat.add_zero, Nat.zero_add, Int.zero_add, Int.add_zero, Int.sub_zero, Int.zero_sub, Int.one_ne_zero, fX1_turnOn, bX1_turnOn, tB_f, tE_f, ebv, etr, hne]
      · rw [hne, pr_ne (by omega)]
      · rw [pr_eq]
      · rw [pr_ne (by omega), if_neg hq]; omega
      · rw [pr_ne (by omega), if_pos hne]; omega
      · intro a j h
        rw [pr_ne (by omega)]
    · refine ⟨pu (pu (pu g d 6 (g d 6 + 1)) d 2 (tV (g d 2) (g d 3) q)) d 3 (tR (g d 3) q), ?_, ?_, ?_, ?_, ?_, ?_⟩
      · simp (disch := (first | with_reducible assumption | omega)) only [x_c, x_fi, x_fr, x_fj, x_vi, x_vr, x_vj, x_fi1, x_fi2, x_fr1, x_fr2, x_fj1, x_fj2, x_ai1, x_ai2, x_ai3, x_ar1, x_ar2, x_ar3, x_t1, x_t2, x_t3, x_t4, x_21, x_22, x_23, x_24, x_n1, x_n2, x_ji1, x_ji2, x_jc, x_j21, x_j22, x_j23, x_js1, x_js2, x_js3, x_ij1, x_ij2, x_ib1, x_ib2, x_c21, x_c22, x_c23, x_cz1, x_cz2, x_an1, x_an2, x_an3, x_or1, x_or2, x_or3, x_nt1, x_nt2, x_anm, x_orm, x_anm0, x_orm0, x_if1, x_if2, x_if3, x_ifm, x_ifm0, x_cf1, x_cf2, x_cf3, x_cfm, x_cfm0, x_a0, x_pi1, x_pi2, x_pr1, x_pr2, x_pj1, x_pj2, x_av, x_cv1, x_cv2, x_cv3, x_cs1, x_cs2, x_cl, x_of1, x_of2, x_so1, x_so2, x_fe1, x_fe2, x_fe3, x_sq1, x_sq2, x_sq3, x_sk, x_st1, x_st2, x_sr1, x_sr2, x_in1, x_in2, x_sf1, x_sf2, x_sf3, x_rt1, x_rt2, x_rz1, x_rz2, x_rj1, x_rj2, x_rv, x_ue, x_pf1, x_pf2, x_pf3, x_pz1, x_pz2, x_pz3, x_as1, x_as2, x_as3, x_as4, x_bs1, x_bs2, x_bs3, x_bs4, x_zs1, x_zs2, x_zs3, x_zs4, x_uf1, x_uf2, x_uf3, x_uf4, x_uf5, x_ua1, x_ua2, x_ua3, x_ua4, x_ua5, x_ua6, x_cp1, x_cp2, x_cp3, x_sw1, x_sw2, x_sw3, b_t, b_f, b_a, b_o, b_n, b_i, ex_0, ex_i, ex_r, ex_j, ol_ent, List.length_cons, List.length_nil, List.replicate, List.cons_append, List.nil_append, rcv_r, ls_0, ls_i, ls_r, ls_j, ol_lt, ol_le, ol_gt, ol_ge, ol_eq, ol_ne, v_in, v_out, v_isBall, v_isHand, v_shotM, v_shotC, ol_min, ol_max, Bool.and_true, Bool.true_and, Bool.and_false, Bool.false_and, Bool.or_true, Bool.true_or, Bool.or_false, Bool.false_or, if_pos, if_neg, not_true_eq_false, not_false_eq_true, decide_true, decide_false, fDel0, fDel1, pDel1, fDel2, pDel2, fDel3, pDel3, fDel4, pDel4, fDel5, pDel5, fDel6, pDel6, fDel7, pDel7, cDel, List.getElem?_cons_zero, List.getElem?_cons_succ, e_add, e_sub, e_mul, e_div, e_rem, w_id, pr_eq, pr_ne, ↓reduceIte, reduceIte, Int.reduceAdd, Int.reduceMul, Int.reduceSub, Int.reduceNeg, Int.reduceLT, Int.reduceLE, Int.reduceEq, Int.reduceToNat, Nat.reduceAdd, Nat.reduceSub, Nat.reduceMul, Nat.reduceLeDiff, Nat.reduceLT, Nat.reduceEqDiff, ite_true, ite_false, if_true, if_false, Bool.false_eq_true, Bool.not_true, Bool.not_false, Int.toNat_natCast, true_and, and_true, true_or, or_true, and_self, or_self, or_false, false_or, false_and, and_false, Int.neg_neg, Int.neg_zero, Nat.add_zero, Nat.zero_add, Int.zero_add, Int.add_zero, Int.sub_zero, Int.zero_sub, Int.one_ne_zero, fX1_turnOn, bX1_turnOn, tB_f, tE_f, ebv, etr, hne]
      · rw [pr_ne (by omega), pr_eq]
      · rw [pr_eq]
      · rw [pr_ne (by omega), pr_ne (by omega), pr_ne (by omega), if_neg hq]; omega
      · rw [pr_ne (by omega), pr_ne (by omega), pr_eq, if_neg hne]
      · intro a j h
        rw [pr_ne (by omega), pr_ne (by omega), pr_ne (by omega)]
