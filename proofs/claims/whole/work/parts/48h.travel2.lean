/-! the class's travel -/
set_option maxHeartbeats 200000 in
theorem v_takeOil {g : pg} {t : pt} {d : Nat} (hd : isDel d) {c : Int} (h0 : 0 ≤ c) (h1 : c ≤ 99) (h41 : 0 ≤ g d 4) (h42 : g d 4 ≤ 9) : fX1_takeOil [.inr (.inl (some d)), .inl c] (pb g t, 0, 0) = some (some (.inl (c - tN c (g d 4))), (pb (pu g d 4 (g d 4 + (c - tN c (g d 4)))) t, 0, 0)) := by
  unfold tN
  by_cases hc : 0 < c
  · by_cases hf : g d 4 < 9
    · have e : c - (c - 1) = 1 := by omega
      simp (disch := (first | with_reducible assumption | omega)) only [x_c, x_fi, x_fr, x_fj, x_vi, x_vr, x_vj, x_fi1, x_fi2, x_fr1, x_fr2, x_fj1, x_fj2, x_ai1, x_ai2, x_ai3, x_ar1, x_ar2, x_ar3, x_t1, x_t2, x_t3, x_t4, x_21, x_22, x_23, x_24, x_n1, x_n2, x_ji1, x_ji2, x_jc, x_j21, x_j22, x_j23, x_js1, x_js2, x_js3, x_ij1, x_ij2, x_ib1, x_ib2, x_c21, x_c22, x_c23, x_cz1, x_cz2, x_an1, x_an2, x_an3, x_or1, x_or2, x_or3, x_nt1, x_nt2, x_anm, x_orm, x_anm0, x_orm0, x_if1, x_if2, x_if3, x_ifm, x_ifm0, x_cf1, x_cf2, x_cf3, x_cfm, x_cfm0, x_a0, x_pi1, x_pi2, x_pr1, x_pr2, x_pj1, x_pj2, x_av, x_cv1, x_cv2, x_cv3, x_cs1, x_cs2, x_cl, x_of1, x_of2, x_so1, x_so2, x_fe1, x_fe2, x_fe3, x_sq1, x_sq2, x_sq3, x_sk, x_st1, x_st2, x_sr1, x_sr2, x_in1, x_in2, x_sf1, x_sf2, x_sf3, x_rt1, x_rt2, x_rz1, x_rz2, x_rj1, x_rj2, x_rv, x_ue, x_pf1, x_pf2, x_pf3, x_pz1, x_pz2, x_pz3, x_as1, x_as2, x_as3, x_as4, x_bs1, x_bs2, x_bs3, x_bs4, x_zs1, x_zs2, x_zs3, x_zs4, x_uf1, x_uf2, x_uf3, x_uf4, x_uf5, x_ua1, x_ua2, x_ua3, x_ua4, x_ua5, x_ua6, x_cp1, x_cp2, x_cp3, x_sw1, x_sw2, x_sw3, b_t, b_f, b_a, b_o, b_n, b_i, ex_0, ex_i, ex_r, ex_j, ol_ent, List.length_cons, List.length_nil, List.replicate, List.cons_append, List.nil_append, rcv_r, ls_0, ls_i, ls_r, ls_j, ol_lt, ol_le, ol_gt, ol_ge, ol_eq, ol_ne, v_in, v_out, v_isBall, v_isHand, v_shotM, v_shotC, ol_min, ol_max, Bool.and_true, Bool.true_and, Bool.and_false, Bool.false_and, Bool.or_true, Bool.true_or, Bool.or_false, Bool.false_or, if_pos, if_neg, not_true_eq_false, not_false_eq_true, decide_true, decide_false, fDel0, fDel1, pDel1, fDel2, pDel2, fDel3, pDel3, fDel4, pDel4, fDel5, pDel5, fDel6, pDel6, fDel7, pDel7, cDel, List.getElem?_cons_zero, List.getElem?_cons_succ, e_add, e_sub, e_mul, e_div, e_rem, w_id, pr_eq, pr_ne, ↓reduceIte, reduceIte, Int.reduceAdd, Int.reduceMul, Int.reduceSub, Int.reduceNeg, Int.reduceLT, Int.reduceLE, Int.reduceEq, Int.reduceToNat, Nat.reduceAdd, Nat.reduceSub, Nat.reduceMul, Nat.reduceLeDiff, Nat.reduceLT, Nat.reduceEqDiff, ite_true, ite_false, if_true, if_false, Bool.false_eq_true, Bool.not_true, Bool.not_false, Int.toNat_natCast, true_and, and_true, true_or, or_true, and_self, or_self, or_false, false_or, false_and, and_false, Int.neg_neg, Int.neg_zero, Nat.add_zero, Nat.zero_add, Int.zero_add, Int.add_zero, Int.sub_zero, Int.zero_sub, Int.one_ne_zero, fX1_takeOil, bX1_takeOil, e]
    · have e : c - c = 0 := by omega
      simp (disch := (first | with_reducible assumption | omega)) only [x_c, x_fi, x_fr, x_fj, x_vi, x_vr, x_vj, x_fi1, x_fi2, x_fr1, x_fr2, x_fj1, x_fj2, x_ai1, x_ai2, x_ai3, x_ar1, x_ar2, x_ar3, x_t1, x_t2, x_t3, x_t4, x_21, x_22, x_23, x_24, x_n1, x_n2, x_ji1, x_ji2, x_jc, x_j21, x_j22, x_j23, x_js1, x_js2, x_js3, x_ij1, x_ij2, x_ib1, x_ib2, x_c21, x_c22, x_c23, x_cz1, x_cz2, x_an1, x_an2, x_an3, x_or1, x_or2, x_or3, x_nt1, x_nt2, x_anm, x_orm, x_anm0, x_orm0, x_if1, x_if2, x_if3, x_ifm, x_ifm0, x_cf1, x_cf2, x_cf3, x_cfm, x_cfm0, x_a0, x_pi1, x_pi2, x_pr1, x_pr2, x_pj1, x_pj2, x_av, x_cv1, x_cv2, x_cv3, x_cs1, x_cs2, x_cl, x_of1, x_of2, x_so1, x_so2, x_fe1, x_fe2, x_fe3, x_sq1, x_sq2, x_sq3, x_sk, x_st1, x_st2, x_sr1, x_sr2, x_in1, x_in2, x_sf1, x_sf2, x_sf3, x_rt1, x_rt2, x_rz1, x_rz2, x_rj1, x_rj2, x_rv, x_ue, x_pf1, x_pf2, x_pf3, x_pz1, x_pz2, x_pz3, x_as1, x_as2, x_as3, x_as4, x_bs1, x_bs2, x_bs3, x_bs4, x_zs1, x_zs2, x_zs3, x_zs4, x_uf1, x_uf2, x_uf3, x_uf4, x_uf5, x_ua1, x_ua2, x_ua3, x_ua4, x_ua5, x_ua6, x_cp1, x_cp2, x_cp3, x_sw1, x_sw2, x_sw3, b_t, b_f, b_a, b_o, b_n, b_i, ex_0, ex_i, ex_r, ex_j, ol_ent, List.length_cons, List.length_nil, List.replicate, List.cons_append, List.nil_append, rcv_r, ls_0, ls_i, ls_r, ls_j, ol_lt, ol_le, ol_gt, ol_ge, ol_eq, ol_ne, v_in, v_out, v_isBall, v_isHand, v_shotM, v_shotC, ol_min, ol_max, Bool.and_true, Bool.true_and, Bool.and_false, Bool.false_and, Bool.or_true, Bool.true_or, Bool.or_false, Bool.false_or, if_pos, if_neg, not_true_eq_false, not_false_eq_true, decide_true, decide_false, fDel0, fDel1, pDel1, fDel2, pDel2, fDel3, pDel3, fDel4, pDel4, fDel5, pDel5, fDel6, pDel6, fDel7, pDel7, cDel, List.getElem?_cons_zero, List.getElem?_cons_succ, e_add, e_sub, e_mul, e_div, e_rem, w_id, pr_eq, pr_ne, ↓reduceIte, reduceIte, Int.reduceAdd, Int.reduceMul, Int.reduceSub, Int.reduceNeg, Int.reduceLT, Int.reduceLE, Int.reduceEq, Int.reduceToNat, Nat.reduceAdd, Nat.reduceSub, Nat.reduceMul, Nat.reduceLeDiff, Nat.reduceLT, Nat.reduceEqDiff, ite_true, ite_false, if_true, if_false, Bool.false_eq_true, Bool.not_true, Bool.not_false, Int.toNat_natCast, true_and, and_true, true_or, or_true, and_self, or_self, or_false, false_or, false_and, and_false, Int.neg_neg, Int.neg_zero, Nat.add_zero, Nat.zero_add, Int.zero_add, Int.add_zero, Int.sub_zero, Int.zero_sub, Int.one_ne_zero, fX1_takeOil, bX1_takeOil, e]
  · have hc0 : c = 0 := by omega
    subst hc0
    by_cases hf : 0 < g d 4
    · simp (disch := (first | with_reducible assumption | omega)) only [x_c, x_fi, x_fr, x_fj, x_vi, x_vr, x_vj, x_fi1, x_fi2, x_fr1, x_fr2, x_fj1, x_fj2, x_ai1, x_ai2, x_ai3, x_ar1, x_ar2, x_ar3, x_t1, x_t2, x_t3, x_t4, x_21, x_22, x_23, x_24, x_n1, x_n2, x_ji1, x_ji2, x_jc, x_j21, x_j22, x_j23, x_js1, x_js2, x_js3, x_ij1, x_ij2, x_ib1, x_ib2, x_c21, x_c22, x_c23, x_cz1, x_cz2, x_an1, x_an2, x_an3, x_or1, x_or2, x_or3, x_nt1, x_nt2, x_anm, x_orm, x_anm0, x_orm0, x_if1, x_if2, x_if3, x_ifm, x_ifm0, x_cf1, x_cf2, x_cf3, x_cfm, x_cfm0, x_a0, x_pi1, x_pi2, x_pr1, x_pr2, x_pj1, x_pj2, x_av, x_cv1, x_cv2, x_cv3, x_cs1, x_cs2, x_cl, x_of1, x_of2, x_so1, x_so2, x_fe1, x_fe2, x_fe3, x_sq1, x_sq2, x_sq3, x_sk, x_st1, x_st2, x_sr1, x_sr2, x_in1, x_in2, x_sf1, x_sf2, x_sf3, x_rt1, x_rt2, x_rz1, x_rz2, x_rj1, x_rj2, x_rv, x_ue, x_pf1, x_pf2, x_pf3, x_pz1, x_pz2, x_pz3, x_as1, x_as2, x_as3, x_as4, x_bs1, x_bs2, x_bs3, x_bs4, x_zs1, x_zs2, x_zs3, x_zs4, x_uf1, x_uf2, x_uf3, x_uf4, x_uf5, x_ua1, x_ua2, x_ua3, x_ua4, x_ua5, x_ua6, x_cp1, x_cp2, x_cp3, x_sw1, x_sw2, x_sw3, b_t, b_f, b_a, b_o, b_n, b_i, ex_0, ex_i, ex_r, ex_j, ol_ent, List.length_cons, List.length_nil, List.replicate, List.cons_append, List.nil_append, rcv_r, ls_0, ls_i, ls_r, ls_j, ol_lt, ol_le, ol_gt, ol_ge, ol_eq, ol_ne, v_in, v_out, v_isBall, v_isHand, v_shotM, v_shotC, ol_min, ol_max, Bool.and_true, Bool.true_and, Bool.and_false, Bool.false_and, Bool.or_true, Bool.true_or, Bool.or_false, Bool.false_or, if_pos, if_neg, not_true_eq_false, not_false_eq_true, decide_true, decide_false, fDel0, fDel1, pDel1, fDel2, pDel2, fDel3, pDel3, fDel4, pDel4, fDel5, pDel5, fDel6, pDel6, fDel7, pDel7, cDel, List.getElem?_cons_zero, List.getElem?_cons_succ, e_add, e_sub, e_mul, e_div, e_rem, w_id, pr_eq, pr_ne, ↓reduceIte, reduceIte, Int.reduceAdd, Int.reduceMul, Int.reduceSub, Int.reduceNeg, Int.reduceLT, Int.reduceLE, Int.reduceEq, Int.reduceToNat, Nat.reduceAdd, Nat.reduceSub, Nat.reduceMul, Nat.reduceLeDiff, Nat.reduceLT, Nat.reduceEqDiff, ite_true, ite_false, if_true, if_false, Bool.false_eq_true, Bool.not_true, Bool.not_false, Int.toNat_natCast, true_and, and_true, true_or, or_true, and_self, or_self, or_false, false_or, false_and, and_false, Int.neg_neg, Int.neg_zero, Nat.add_zero, Nat.zero_add, Int.zero_add, Int.add_zero, Int.sub_zero, Int.zero_sub, Int.one_ne_zero, fX1_takeOil, bX1_takeOil]
    · simp (disch := (first | with_reducible assumption | omega)) only [x_c, x_fi, x_fr, x_fj, x_vi, x_vr, x_vj, x_fi1, x_fi2, x_fr1, x_fr2, x_fj1, x_fj2, x_ai1, x_ai2, x_ai3, x_ar1, x_ar2, x_ar3, x_t1, x_t2, x_t3, x_t4, x_21, x_22, x_23, x_24, x_n1, x_n2, x_ji1, x_ji2, x_jc, x_j21, x_j22, x_j23, x_js1, x_js2, x_js3, x_ij1, x_ij2, x_ib1, x_ib2, x_c21, x_c22, x_c23, x_cz1, x_cz2, x_an1, x_an2, x_an3, x_or1, x_or2, x_or3, x_nt1, x_nt2, x_anm, x_orm, x_anm0, x_orm0, x_if1, x_if2, x_if3, x_ifm, x_ifm0, x_cf1, x_cf2, x_cf3, x_cfm, x_cfm0, x_a0, x_pi1, x_pi2, x_pr1, x_pr2, x_pj1, x_pj2, x_av, x_cv1, x_cv2, x_cv3, x_cs1, x_cs2, x_cl, x_of1, x_of2, x_so1, x_so2, x_fe1, x_fe2, x_fe3, x_sq1, x_sq2, x_sq3, x_sk, x_st1, x_st2, x_sr1, x_sr2, x_in1, x_in2, x_sf1, x_sf2, x_sf3, x_rt1, x_rt2, x_rz1, x_rz2, x_rj1, x_rj2, x_rv, x_ue, x_pf1, x_pf2, x_pf3, x_pz1, x_pz2, x_pz3, x_as1, x_as2, x_as3, x_as4, x_bs1, x_bs2, x_bs3, x_bs4, x_zs1, x_zs2, x_zs3, x_zs4, x_uf1, x_uf2, x_uf3, x_uf4, x_uf5, x_ua1, x_ua2, x_ua3, x_ua4, x_ua5, x_ua6, x_cp1, x_cp2, x_cp3, x_sw1, x_sw2, x_sw3, b_t, b_f, b_a, b_o, b_n, b_i, ex_0, ex_i, ex_r, ex_j, ol_ent, List.length_cons, List.length_nil, List.replicate, List.cons_append, List.nil_append, rcv_r, ls_0, ls_i, ls_r, ls_j, ol_lt, ol_le, ol_gt, ol_ge, ol_eq, ol_ne, v_in, v_out, v_isBall, v_isHand, v_shotM, v_shotC, ol_min, ol_max, Bool.and_true, Bool.true_and, Bool.and_false, Bool.false_and, Bool.or_true, Bool.true_or, Bool.or_false, Bool.false_or, if_pos, if_neg, not_true_eq_false, not_false_eq_true, decide_true, decide_false, fDel0, fDel1, pDel1, fDel2, pDel2, fDel3, pDel3, fDel4, pDel4, fDel5, pDel5, fDel6, pDel6, fDel7, pDel7, cDel, List.getElem?_cons_zero, List.getElem?_cons_succ, e_add, e_sub, e_mul, e_div, e_rem, w_id, pr_eq, pr_ne, ↓reduceIte, reduceIte, Int.reduceAdd, Int.reduceMul, Int.reduceSub, Int.reduceNeg, Int.reduceLT, Int.reduceLE, Int.reduceEq, Int.reduceToNat, Nat.reduceAdd, Nat.reduceSub, Nat.reduceMul, Nat.reduceLeDiff, Nat.reduceLT, Nat.reduceEqDiff, ite_true, ite_false, if_true, if_false, Bool.false_eq_true, Bool.not_true, Bool.not_false, Int.toNat_natCast, true_and, and_true, true_or, or_true, and_self, or_self, or_false, false_or, false_and, and_false, Int.neg_neg, Int.neg_zero, Nat.add_zero, Nat.zero_add, Int.zero_add, Int.add_zero, Int.sub_zero, Int.zero_sub, Int.one_ne_zero, fX1_takeOil, bX1_takeOil]
def tI (b a s : Int) : Nat → Int := fun f => if f = 1 then b * 10 + 5 else if f = 2 then a else if f = 3 then s else 0
def tS (k d : Int) (s : Nat → Int) : Nat → Int := fun f => if f = 1 then (if s 1 + tV (s 2) (s 3) (tGrip k d) < 0 ∨ 389 < s 1 + tV (s 2) (s 3) (tGrip k d) then -1 else s 1 + tV (s 2) (s 3) (tGrip k d)) else if f = 2 then tV (s 2) (s 3) (tGrip k d) else if f = 3 then tR (s 3) (tGrip k d) else if f = 4 then s 4 + (d - tN d (s 4)) else if f = 5 then s 5 + (if tGrip k d = 0 then 1 else 0) else if f = 6 then s 6 + (if tV (s 2) (s 3) (tGrip k d) = s 2 then 0 else 1) else 0
def tT0 (k : Int) (c : Nat → Int) (b a s : Int) : Nat → Nat → Int
  | 0 => tI b a s
  | n + 1 => if tT0 k c b a s n 1 = -1 then tT0 k c b a s n else tS k (c (39 * n + (tT0 k c b a s n 1).toNat / 10)) (tT0 k c b a s n)
set_option maxHeartbeats 200000 in
theorem tT_ex : ∃ F : Int → (Nat → Int) → Int → Int → Int → Nat → Nat → Int, F = tT0 := ⟨_, rfl⟩
noncomputable def tT : Int → (Nat → Int) → Int → Int → Int → Nat → Nat → Int := Classical.choose tT_ex
set_option maxHeartbeats 200000 in
theorem tT_eq : tT = tT0 := Classical.choose_spec tT_ex
set_option maxHeartbeats 200000 in
theorem tT_0 (k : Int) (c : Nat → Int) (b a s : Int) : tT k c b a s 0 = tI b a s := by rw [tT_eq]; rfl
set_option maxHeartbeats 200000 in
theorem tT_s (k : Int) (c : Nat → Int) (b a s : Int) (n : Nat) : tT k c b a s (n + 1) = if tT k c b a s n 1 = -1 then tT k c b a s n else tS k (c (39 * n + (tT k c b a s n 1).toNat / 10)) (tT k c b a s n) := by rw [tT_eq]; rfl
noncomputable def tMk0 (k : Int) (c : Nat → Int) (b a s : Int) : Nat → Nat → Int
  | 0 => c
  | n + 1 => if tT k c b a s n 1 = -1 then tMk0 k c b a s n else fun j => if j = 39 * n + (tT k c b a s n 1).toNat / 10 then tN (c j) (tT k c b a s n 4) else tMk0 k c b a s n j
set_option maxHeartbeats 200000 in
theorem tMk_ex : ∃ F : Int → (Nat → Int) → Int → Int → Int → Nat → Nat → Int, F = tMk0 := ⟨_, rfl⟩
noncomputable def tMk : Int → (Nat → Int) → Int → Int → Int → Nat → Nat → Int := Classical.choose tMk_ex
set_option maxHeartbeats 200000 in
theorem tMk_eq : tMk = tMk0 := Classical.choose_spec tMk_ex
set_option maxHeartbeats 200000 in
theorem tMk_0 (k : Int) (c : Nat → Int) (b a s : Int) : tMk k c b a s 0 = c := by rw [tMk_eq]; rfl
set_option maxHeartbeats 200000 in
theorem tMk_s (k : Int) (c : Nat → Int) (b a s : Int) (n : Nat) : tMk k c b a s (n + 1) = if tT k c b a s n 1 = -1 then tMk k c b a s n else fun j => if j = 39 * n + (tT k c b a s n 1).toNat / 10 then tN (c j) (tT k c b a s n 4) else tMk k c b a s n j := by rw [tMk_eq]; rfl
/-- a shot as the document bounds it, over cells as they may be -/
def shOk (k : Int) (c : Nat → Int) (b a s : Int) : Prop := 1 ≤ k ∧ k ≤ 9 ∧ (∀ j, j < 780 → 0 ≤ c j ∧ c j ≤ 99) ∧ 0 ≤ b ∧ b ≤ 38 ∧ -20 ≤ a ∧ a ≤ 20 ∧ -30 ≤ s ∧ s ≤ 30
def tOk (s : Nat → Int) (n : Nat) : Prop := -1 ≤ s 1 ∧ s 1 ≤ 389 ∧ -40 ≤ s 2 ∧ s 2 ≤ 40 ∧ -30 ≤ s 3 ∧ s 3 ≤ 30 ∧ 0 ≤ s 4 ∧ s 4 ≤ 9 ∧ 0 ≤ s 5 ∧ s 5 ≤ n ∧ 0 ≤ s 6 ∧ s 6 ≤ n
set_option maxHeartbeats 200000 in
theorem tS_ok {k d : Int} {s : Nat → Int} {n : Nat} (hk1 : 1 ≤ k) (hk2 : k ≤ 9) (hd1 : 0 ≤ d) (hd2 : d ≤ 99) (h : tOk s n) : tOk (tS k d s) (n + 1) := by
  unfold tOk at h
  have hv := tV_b (v := s 2) (r := s 3) (q := tGrip k d)
  have hr := tR_b (r := s 3) (q := tGrip k d) (by omega) (by omega)
  have hn : 0 ≤ s 4 + (d - tN d (s 4)) ∧ s 4 + (d - tN d (s 4)) ≤ 9 := by unfold tN; omega
  unfold tOk tS
  simp only [reduceIte, Nat.reduceEqDiff]
  omega
set_option maxHeartbeats 200000 in
theorem tT_ok {k : Int} {c : Nat → Int} {b a s : Int} (h : shOk k c b a s) : ∀ n, n ≤ 20 → tOk (tT k c b a s n) n := by
  obtain ⟨h1, h2, h3, h4⟩ := h
  intro n
  induction n with
  | zero =>
    intro _
    rw [tT_0]
    unfold tOk tI
    simp only [reduceIte, Nat.reduceEqDiff]
    omega
  | succ n ih =>
    intro hn
    have ih := ih (by omega)
    rw [tT_s]
    by_cases hg : tT k c b a s n 1 = -1
    · rw [if_pos hg]
      unfold tOk at ih ⊢
      omega
    · rw [if_neg hg]
      have hi : 39 * n + (tT k c b a s n 1).toNat / 10 < 780 := by unfold tOk at ih; omega
      exact tS_ok h1 h2 (h3 _ hi).1 (h3 _ hi).2 ih
set_option maxHeartbeats 200000 in
theorem tT_gut {k : Int} {c : Nat → Int} {b a s : Int} {n m : Nat} (hg : tT k c b a s n 1 = -1) (hm : n ≤ m) : tT k c b a s m = tT k c b a s n ∧ tMk k c b a s m = tMk k c b a s n := by
  obtain ⟨e, rfl⟩ : ∃ e, m = n + e := ⟨m - n, by omega⟩
  clear hm
  induction e with
  | zero => exact ⟨rfl, rfl⟩
  | succ e ih => rw [← Nat.add_assoc, tT_s, tMk_s, ih.1, if_pos hg, if_pos hg]; exact ⟨rfl, ih.2⟩
set_option maxHeartbeats 200000 in
theorem tMk_up {k : Int} {c : Nat → Int} {b a s : Int} (h : shOk k c b a s) : ∀ n, n ≤ 20 → ∀ j, 39 * n ≤ j → tMk k c b a s n j = c j := by
  intro n
  induction n with
  | zero => intro _ j _; rw [tMk_0]
  | succ n ih =>
    intro hn j hj
    have ho := tT_ok h n (by omega)
    rw [tMk_s]
    by_cases hg : tT k c b a s n 1 = -1
    · rw [if_pos hg]; exact ih (by omega) j (by omega)
    · rw [if_neg hg]
      unfold tOk at ho
      show (if _ then _ else _) = _
      rw [if_neg (by omega)]
      exact ih (by omega) j (by omega)
set_option maxHeartbeats 200000 in
theorem tMk_b {k : Int} {c : Nat → Int} {b a s : Int} (h : shOk k c b a s) : ∀ n, n ≤ 20 → ∀ j, j < 780 → 0 ≤ tMk k c b a s n j ∧ tMk k c b a s n j ≤ 99 := by
  intro n
  induction n with
  | zero => intro _ j hj; rw [tMk_0]; exact h.2.2.1 j hj
  | succ n ih =>
    intro hn j hj
    have ho := tT_ok h n (by omega)
    rw [tMk_s]
    by_cases hg : tT k c b a s n 1 = -1
    · rw [if_pos hg]; exact ih (by omega) j hj
    · rw [if_neg hg]
      show (0 : Int) ≤ (if _ then _ else _) ∧ (if _ then _ else _) ≤ (99 : Int)
      have h3 := h.2.2.1 j hj
      by_cases e : j = 39 * n + (tT k c b a s n 1).toNat / 10
      · rw [if_pos e]; unfold tN; omega
      · rw [if_neg e]; exact ih (by omega) j hj
set_option maxHeartbeats 200000 in
theorem td10 (P : Nat) : ((P : Nat) : Int).tdiv 10 = ((P / 10 : Nat) : Int) := rfl
