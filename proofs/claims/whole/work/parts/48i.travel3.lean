/-! the class's travel: the loop -/
def TP (g : pg) (d l bl : Nat) (b a s mk : Int) (n : Nat) (g' : pg) : Prop := (∀ f, 1 ≤ f → f ≤ 6 → g' d f = tT (g bl 0) (g (l + 1)) b a s n f) ∧ (∀ j, j < 780 → g' (l + 1) j = if mk = 0 then g (l + 1) j else tMk (g bl 0) (g (l + 1)) b a s n j) ∧ ∀ x j, ¬ (x = d ∧ 1 ≤ j ∧ j ≤ 6) → ¬ (x = l + 1 ∧ j < 780) → g' x j = g x j
def tLo (d l bl : Nat) (b a s mk : Int) (n : Nat) (x y z : ol_V) : ol_L := [.inr (.inl (some d)), .inr (.inl (some l)), .inl b, .inl a, .inl s, .inr (.inl (some bl)), .inl mk, .inr (.inl (some (l + 1))), .inl (39 * (n : Int)), x, y, z]
set_option maxHeartbeats 200000 in
theorem tGrip_f (k d : Int) : k * (if 0 < 10 - d then 10 - d else 0) = tGrip k d := rfl
set_option maxHeartbeats 200000 in
theorem travel_b {g : pg} {t : pt} {d l bl : Nat} (hd : isDel d) (hl : isLan l) (hb : isBal bl) (hl2 : l ≤ 16) (hd2 : 25 ≤ d) (hd3 : d ≤ 37) (hb2 : 53 ≤ bl) {b a s mk : Int} (hs : shOk (g bl 0) (g (l + 1)) b a s) (hmk : mk = 0 ∨ mk = 1) {n : Nat} (hn : n < 20) {g' : pg} (hP : TP g d l bl b a s mk n g') (hg : ¬ tT (g bl 0) (g (l + 1)) b a s n 1 = -1) (x y z : ol_V) : ∃ g'' x' y' z', wX1_travel_0b (tLo d l bl b a s mk n x y z) (pb g' t, 0, 0) = some (none, tLo d l bl b a s mk (n + 1) x' y' z', (pb g'' t, 0, 0)) ∧ TP g d l bl b a s mk (n + 1) g'' := by
  obtain ⟨hf, hc, hfr⟩ := hP
  have ho := tT_ok hs n (by omega)
  obtain ⟨k1, k2, hcb, hs4⟩ := hs
  have hs : shOk (g bl 0) (g (l + 1)) b a s := ⟨k1, k2, hcb, hs4⟩
  have o := ho
  unfold tOk at o
  have f1 := hf 1 (by decide) (by decide)
  have f2 := hf 2 (by decide) (by decide)
  have f3 := hf 3 (by decide) (by decide)
  have f4 := hf 4 (by decide) (by decide)
  have f5 := hf 5 (by decide) (by decide)
  have f6 := hf 6 (by decide) (by decide)
  have hcu := tMk_up hs n (by omega)
  have hTs := tT_s (g bl 0) (g (l + 1)) b a s n
  have hCs := tMk_s (g bl 0) (g (l + 1)) b a s n
  rw [if_neg hg] at hTs hCs
  generalize hT : tT (g bl 0) (g (l + 1)) b a s n = T at *
  obtain ⟨P, hPe⟩ : ∃ P : Nat, T 1 = (P : Int) := ⟨(T 1).toNat, by omega⟩
  have hP2 : P < 390 := by omega
  have hix : 39 * n + P / 10 < 780 := by omega
  have eix : (39 * (n : Int) + ((P / 10 : Nat) : Int)).toNat = 39 * n + P / 10 := by omega
  have hC : g' (l + 1) (39 * n + P / 10) = g (l + 1) (39 * n + P / 10) := by
    rw [hc _ hix]
    split
    · rfl
    · exact hcu _ (by omega)
  have hCb := hcb _ hix
  rw [hPe, Int.toNat_natCast] at hTs hCs
  have hk : g' bl 0 = g bl 0 := hfr _ _ (by omega) (by omega)
  generalize hCC : g (l + 1) (39 * n + P / 10) = C at *
  have hq := tGrip_b (k := g bl 0) (d := C) k1 k2 hCb.1
  have hq' := hq
  rw [← tGrip_f] at hq'
  obtain ⟨g1, e1, q2, q3, q5, q6, qf⟩ := v_turnOn (g := g') (t := t) hd (q := tGrip (g bl 0) C) hq.1 hq.2 (by omega) (by omega) (by omega) (by omega) (by omega) (by omega) (by omega) (by omega)
  have q1 : g1 d 1 = (P : Int) := by rw [qf _ _ (by omega), f1, hPe]
  have q4 : g1 d 4 = T 4 := by rw [qf _ _ (by omega), f4]
  rw [f2, f3] at q2
  rw [f3] at q3
  rw [f5] at q5
  rw [f2, f3, f6] at q6
  have hV := tV_b (v := T 2) (r := T 3) (q := tGrip (g bl 0) C)
  have hN : 0 ≤ tN C (T 4) ∧ tN C (T 4) ≤ 99 := by unfold tN; omega
  have hN2 : -1 ≤ C - tN C (T 4) ∧ C - tN C (T 4) ≤ 1 := by unfold tN; omega
  have hTok : tOk (tT (g bl 0) (g (l + 1)) b a s (n + 1)) (n + 1) := tT_ok hs (n + 1) (by omega)
  have eN : 39 * (n : Int) + 39 = 39 * ((n + 1 : Nat) : Int) := by omega
  have eT : C - (C - tN C (T 4)) = tN C (T 4) := by omega
  -- place behind the stretch
  have fin : ∀ g2 : pg, (g2 d 1 = if (P : Int) + tV (T 2) (T 3) (tGrip (g bl 0) C) < 0 ∨ 389 < (P : Int) + tV (T 2) (T 3) (tGrip (g bl 0) C) then -1 else (P : Int) + tV (T 2) (T 3) (tGrip (g bl 0) C)) → (g2 d 4 = T 4 + (C - tN C (T 4))) → (∀ f, f = 2 ∨ f = 3 ∨ f = 5 ∨ f = 6 → g2 d f = g1 d f) → (∀ j, j < 780 → g2 (l + 1) j = if mk = 0 then g (l + 1) j else if j = 39 * n + P / 10 then tN (g (l + 1) j) (T 4) else tMk (g bl 0) (g (l + 1)) b a s n j) → (∀ x j, ¬ (x = d ∧ 1 ≤ j ∧ j ≤ 6) → ¬ (x = l + 1 ∧ j < 780) → g2 x j = g1 x j) → TP g d l bl b a s mk (n + 1) g2 := by
    intro g2 p1 p2 p3 p4 p5
    refine ⟨?_, ?_, ?_⟩
    · intro f hf1 hf2
      rw [hTs]
      unfold tS
      rcases (show f = 1 ∨ f = 2 ∨ f = 3 ∨ f = 4 ∨ f = 5 ∨ f = 6 by omega) with rfl | rfl | rfl | rfl | rfl | rfl
      · rw [p1]; simp only [reduceIte, hPe]
      · rw [p3 2 (by omega), q2]; rfl
      · rw [p3 3 (by omega), q3]; rfl
      · rw [p2]; rfl
      · rw [p3 5 (by omega), q5]; rfl
      · rw [p3 6 (by omega), q6]; rfl
    · intro j hj
      rw [p4 j hj, hCs]
    · intro x j a1 a2
      rw [p5 x j a1 a2, qf x j (by omega), hfr x j a1 a2]
  rcases hmk with rfl | rfl
  · by_cases hpl : (P : Int) + tV (T 2) (T 3) (tGrip (g bl 0) C) < 0 ∨ 389 < (P : Int) + tV (T 2) (T 3) (tGrip (g bl 0) C)
    · refine ⟨_, _, _, _, by (simp (disch := (first | with_reducible assumption | omega)) only [x_c, x_fi, x_fr, x_fj, x_vi, x_vr, x_vj, x_fi1, x_fi2, x_fr1, x_fr2, x_fj1, x_fj2, x_ai1, x_ai2, x_ai3, x_ar1, x_ar2, x_ar3, x_t1, x_t2, x_t3, x_t4, x_21, x_22, x_23, x_24, x_n1, x_n2, x_ji1, x_ji2, x_jc, x_j21, x_j22, x_j23, x_js1, x_js2, x_js3, x_ij1, x_ij2, x_ib1, x_ib2, x_c21, x_c22, x_c23, x_cz1, x_cz2, x_an1, x_an2, x_an3, x_or1, x_or2, x_or3, x_nt1, x_nt2, x_anm, x_orm, x_anm0, x_orm0, x_if1, x_if2, x_if3, x_ifm, x_ifm0, x_cf1, x_cf2, x_cf3, x_cfm, x_cfm0, x_a0, x_pi1, x_pi2, x_pr1, x_pr2, x_pj1, x_pj2, x_av, x_cv1, x_cv2, x_cv3, x_cs1, x_cs2, x_cl, x_of1, x_of2, x_so1, x_so2, x_fe1, x_fe2, x_fe3, x_sq1, x_sq2, x_sq3, x_sk, x_st1, x_st2, x_sr1, x_sr2, x_in1, x_in2, x_sf1, x_sf2, x_sf3, x_rt1, x_rt2, x_rz1, x_rz2, x_rj1, x_rj2, x_rv, x_ue, x_pf1, x_pf2, x_pf3, x_pz1, x_pz2, x_pz3, x_as1, x_as2, x_as3, x_as4, x_bs1, x_bs2, x_bs3, x_bs4, x_zs1, x_zs2, x_zs3, x_zs4, x_uf1, x_uf2, x_uf3, x_uf4, x_uf5, x_ua1, x_ua2, x_ua3, x_ua4, x_ua5, x_ua6, x_cp1, x_cp2, x_cp3, x_sw1, x_sw2, x_sw3, b_t, b_f, b_a, b_o, b_n, b_i, ex_0, ex_i, ex_r, ex_j, ol_ent, List.length_cons, List.length_nil, List.replicate, List.cons_append, List.nil_append, rcv_r, ls_0, ls_i, ls_r, ls_j, ol_lt, ol_le, ol_gt, ol_ge, ol_eq, ol_ne, v_in, v_out, v_isBall, v_isHand, v_shotM, v_shotC, ol_min, ol_max, Bool.and_true, Bool.true_and, Bool.and_false, Bool.false_and, Bool.or_true, Bool.true_or, Bool.or_false, Bool.false_or, if_pos, if_neg, not_true_eq_false, not_false_eq_true, decide_true, decide_false, fDel0, fDel1, pDel1, fDel2, pDel2, fDel3, pDel3, fDel4, pDel4, fDel5, pDel5, fDel6, pDel6, fDel7, pDel7, cDel, fLan0, cLan, aLan, sLan, fBal0, pBal0, fBal1, pBal1, cBal, List.getElem?_cons_zero, List.getElem?_cons_succ, e_add, e_sub, e_mul, e_div, e_rem, w_id, pr_eq, pr_ne, ↓reduceIte, reduceIte, Int.reduceAdd, Int.reduceMul, Int.reduceSub, Int.reduceNeg, Int.reduceLT, Int.reduceLE, Int.reduceEq, Int.reduceToNat, Nat.reduceAdd, Nat.reduceSub, Nat.reduceMul, Nat.reduceLeDiff, Nat.reduceLT, Nat.reduceEqDiff, ite_true, ite_false, if_true, if_false, Bool.false_eq_true, Bool.not_true, Bool.not_false, Int.toNat_natCast, true_and, and_true, true_or, or_true, and_self, or_self, or_false, false_or, false_and, and_false, Int.neg_neg, Int.neg_zero, Nat.add_zero, Nat.zero_add, Int.zero_add, Int.add_zero, Int.sub_zero, Int.zero_sub, Int.one_ne_zero, wX1_travel_0b, tLo, f1, hPe, td10, eix, hC, hk, tGrip_f, e1, v_takeOil, q1, q2, q4, eN]) <;> rfl, ?_⟩
      apply fin
      · rw [if_pos hpl, pr_eq]
      · rw [pr_ne (by omega), pr_ne (by omega), pr_eq]
      · intro f hf; rw [pr_ne (by omega), pr_ne (by omega), pr_ne (by omega)]
      · intro j hj; rw [pr_ne (by omega), pr_ne (by omega), pr_ne (by omega), qf _ _ (by omega), hc j hj]; rfl
      · intro x j a1 a2; rw [pr_ne (by omega), pr_ne (by omega), pr_ne (by omega)]
    · refine ⟨_, _, _, _, by (simp (disch := (first | with_reducible assumption | omega)) only [x_c, x_fi, x_fr, x_fj, x_vi, x_vr, x_vj, x_fi1, x_fi2, x_fr1, x_fr2, x_fj1, x_fj2, x_ai1, x_ai2, x_ai3, x_ar1, x_ar2, x_ar3, x_t1, x_t2, x_t3, x_t4, x_21, x_22, x_23, x_24, x_n1, x_n2, x_ji1, x_ji2, x_jc, x_j21, x_j22, x_j23, x_js1, x_js2, x_js3, x_ij1, x_ij2, x_ib1, x_ib2, x_c21, x_c22, x_c23, x_cz1, x_cz2, x_an1, x_an2, x_an3, x_or1, x_or2, x_or3, x_nt1, x_nt2, x_anm, x_orm, x_anm0, x_orm0, x_if1, x_if2, x_if3, x_ifm, x_ifm0, x_cf1, x_cf2, x_cf3, x_cfm, x_cfm0, x_a0, x_pi1, x_pi2, x_pr1, x_pr2, x_pj1, x_pj2, x_av, x_cv1, x_cv2, x_cv3, x_cs1, x_cs2, x_cl, x_of1, x_of2, x_so1, x_so2, x_fe1, x_fe2, x_fe3, x_sq1, x_sq2, x_sq3, x_sk, x_st1, x_st2, x_sr1, x_sr2, x_in1, x_in2, x_sf1, x_sf2, x_sf3, x_rt1, x_rt2, x_rz1, x_rz2, x_rj1, x_rj2, x_rv, x_ue, x_pf1, x_pf2, x_pf3, x_pz1, x_pz2, x_pz3, x_as1, x_as2, x_as3, x_as4, x_bs1, x_bs2, x_bs3, x_bs4, x_zs1, x_zs2, x_zs3, x_zs4, x_uf1, x_uf2, x_uf3, x_uf4, x_uf5, x_ua1, x_ua2, x_ua3, x_ua4, x_ua5, x_ua6, x_cp1, x_cp2, x_cp3, x_sw1, x_sw2, x_sw3, b_t, b_f, b_a, b_o, b_n, b_i, ex_0, ex_i, ex_r, ex_j, ol_ent, List.length_cons, List.length_nil, List.replicate, List.cons_append, List.nil_append, rcv_r, ls_0, ls_i, ls_r, ls_j, ol_lt, ol_le, ol_gt, ol_ge, ol_eq, ol_ne, v_in, v_out, v_isBall, v_isHand, v_shotM, v_shotC, ol_min, ol_max, Bool.and_true, Bool.true_and, Bool.and_false, Bool.false_and, Bool.or_true, Bool.true_or, Bool.or_false, Bool.false_or, if_pos, if_neg, not_true_eq_false, not_false_eq_true, decide_true, decide_false, fDel0, fDel1, pDel1, fDel2, pDel2, fDel3, pDel3, fDel4, pDel4, fDel5, pDel5, fDel6, pDel6, fDel7, pDel7, cDel, fLan0, cLan, aLan, sLan, fBal0, pBal0, fBal1, pBal1, cBal, List.getElem?_cons_zero, List.getElem?_cons_succ, e_add, e_sub, e_mul, e_div, e_rem, w_id, pr_eq, pr_ne, ↓reduceIte, reduceIte, Int.reduceAdd, Int.reduceMul, Int.reduceSub, Int.reduceNeg, Int.reduceLT, Int.reduceLE, Int.reduceEq, Int.reduceToNat, Nat.reduceAdd, Nat.reduceSub, Nat.reduceMul, Nat.reduceLeDiff, Nat.reduceLT, Nat.reduceEqDiff, ite_true, ite_false, if_true, if_false, Bool.false_eq_true, Bool.not_true, Bool.not_false, Int.toNat_natCast, true_and, and_true, true_or, or_true, and_self, or_self, or_false, false_or, false_and, and_false, Int.neg_neg, Int.neg_zero, Nat.add_zero, Nat.zero_add, Int.zero_add, Int.add_zero, Int.sub_zero, Int.zero_sub, Int.one_ne_zero, wX1_travel_0b, tLo, f1, hPe, td10, eix, hC, hk, tGrip_f, e1, v_takeOil, q1, q2, q4, eN]) <;> rfl, ?_⟩
      apply fin
      · rw [if_neg hpl, pr_eq]
      · rw [pr_ne (by omega), pr_eq]
      · intro f hf; rw [pr_ne (by omega), pr_ne (by omega)]
      · intro j hj; rw [pr_ne (by omega), pr_ne (by omega), qf _ _ (by omega), hc j hj]; rfl
      · intro x j a1 a2; rw [pr_ne (by omega), pr_ne (by omega)]
  · have hst : ∀ j, j < 780 → pu (pu g1 d 4 (T 4 + (C - tN C (T 4)))) (l + 1) (39 * n + P / 10) (tN C (T 4)) (l + 1) j = if (1 : Int) = 0 then g (l + 1) j else if j = 39 * n + P / 10 then tN (g (l + 1) j) (T 4) else tMk (g bl 0) (g (l + 1)) b a s n j := by
      intro j hj
      rw [if_neg (by decide)]
      by_cases ej : j = 39 * n + P / 10
      · subst ej; rw [pr_eq, if_pos rfl, hCC]
      · rw [if_neg ej, pr_ne (by omega), pr_ne (by omega), qf _ _ (by omega), hc j hj, if_neg (by decide)]
    by_cases hpl : (P : Int) + tV (T 2) (T 3) (tGrip (g bl 0) C) < 0 ∨ 389 < (P : Int) + tV (T 2) (T 3) (tGrip (g bl 0) C)
    · refine ⟨_, _, _, _, by (simp (disch := (first | with_reducible assumption | omega)) only [x_c, x_fi, x_fr, x_fj, x_vi, x_vr, x_vj, x_fi1, x_fi2, x_fr1, x_fr2, x_fj1, x_fj2, x_ai1, x_ai2, x_ai3, x_ar1, x_ar2, x_ar3, x_t1, x_t2, x_t3, x_t4, x_21, x_22, x_23, x_24, x_n1, x_n2, x_ji1, x_ji2, x_jc, x_j21, x_j22, x_j23, x_js1, x_js2, x_js3, x_ij1, x_ij2, x_ib1, x_ib2, x_c21, x_c22, x_c23, x_cz1, x_cz2, x_an1, x_an2, x_an3, x_or1, x_or2, x_or3, x_nt1, x_nt2, x_anm, x_orm, x_anm0, x_orm0, x_if1, x_if2, x_if3, x_ifm, x_ifm0, x_cf1, x_cf2, x_cf3, x_cfm, x_cfm0, x_a0, x_pi1, x_pi2, x_pr1, x_pr2, x_pj1, x_pj2, x_av, x_cv1, x_cv2, x_cv3, x_cs1, x_cs2, x_cl, x_of1, x_of2, x_so1, x_so2, x_fe1, x_fe2, x_fe3, x_sq1, x_sq2, x_sq3, x_sk, x_st1, x_st2, x_sr1, x_sr2, x_in1, x_in2, x_sf1, x_sf2, x_sf3, x_rt1, x_rt2, x_rz1, x_rz2, x_rj1, x_rj2, x_rv, x_ue, x_pf1, x_pf2, x_pf3, x_pz1, x_pz2, x_pz3, x_as1, x_as2, x_as3, x_as4, x_bs1, x_bs2, x_bs3, x_bs4, x_zs1, x_zs2, x_zs3, x_zs4, x_uf1, x_uf2, x_uf3, x_uf4, x_uf5, x_ua1, x_ua2, x_ua3, x_ua4, x_ua5, x_ua6, x_cp1, x_cp2, x_cp3, x_sw1, x_sw2, x_sw3, b_t, b_f, b_a, b_o, b_n, b_i, ex_0, ex_i, ex_r, ex_j, ol_ent, List.length_cons, List.length_nil, List.replicate, List.cons_append, List.nil_append, rcv_r, ls_0, ls_i, ls_r, ls_j, ol_lt, ol_le, ol_gt, ol_ge, ol_eq, ol_ne, v_in, v_out, v_isBall, v_isHand, v_shotM, v_shotC, ol_min, ol_max, Bool.and_true, Bool.true_and, Bool.and_false, Bool.false_and, Bool.or_true, Bool.true_or, Bool.or_false, Bool.false_or, if_pos, if_neg, not_true_eq_false, not_false_eq_true, decide_true, decide_false, fDel0, fDel1, pDel1, fDel2, pDel2, fDel3, pDel3, fDel4, pDel4, fDel5, pDel5, fDel6, pDel6, fDel7, pDel7, cDel, fLan0, cLan, aLan, sLan, fBal0, pBal0, fBal1, pBal1, cBal, List.getElem?_cons_zero, List.getElem?_cons_succ, e_add, e_sub, e_mul, e_div, e_rem, w_id, pr_eq, pr_ne, ↓reduceIte, reduceIte, Int.reduceAdd, Int.reduceMul, Int.reduceSub, Int.reduceNeg, Int.reduceLT, Int.reduceLE, Int.reduceEq, Int.reduceToNat, Nat.reduceAdd, Nat.reduceSub, Nat.reduceMul, Nat.reduceLeDiff, Nat.reduceLT, Nat.reduceEqDiff, ite_true, ite_false, if_true, if_false, Bool.false_eq_true, Bool.not_true, Bool.not_false, Int.toNat_natCast, true_and, and_true, true_or, or_true, and_self, or_self, or_false, false_or, false_and, and_false, Int.neg_neg, Int.neg_zero, Nat.add_zero, Nat.zero_add, Int.zero_add, Int.add_zero, Int.sub_zero, Int.zero_sub, Int.one_ne_zero, wX1_travel_0b, tLo, f1, hPe, td10, eix, hC, hk, tGrip_f, e1, v_takeOil, q1, q2, q4, eN, eT]) <;> rfl, ?_⟩
      apply fin
      · rw [if_pos hpl, pr_eq]
      · rw [pr_ne (by omega), pr_ne (by omega), pr_ne (by omega), pr_eq]
      · intro f hf; rw [pr_ne (by omega), pr_ne (by omega), pr_ne (by omega), pr_ne (by omega)]
      · intro j hj; rw [pr_ne (by omega), pr_ne (by omega)]; exact hst j hj
      · intro x j a1 a2; rw [pr_ne (by omega), pr_ne (by omega), pr_ne (by omega), pr_ne (by omega)]
    · refine ⟨_, _, _, _, by (simp (disch := (first | with_reducible assumption | omega)) only [x_c, x_fi, x_fr, x_fj, x_vi, x_vr, x_vj, x_fi1, x_fi2, x_fr1, x_fr2, x_fj1, x_fj2, x_ai1, x_ai2, x_ai3, x_ar1, x_ar2, x_ar3, x_t1, x_t2, x_t3, x_t4, x_21, x_22, x_23, x_24, x_n1, x_n2, x_ji1, x_ji2, x_jc, x_j21, x_j22, x_j23, x_js1, x_js2, x_js3, x_ij1, x_ij2, x_ib1, x_ib2, x_c21, x_c22, x_c23, x_cz1, x_cz2, x_an1, x_an2, x_an3, x_or1, x_or2, x_or3, x_nt1, x_nt2, x_anm, x_orm, x_anm0, x_orm0, x_if1, x_if2, x_if3, x_ifm, x_ifm0, x_cf1, x_cf2, x_cf3, x_cfm, x_cfm0, x_a0, x_pi1, x_pi2, x_pr1, x_pr2, x_pj1, x_pj2, x_av, x_cv1, x_cv2, x_cv3, x_cs1, x_cs2, x_cl, x_of1, x_of2, x_so1, x_so2, x_fe1, x_fe2, x_fe3, x_sq1, x_sq2, x_sq3, x_sk, x_st1, x_st2, x_sr1, x_sr2, x_in1, x_in2, x_sf1, x_sf2, x_sf3, x_rt1, x_rt2, x_rz1, x_rz2, x_rj1, x_rj2, x_rv, x_ue, x_pf1, x_pf2, x_pf3, x_pz1, x_pz2, x_pz3, x_as1, x_as2, x_as3, x_as4, x_bs1, x_bs2, x_bs3, x_bs4, x_zs1, x_zs2, x_zs3, x_zs4, x_uf1, x_uf2, x_uf3, x_uf4, x_uf5, x_ua1, x_ua2, x_ua3, x_ua4, x_ua5, x_ua6, x_cp1, x_cp2, x_cp3, x_sw1, x_sw2, x_sw3, b_t, b_f, b_a, b_o, b_n, b_i, ex_0, ex_i, ex_r, ex_j, ol_ent, List.length_cons, List.length_nil, List.replicate, List.cons_append, List.nil_append, rcv_r, ls_0, ls_i, ls_r, ls_j, ol_lt, ol_le, ol_gt, ol_ge, ol_eq, ol_ne, v_in, v_out, v_isBall, v_isHand, v_shotM, v_shotC, ol_min, ol_max, Bool.and_true, Bool.true_and, Bool.and_false, Bool.false_and, Bool.or_true, Bool.true_or, Bool.or_false, Bool.false_or, if_pos, if_neg, not_true_eq_false, not_false_eq_true, decide_true, decide_false, fDel0, fDel1, pDel1, fDel2, pDel2, fDel3, pDel3, fDel4, pDel4, fDel5, pDel5, fDel6, pDel6, fDel7, pDel7, cDel, fLan0, cLan, aLan, sLan, fBal0, pBal0, fBal1, pBal1, cBal, List.getElem?_cons_zero, List.getElem?_cons_succ, e_add, e_sub, e_mul, e_div, e_rem, w_id, pr_eq, pr_ne, ↓reduceIte, reduceIte, Int.reduceAdd, Int.reduceMul, Int.reduceSub, Int.reduceNeg, Int.reduceLT, Int.reduceLE, Int.reduceEq, Int.reduceToNat, Nat.reduceAdd, Nat.reduceSub, Nat.reduceMul, Nat.reduceLeDiff, Nat.reduceLT, Nat.reduceEqDiff, ite_true, ite_false, if_true, if_false, Bool.false_eq_true, Bool.not_true, Bool.not_false, Int.toNat_natCast, true_and, and_true, true_or, or_true, and_self, or_self, or_false, false_or, false_and, and_false, Int.neg_neg, Int.neg_zero, Nat.add_zero, Nat.zero_add, Int.zero_add, Int.add_zero, Int.sub_zero, Int.zero_sub, Int.one_ne_zero, wX1_travel_0b, tLo, f1, hPe, td10, eix, hC, hk, tGrip_f, e1, v_takeOil, q1, q2, q4, eN, eT]) <;> rfl, ?_⟩
      apply fin
      · rw [if_neg hpl, pr_eq]
      · rw [pr_ne (by omega), pr_ne (by omega), pr_eq]
      · intro f hf; rw [pr_ne (by omega), pr_ne (by omega), pr_ne (by omega)]
      · intro j hj; rw [pr_ne (by omega)]; exact hst j hj
      · intro x j a1 a2; rw [pr_ne (by omega), pr_ne (by omega), pr_ne (by omega)]
