/-! the class's pattern -/
set_option maxHeartbeats 200000 in
theorem nE_c {B : Nat → Int} {l a : Nat} {lo hi : Int} {α : Type} {R : Nat × Option α} (hal : a ≤ l) (h : tkE B l a ≤ l → R.1 ≤ l) : (cIf (nOk B l a lo hi) R (tkS B l a, none)).1 ≤ l := by
  rcases Classical.em (nOk B l a lo hi) with c | c
  · rw [cIf_p c]; exact h (nOk_e hal c)
  · rw [cIf_n c]; exact (tok_l (tk_s hal)).1
set_option maxHeartbeats 200000 in
theorem iR_b {B : Nat → Int} {l a : Nat} (hal : tkE B l a ≤ l) : (iR B l a).1 ≤ l := by
  unfold iR
  split
  · unfold layR
    exact nE_c hal fun h => nE_c h fun h => nE_c h fun h => nE_c h fun h => nE_c h fun h => h
  · unfold strR
    exact nE_c hal fun h => nE_c h fun h => h
set_option maxHeartbeats 200000 in
theorem iFl_b {B : Nat → Int} {l n a : Nat} (hal : a ≤ l) : iFl B l n a ≤ l := by
  unfold iFl
  by_cases c : n = 12 ∨ ¬ (tkO B l a = 1 ∨ tkO B l a = 2)
  · rw [if_pos c]; exact (tok_l (tk_s hal)).1
  · rw [if_neg c]
    have hb : (iR B l a).1 ≤ l := iR_b (tok_e (tk_s hal) (by omega) (by omega))
    split
    · exact hb
    · exact (tok_l (tk_s hb)).1
set_option maxHeartbeats 4000000 in
 theorem v_patC {g : pg} {t : pt} {B : Nat → Int} {l k : Nat} (hk : k < 4) (hl : l ≤ 300) (hB : tkB B l) (eB : g 2 = B) (hl2 : g 1 2 = (l : Int)) : ∃ n g', gEnd B l n ∧ gPos B l n ≤ l ∧ ((tkO B l (gPos B l n) = 0 ∧ fX10_pattern [.inr (.inl (some 0)), .inl (k : Int)] (pb g t, 0, 0) = some (some (.inl (n : Int)), (pb g' t, 0, 0)) ∧ g' (45 + 2 * k) 1 = (n : Int) ∧ g' (45 + 2 * k) 2 = 1 ∧ g' 1 2 = 0 ∧ itEq B l g' (46 + 2 * k) n ∧ ∀ x j, ¬ ((x = 1 ∧ 2 ≤ j ∧ j ≤ 6) ∨ x = 3 ∨ x = 4 ∨ x = 45 + 2 * k ∨ x = 46 + 2 * k) → g' x j = g x j) ∨ (¬ tkO B l (gPos B l n) = 0 ∧ (n = 12 ∨ ¬ iOk B l (gPos B l n)) ∧ fX10_pattern [.inr (.inl (some 0)), .inl (k : Int)] (pb g t, 0, 0) = some (some (.inl (-10 - (iFl B l n (gPos B l n) : Int))), (pb g' t, 0, 0)) ∧ ∀ x j, ¬ ((x = 1 ∧ 3 ≤ j ∧ j ≤ 6) ∨ x = 3 ∨ x = 4) → g' x j = g x j)) := by
  obtain ⟨n, g1, hE, hp, hr, hf⟩ := v_findC (g := g) (t := t) hl hB eB hl2
  rcases hr with ⟨h0, e1, h31, hi⟩ | ⟨h0, h12, e1⟩
  · have ip : isPat (45 + 2 * k) := by unfold isPat; omega
    have cp := v_copy5 (g := g1) (t := t) hk h31
    refine ⟨n, pu (pu (pu (gRow g1 4 (46 + 2 * k) 60) (45 + 2 * k) 1 (n : Int)) (45 + 2 * k) 2 1) 1 2 0, hE, hp, Or.inl ⟨h0, ?_, ?_, ?_, pr_eq, ?_, ?_⟩⟩
    · clear hf hi hE hB hp h0
      simp (disch := (first | with_reducible assumption | omega)) only [x_c, x_fi, x_fr, x_fj, x_vi, x_vr, x_vj, x_fi1, x_fi2, x_fr1, x_fr2, x_fj1, x_fj2, x_ai1, x_ai2, x_ai3, x_ar1, x_ar2, x_ar3, x_t1, x_t2, x_t3, x_t4, x_21, x_22, x_23, x_24, x_n1, x_n2, x_ji1, x_ji2, x_jc, x_j21, x_j22, x_j23, x_js1, x_js2, x_js3, x_ij1, x_ij2, x_ib1, x_ib2, x_c21, x_c22, x_c23, x_cz1, x_cz2, x_an1, x_an2, x_an3, x_or1, x_or2, x_or3, x_nt1, x_nt2, x_anm, x_orm, x_anm0, x_orm0, x_if1, x_if2, x_if3, x_ifm, x_ifm0, x_cf1, x_cf2, x_cf3, x_cfm, x_cfm0, x_a0, x_pi1, x_pi2, x_pr1, x_pr2, x_pj1, x_pj2, x_av, x_cv1, x_cv2, x_cv3, x_cs1, x_cs2, x_cl, x_of1, x_of2, x_so1, x_so2, x_fe1, x_fe2, x_fe3, x_sq1, x_sq2, x_sq3, x_sk, x_st1, x_st2, x_sr1, x_sr2, x_in1, x_in2, x_sf1, x_sf2, x_sf3, x_rt1, x_rt2, x_rz1, x_rz2, x_rj1, x_rj2, x_rv, x_ue, x_pf1, x_pf2, x_pf3, x_pz1, x_pz2, x_pz3, x_as1, x_as2, x_as3, x_as4, x_bs1, x_bs2, x_bs3, x_bs4, x_zs1, x_zs2, x_zs3, x_zs4, x_uf1, x_uf2, x_uf3, x_uf4, x_uf5, x_ua1, x_ua2, x_ua3, x_ua4, x_ua5, x_ua6, x_cp1, x_cp2, x_cp3, x_sw1, x_sw2, x_sw3, b_t, b_f, b_a, b_o, b_n, b_i, pu_e, w_d, ex_0, ex_i, ex_r, ex_j, ol_ent, List.length_cons, List.length_nil, List.replicate, List.cons_append, List.nil_append, rcv_r, ls_0, ls_i, ls_r, ls_j, ol_lt, ol_le, ol_gt, ol_ge, ol_eq, ol_ne, v_in, v_out, v_isBall, v_isHand, v_shotM, v_shotC, ol_min, ol_max, Bool.and_true, Bool.true_and, Bool.and_false, Bool.false_and, Bool.or_true, Bool.true_or, Bool.or_false, Bool.false_or, if_pos, if_neg, not_true_eq_false, not_false_eq_true, decide_true, decide_false, f0_0, f0_1, f0_2, f0_3, f0_4, f0_5, f0_6, f0_7, f0_8, f0_9, f0_10, f0_11, f0_12, f0_13, f0_14, f0_15, p0_15, f0_16, p0_16, f0_17, c0, f1_0, f1_1, f1_2, p1_2, f1_3, p1_3, f1_4, p1_4, f1_5, p1_5, f1_6, p1_6, c1, aPts, fPat0, fPat1, pPat1, fPat2, pPat2, cPat, aPat, sPat, List.getElem?_cons_zero, List.getElem?_cons_succ, e_add, e_sub, e_mul, e_div, e_rem, ↓reduceIte, reduceIte, Int.reduceAdd, Int.reduceMul, Int.reduceSub, Int.reduceNeg, Int.reduceLT, Int.reduceLE, Int.reduceEq, Int.reduceToNat, Nat.reduceAdd, Nat.reduceSub, Nat.reduceMul, Nat.reduceLeDiff, Nat.reduceLT, Nat.reduceEqDiff, ite_true, ite_false, if_true, if_false, Bool.false_eq_true, Bool.not_true, Bool.not_false, Int.toNat_natCast, true_and, and_true, true_or, or_true, and_self, or_self, or_false, false_or, false_and, and_false, Int.neg_neg, Int.neg_zero, Nat.add_zero, Nat.zero_add, Int.zero_add, Int.add_zero, Int.sub_zero, Int.zero_sub, Int.one_ne_zero, fX10_pattern, bX10_pattern, e1, cp]
    · rw [pr_ne (by omega), pr_ne (by omega), pr_eq]
    · rw [pr_ne (by omega), pr_eq]
    · have hn := hE.1
      have hrow : ∀ j, j < 60 → pu (pu (pu (gRow g1 4 (46 + 2 * k) 60) (45 + 2 * k) 1 (n : Int)) (45 + 2 * k) 2 1) 1 2 0 (46 + 2 * k) j = g1 4 j := by
        intro j hj
        rw [pr_ne (by omega), pr_ne (by omega), pr_ne (by omega)]
        unfold gRow
        rw [if_pos ⟨rfl, hj⟩]
      intro m hm
      obtain ⟨h1, h2⟩ := hi m hm
      unfold itOk at h1 ⊢
      rw [hrow _ (by omega), hrow _ (by omega), hrow _ (by omega), hrow _ (by omega), hrow _ (by omega)]
      exact ⟨h1, h2⟩
    · intro x j hx
      rw [pr_ne (by omega), pr_ne (by omega), pr_ne (by omega)]
      unfold gRow
      rw [if_neg (by omega)]
      exact hf x j (by omega)
  · refine ⟨n, g1, hE, hp, Or.inr ⟨h0, h12, ?_, hf⟩⟩
    have hfl : iFl B l n (gPos B l n) ≤ 300 := Nat.le_trans (iFl_b hp) hl
    clear hf hE hB hp h0 h12
    generalize iFl B l n (gPos B l n) = F at *
    simp (disch := (first | with_reducible assumption | omega)) only [x_c, x_fi, x_fr, x_fj, x_vi, x_vr, x_vj, x_fi1, x_fi2, x_fr1, x_fr2, x_fj1, x_fj2, x_ai1, x_ai2, x_ai3, x_ar1, x_ar2, x_ar3, x_t1, x_t2, x_t3, x_t4, x_21, x_22, x_23, x_24, x_n1, x_n2, x_ji1, x_ji2, x_jc, x_j21, x_j22, x_j23, x_js1, x_js2, x_js3, x_ij1, x_ij2, x_ib1, x_ib2, x_c21, x_c22, x_c23, x_cz1, x_cz2, x_an1, x_an2, x_an3, x_or1, x_or2, x_or3, x_nt1, x_nt2, x_anm, x_orm, x_anm0, x_orm0, x_if1, x_if2, x_if3, x_ifm, x_ifm0, x_cf1, x_cf2, x_cf3, x_cfm, x_cfm0, x_a0, x_pi1, x_pi2, x_pr1, x_pr2, x_pj1, x_pj2, x_av, x_cv1, x_cv2, x_cv3, x_cs1, x_cs2, x_cl, x_of1, x_of2, x_so1, x_so2, x_fe1, x_fe2, x_fe3, x_sq1, x_sq2, x_sq3, x_sk, x_st1, x_st2, x_sr1, x_sr2, x_in1, x_in2, x_sf1, x_sf2, x_sf3, x_rt1, x_rt2, x_rz1, x_rz2, x_rj1, x_rj2, x_rv, x_ue, x_pf1, x_pf2, x_pf3, x_pz1, x_pz2, x_pz3, x_as1, x_as2, x_as3, x_as4, x_bs1, x_bs2, x_bs3, x_bs4, x_zs1, x_zs2, x_zs3, x_zs4, x_uf1, x_uf2, x_uf3, x_uf4, x_uf5, x_ua1, x_ua2, x_ua3, x_ua4, x_ua5, x_ua6, x_cp1, x_cp2, x_cp3, x_sw1, x_sw2, x_sw3, b_t, b_f, b_a, b_o, b_n, b_i, pu_e, w_d, ex_0, ex_i, ex_r, ex_j, ol_ent, List.length_cons, List.length_nil, List.replicate, List.cons_append, List.nil_append, rcv_r, ls_0, ls_i, ls_r, ls_j, ol_lt, ol_le, ol_gt, ol_ge, ol_eq, ol_ne, v_in, v_out, v_isBall, v_isHand, v_shotM, v_shotC, ol_min, ol_max, Bool.and_true, Bool.true_and, Bool.and_false, Bool.false_and, Bool.or_true, Bool.true_or, Bool.or_false, Bool.false_or, if_pos, if_neg, not_true_eq_false, not_false_eq_true, decide_true, decide_false, f0_0, f0_1, f0_2, f0_3, f0_4, f0_5, f0_6, f0_7, f0_8, f0_9, f0_10, f0_11, f0_12, f0_13, f0_14, f0_15, p0_15, f0_16, p0_16, f0_17, c0, f1_0, f1_1, f1_2, p1_2, f1_3, p1_3, f1_4, p1_4, f1_5, p1_5, f1_6, p1_6, c1, List.getElem?_cons_zero, List.getElem?_cons_succ, e_add, e_sub, e_mul, e_div, e_rem, ↓reduceIte, reduceIte, Int.reduceAdd, Int.reduceMul, Int.reduceSub, Int.reduceNeg, Int.reduceLT, Int.reduceLE, Int.reduceEq, Int.reduceToNat, Nat.reduceAdd, Nat.reduceSub, Nat.reduceMul, Nat.reduceLeDiff, Nat.reduceLT, Nat.reduceEqDiff, ite_true, ite_false, if_true, if_false, Bool.false_eq_true, Bool.not_true, Bool.not_false, Int.toNat_natCast, true_and, and_true, true_or, or_true, and_self, or_self, or_false, false_or, false_and, and_false, Int.neg_neg, Int.neg_zero, Nat.add_zero, Nat.zero_add, Int.zero_add, Int.add_zero, Int.sub_zero, Int.zero_sub, Int.one_ne_zero, fX10_pattern, bX10_pattern, e1]
