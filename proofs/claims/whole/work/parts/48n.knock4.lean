/-! pins: the class's rows, what pins fell -/
set_option maxHeartbeats 200000 in
theorem kF2_no {w : Int} {set first r : Nat} {a0 : Int} {S0 : kS} : ∀ i, (∀ m, m < i → ¬ kOt w set first a0 S0 m) → kF2 w set first r a0 S0 i = kF1 w set first r a0 S0 (r + 1) ∧ kOs w set first a0 S0 i = 0 := by
  intro i
  induction i with
  | zero => intro _; exact ⟨rfl, rfl⟩
  | succ i ih =>
    intro h
    rw [kF2_s, kOs_s, if_neg (h i (by omega)), if_neg (h i (by omega))]
    exact ih (fun m hm => h m (by omega))
set_option maxHeartbeats 200000 in
theorem knock_2 {g : pg} {t : pt} {k : Nat} (hk : isRak k) {pl sl w : Int} {set first r : Nat} (hset : set < 1024) (hr : r ≤ 3) (hfr : first + r < 10) (hr2 : r < 3 → first + 2 * r + 2 < 10) {a0 a1 : Int} {S0 : kS} (hS : S0.1 < 1024) {F : Nat} (hF : F < 1024) {g1 : pg} (hP : kP g k (kF1 w set first r a0 S0 (r + 1)) F g1) {W : Nat} (hW : W < 1024) (hWb : ∀ i, i ≤ r → (W.testBit (first + i) = true ↔ kOt w set first a0 S0 i)) : ∃ z g2, es_wh wX6_knock_2c wX6_knock_2b (kLo k pl sl w set a1 first r (.inl ((first + r : Nat) : Int)) (.inl (W : Int)) (.inl (first : Int))) (pb g1 t, 0, 0) = some (none, kLo k pl sl w set a1 first r (.inl ((first + r : Nat) : Int)) (.inl (W : Int)) z, (pb g2 t, 0, 0)) ∧ kP g k (kF2 w set first r a0 S0 (r + 1)) (F ||| kOs w set first a0 S0 (r + 1)) g2 := by
  by_cases hW0 : W = 0
  · subst hW0
    have hno : ∀ m, m < r + 1 → ¬ kOt w set first a0 S0 m := by
      intro m hm hq
      have := (hWb m (by omega)).mpr hq
      rw [Nat.zero_testBit] at this
      exact absurd this (by decide)
    obtain ⟨e1, e2⟩ := kF2_no (r := r) (r + 1) hno
    refine ⟨_, g1, wh_fuel 1 (by decide) (lp_f (by simp (disch := (first | with_reducible assumption | omega)) only [x_c, x_fi, x_fr, x_fj, x_vi, x_vr, x_vj, x_fi1, x_fi2, x_fr1, x_fr2, x_fj1, x_fj2, x_ai1, x_ai2, x_ai3, x_ar1, x_ar2, x_ar3, x_t1, x_t2, x_t3, x_t4, x_21, x_22, x_23, x_24, x_n1, x_n2, x_ji1, x_ji2, x_jc, x_j21, x_j22, x_j23, x_js1, x_js2, x_js3, x_ij1, x_ij2, x_ib1, x_ib2, x_c21, x_c22, x_c23, x_cz1, x_cz2, x_an1, x_an2, x_an3, x_or1, x_or2, x_or3, x_nt1, x_nt2, x_anm, x_orm, x_anm0, x_orm0, x_if1, x_if2, x_if3, x_ifm, x_ifm0, x_cf1, x_cf2, x_cf3, x_cfm, x_cfm0, x_a0, x_pi1, x_pi2, x_pr1, x_pr2, x_pj1, x_pj2, x_av, x_cv1, x_cv2, x_cv3, x_cs1, x_cs2, x_cl, x_of1, x_of2, x_so1, x_so2, x_fe1, x_fe2, x_fe3, x_sq1, x_sq2, x_sq3, x_sk, x_st1, x_st2, x_sr1, x_sr2, x_in1, x_in2, x_sf1, x_sf2, x_sf3, x_rt1, x_rt2, x_rz1, x_rz2, x_rj1, x_rj2, x_rv, x_ue, x_pf1, x_pf2, x_pf3, x_pz1, x_pz2, x_pz3, x_as1, x_as2, x_as3, x_as4, x_bs1, x_bs2, x_bs3, x_bs4, x_zs1, x_zs2, x_zs3, x_zs4, x_uf1, x_uf2, x_uf3, x_uf4, x_uf5, x_ua1, x_ua2, x_ua3, x_ua4, x_ua5, x_ua6, x_cp1, x_cp2, x_cp3, x_sw1, x_sw2, x_sw3, b_t, b_f, b_a, b_o, b_n, b_i, pu_e, w_d, ex_0, ex_i, ex_r, ex_j, ol_ent, List.length_cons, List.length_nil, List.replicate, List.cons_append, List.nil_append, rcv_r, ls_0, ls_i, ls_r, ls_j, ol_lt, ol_le, ol_gt, ol_ge, ol_eq, ol_ne, v_in, v_out, v_isBall, v_isHand, v_shotM, v_shotC, ol_min, ol_max, Bool.and_true, Bool.true_and, Bool.and_false, Bool.false_and, Bool.or_true, Bool.true_or, Bool.or_false, Bool.false_or, if_pos, if_neg, not_true_eq_false, not_false_eq_true, decide_true, decide_false, List.getElem?_cons_zero, List.getElem?_cons_succ, e_add, e_sub, e_mul, e_div, e_rem, ↓reduceIte, reduceIte, Int.reduceAdd, Int.reduceMul, Int.reduceSub, Int.reduceNeg, Int.reduceLT, Int.reduceLE, Int.reduceEq, Int.reduceToNat, Nat.reduceAdd, Nat.reduceSub, Nat.reduceMul, Nat.reduceLeDiff, Nat.reduceLT, Nat.reduceEqDiff, ite_true, ite_false, if_true, if_false, Bool.false_eq_true, Bool.not_true, Bool.not_false, Int.toNat_natCast, true_and, and_true, true_or, or_true, and_self, or_self, or_false, false_or, false_and, and_false, Int.neg_neg, Int.neg_zero, Nat.add_zero, Nat.zero_add, Int.zero_add, Int.add_zero, Int.sub_zero, Int.zero_sub, Int.one_ne_zero, wX6_knock_2c, kLo, Int.cast_ofNat_Int])), ?_⟩
    rw [e1, e2, Nat.or_zero]
    exact hP
  · obtain ⟨L', g', e, rfl, hq⟩ := wh_for (c := wX6_knock_2c) (b := wX6_knock_2b) (t := t) (g := g1) (r + 1) (by omega) (fun i L g' => L = kLo k pl sl w set a1 first r (.inl ((first + r : Nat) : Int)) (.inl (W : Int)) (.inl ((first + i : Nat) : Int)) ∧ kP g k (kF2 w set first r a0 S0 i) (F ||| kOs w set first a0 S0 i) g')
      (by
        rintro i L g' hi ⟨rfl, -⟩
        simp (disch := (first | with_reducible assumption | omega)) only [x_c, x_fi, x_fr, x_fj, x_vi, x_vr, x_vj, x_fi1, x_fi2, x_fr1, x_fr2, x_fj1, x_fj2, x_ai1, x_ai2, x_ai3, x_ar1, x_ar2, x_ar3, x_t1, x_t2, x_t3, x_t4, x_21, x_22, x_23, x_24, x_n1, x_n2, x_ji1, x_ji2, x_jc, x_j21, x_j22, x_j23, x_js1, x_js2, x_js3, x_ij1, x_ij2, x_ib1, x_ib2, x_c21, x_c22, x_c23, x_cz1, x_cz2, x_an1, x_an2, x_an3, x_or1, x_or2, x_or3, x_nt1, x_nt2, x_anm, x_orm, x_anm0, x_orm0, x_if1, x_if2, x_if3, x_ifm, x_ifm0, x_cf1, x_cf2, x_cf3, x_cfm, x_cfm0, x_a0, x_pi1, x_pi2, x_pr1, x_pr2, x_pj1, x_pj2, x_av, x_cv1, x_cv2, x_cv3, x_cs1, x_cs2, x_cl, x_of1, x_of2, x_so1, x_so2, x_fe1, x_fe2, x_fe3, x_sq1, x_sq2, x_sq3, x_sk, x_st1, x_st2, x_sr1, x_sr2, x_in1, x_in2, x_sf1, x_sf2, x_sf3, x_rt1, x_rt2, x_rz1, x_rz2, x_rj1, x_rj2, x_rv, x_ue, x_pf1, x_pf2, x_pf3, x_pz1, x_pz2, x_pz3, x_as1, x_as2, x_as3, x_as4, x_bs1, x_bs2, x_bs3, x_bs4, x_zs1, x_zs2, x_zs3, x_zs4, x_uf1, x_uf2, x_uf3, x_uf4, x_uf5, x_ua1, x_ua2, x_ua3, x_ua4, x_ua5, x_ua6, x_cp1, x_cp2, x_cp3, x_sw1, x_sw2, x_sw3, b_t, b_f, b_a, b_o, b_n, b_i, pu_e, w_d, ex_0, ex_i, ex_r, ex_j, ol_ent, List.length_cons, List.length_nil, List.replicate, List.cons_append, List.nil_append, rcv_r, ls_0, ls_i, ls_r, ls_j, ol_lt, ol_le, ol_gt, ol_ge, ol_eq, ol_ne, v_in, v_out, v_isBall, v_isHand, v_shotM, v_shotC, ol_min, ol_max, Bool.and_true, Bool.true_and, Bool.and_false, Bool.false_and, Bool.or_true, Bool.true_or, Bool.or_false, Bool.false_or, if_pos, if_neg, not_true_eq_false, not_false_eq_true, decide_true, decide_false, List.getElem?_cons_zero, List.getElem?_cons_succ, e_add, e_sub, e_mul, e_div, e_rem, ↓reduceIte, reduceIte, Int.reduceAdd, Int.reduceMul, Int.reduceSub, Int.reduceNeg, Int.reduceLT, Int.reduceLE, Int.reduceEq, Int.reduceToNat, Nat.reduceAdd, Nat.reduceSub, Nat.reduceMul, Nat.reduceLeDiff, Nat.reduceLT, Nat.reduceEqDiff, ite_true, ite_false, if_true, if_false, Bool.false_eq_true, Bool.not_true, Bool.not_false, Int.toNat_natCast, true_and, and_true, true_or, or_true, and_self, or_self, or_false, false_or, false_and, and_false, Int.neg_neg, Int.neg_zero, Nat.add_zero, Nat.zero_add, Int.zero_add, Int.add_zero, Int.sub_zero, Int.zero_sub, Int.one_ne_zero, wX6_knock_2c, kLo])
      (by
        rintro L g' ⟨rfl, -⟩
        simp (disch := (first | with_reducible assumption | omega)) only [x_c, x_fi, x_fr, x_fj, x_vi, x_vr, x_vj, x_fi1, x_fi2, x_fr1, x_fr2, x_fj1, x_fj2, x_ai1, x_ai2, x_ai3, x_ar1, x_ar2, x_ar3, x_t1, x_t2, x_t3, x_t4, x_21, x_22, x_23, x_24, x_n1, x_n2, x_ji1, x_ji2, x_jc, x_j21, x_j22, x_j23, x_js1, x_js2, x_js3, x_ij1, x_ij2, x_ib1, x_ib2, x_c21, x_c22, x_c23, x_cz1, x_cz2, x_an1, x_an2, x_an3, x_or1, x_or2, x_or3, x_nt1, x_nt2, x_anm, x_orm, x_anm0, x_orm0, x_if1, x_if2, x_if3, x_ifm, x_ifm0, x_cf1, x_cf2, x_cf3, x_cfm, x_cfm0, x_a0, x_pi1, x_pi2, x_pr1, x_pr2, x_pj1, x_pj2, x_av, x_cv1, x_cv2, x_cv3, x_cs1, x_cs2, x_cl, x_of1, x_of2, x_so1, x_so2, x_fe1, x_fe2, x_fe3, x_sq1, x_sq2, x_sq3, x_sk, x_st1, x_st2, x_sr1, x_sr2, x_in1, x_in2, x_sf1, x_sf2, x_sf3, x_rt1, x_rt2, x_rz1, x_rz2, x_rj1, x_rj2, x_rv, x_ue, x_pf1, x_pf2, x_pf3, x_pz1, x_pz2, x_pz3, x_as1, x_as2, x_as3, x_as4, x_bs1, x_bs2, x_bs3, x_bs4, x_zs1, x_zs2, x_zs3, x_zs4, x_uf1, x_uf2, x_uf3, x_uf4, x_uf5, x_ua1, x_ua2, x_ua3, x_ua4, x_ua5, x_ua6, x_cp1, x_cp2, x_cp3, x_sw1, x_sw2, x_sw3, b_t, b_f, b_a, b_o, b_n, b_i, pu_e, w_d, ex_0, ex_i, ex_r, ex_j, ol_ent, List.length_cons, List.length_nil, List.replicate, List.cons_append, List.nil_append, rcv_r, ls_0, ls_i, ls_r, ls_j, ol_lt, ol_le, ol_gt, ol_ge, ol_eq, ol_ne, v_in, v_out, v_isBall, v_isHand, v_shotM, v_shotC, ol_min, ol_max, Bool.and_true, Bool.true_and, Bool.and_false, Bool.false_and, Bool.or_true, Bool.true_or, Bool.or_false, Bool.false_or, if_pos, if_neg, not_true_eq_false, not_false_eq_true, decide_true, decide_false, List.getElem?_cons_zero, List.getElem?_cons_succ, e_add, e_sub, e_mul, e_div, e_rem, ↓reduceIte, reduceIte, Int.reduceAdd, Int.reduceMul, Int.reduceSub, Int.reduceNeg, Int.reduceLT, Int.reduceLE, Int.reduceEq, Int.reduceToNat, Nat.reduceAdd, Nat.reduceSub, Nat.reduceMul, Nat.reduceLeDiff, Nat.reduceLT, Nat.reduceEqDiff, ite_true, ite_false, if_true, if_false, Bool.false_eq_true, Bool.not_true, Bool.not_false, Int.toNat_natCast, true_and, and_true, true_or, or_true, and_self, or_self, or_false, false_or, false_and, and_false, Int.neg_neg, Int.neg_zero, Nat.add_zero, Nat.zero_add, Int.zero_add, Int.add_zero, Int.sub_zero, Int.zero_sub, Int.one_ne_zero, wX6_knock_2c, kLo])
      (by
        rintro i L g' hi ⟨rfl, h1, h2, h3, h4⟩
        have hpi : first + i < 10 := by omega
        have hos := kOs_b (w := w) (set := set) (first := first) (a0 := a0) (S0 := S0) (r := r) hfr i (by omega)
        have hFB : F ||| kOs w set first a0 S0 i < 1024 := Nat.or_lt_two_pow (n := 10) hF hos
        have hF2 := kF2_b (w := w) (set := set) (first := first) (r := r) (a0 := a0) (S0 := S0) hr2 hS i (by omega)
        have ei : ((first + i : Nat) : Int) + 1 = ((first + (i + 1) : Nat) : Int) := by omega
        by_cases hb : kOt w set first a0 S0 i
        · have hbit := (hWb i (by omega)).mpr hb
          have hof := h3 (first + i) hpi
          rw [(kF2_t (j := first + i) (by omega) i).2] at hof
          obtain ⟨g2, b1, b2, b3, b4, b5⟩ := v_topple (t := t) hk hpi hr (fun q => by have := hr2 q; omega) hF2 hFB h1 h2 h3 (S0.2 (first + i))
          refine ⟨_, g2, ?_, rfl, ?_, ?_, ?_, ?_⟩
          · simp (disch := (first | with_reducible assumption | omega)) only [x_c, x_fi, x_fr, x_fj, x_vi, x_vr, x_vj, x_fi1, x_fi2, x_fr1, x_fr2, x_fj1, x_fj2, x_ai1, x_ai2, x_ai3, x_ar1, x_ar2, x_ar3, x_t1, x_t2, x_t3, x_t4, x_21, x_22, x_23, x_24, x_n1, x_n2, x_ji1, x_ji2, x_jc, x_j21, x_j22, x_j23, x_js1, x_js2, x_js3, x_ij1, x_ij2, x_ib1, x_ib2, x_c21, x_c22, x_c23, x_cz1, x_cz2, x_an1, x_an2, x_an3, x_or1, x_or2, x_or3, x_nt1, x_nt2, x_anm, x_orm, x_anm0, x_orm0, x_if1, x_if2, x_if3, x_ifm, x_ifm0, x_cf1, x_cf2, x_cf3, x_cfm, x_cfm0, x_a0, x_pi1, x_pi2, x_pr1, x_pr2, x_pj1, x_pj2, x_av, x_cv1, x_cv2, x_cv3, x_cs1, x_cs2, x_cl, x_of1, x_of2, x_so1, x_so2, x_fe1, x_fe2, x_fe3, x_sq1, x_sq2, x_sq3, x_sk, x_st1, x_st2, x_sr1, x_sr2, x_in1, x_in2, x_sf1, x_sf2, x_sf3, x_rt1, x_rt2, x_rz1, x_rz2, x_rj1, x_rj2, x_rv, x_ue, x_pf1, x_pf2, x_pf3, x_pz1, x_pz2, x_pz3, x_as1, x_as2, x_as3, x_as4, x_bs1, x_bs2, x_bs3, x_bs4, x_zs1, x_zs2, x_zs3, x_zs4, x_uf1, x_uf2, x_uf3, x_uf4, x_uf5, x_ua1, x_ua2, x_ua3, x_ua4, x_ua5, x_ua6, x_cp1, x_cp2, x_cp3, x_sw1, x_sw2, x_sw3, b_t, b_f, b_a, b_o, b_n, b_i, pu_e, w_d, ex_0, ex_i, ex_r, ex_j, ol_ent, List.length_cons, List.length_nil, List.replicate, List.cons_append, List.nil_append, rcv_r, ls_0, ls_i, ls_r, ls_j, ol_lt, ol_le, ol_gt, ol_ge, ol_eq, ol_ne, v_in, v_out, v_isBall, v_isHand, v_shotM, v_shotC, ol_min, ol_max, Bool.and_true, Bool.true_and, Bool.and_false, Bool.false_and, Bool.or_true, Bool.true_or, Bool.or_false, Bool.false_or, if_pos, if_neg, not_true_eq_false, not_false_eq_true, decide_true, decide_false, fRak0, fRak1, pRak1, fRak2, pRak2, cRak, aRak, sRak, List.getElem?_cons_zero, List.getElem?_cons_succ, e_add, e_sub, e_mul, e_div, e_rem, ↓reduceIte, reduceIte, Int.reduceAdd, Int.reduceMul, Int.reduceSub, Int.reduceNeg, Int.reduceLT, Int.reduceLE, Int.reduceEq, Int.reduceToNat, Nat.reduceAdd, Nat.reduceSub, Nat.reduceMul, Nat.reduceLeDiff, Nat.reduceLT, Nat.reduceEqDiff, ite_true, ite_false, if_true, if_false, Bool.false_eq_true, Bool.not_true, Bool.not_false, Int.toNat_natCast, true_and, and_true, true_or, or_true, and_self, or_self, or_false, false_or, false_and, and_false, Int.neg_neg, Int.neg_zero, Nat.add_zero, Nat.zero_add, Int.zero_add, Int.add_zero, Int.sub_zero, Int.zero_sub, Int.one_ne_zero, wX6_knock_2b, kLo, hbit, shr_n, bt, hof, b1, ei]
          · rw [b2, kF2_s, if_pos hb]
          · rw [b3, kOs_s, if_pos hb, Nat.or_assoc]
          · intro j hj; rw [b4 j hj, kF2_s, if_pos hb]
          · intro x j q1 q2; rw [b5 x j q1 q2]; exact h4 x j q1 q2
        · have hbit : ¬ W.testBit (first + i) = true := fun q => hb ((hWb i (by omega)).mp q)
          refine ⟨_, g', ?_, rfl, ?_, ?_, ?_, ?_⟩
          · simp (disch := (first | with_reducible assumption | omega)) only [x_c, x_fi, x_fr, x_fj, x_vi, x_vr, x_vj, x_fi1, x_fi2, x_fr1, x_fr2, x_fj1, x_fj2, x_ai1, x_ai2, x_ai3, x_ar1, x_ar2, x_ar3, x_t1, x_t2, x_t3, x_t4, x_21, x_22, x_23, x_24, x_n1, x_n2, x_ji1, x_ji2, x_jc, x_j21, x_j22, x_j23, x_js1, x_js2, x_js3, x_ij1, x_ij2, x_ib1, x_ib2, x_c21, x_c22, x_c23, x_cz1, x_cz2, x_an1, x_an2, x_an3, x_or1, x_or2, x_or3, x_nt1, x_nt2, x_anm, x_orm, x_anm0, x_orm0, x_if1, x_if2, x_if3, x_ifm, x_ifm0, x_cf1, x_cf2, x_cf3, x_cfm, x_cfm0, x_a0, x_pi1, x_pi2, x_pr1, x_pr2, x_pj1, x_pj2, x_av, x_cv1, x_cv2, x_cv3, x_cs1, x_cs2, x_cl, x_of1, x_of2, x_so1, x_so2, x_fe1, x_fe2, x_fe3, x_sq1, x_sq2, x_sq3, x_sk, x_st1, x_st2, x_sr1, x_sr2, x_in1, x_in2, x_sf1, x_sf2, x_sf3, x_rt1, x_rt2, x_rz1, x_rz2, x_rj1, x_rj2, x_rv, x_ue, x_pf1, x_pf2, x_pf3, x_pz1, x_pz2, x_pz3, x_as1, x_as2, x_as3, x_as4, x_bs1, x_bs2, x_bs3, x_bs4, x_zs1, x_zs2, x_zs3, x_zs4, x_uf1, x_uf2, x_uf3, x_uf4, x_uf5, x_ua1, x_ua2, x_ua3, x_ua4, x_ua5, x_ua6, x_cp1, x_cp2, x_cp3, x_sw1, x_sw2, x_sw3, b_t, b_f, b_a, b_o, b_n, b_i, pu_e, w_d, ex_0, ex_i, ex_r, ex_j, ol_ent, List.length_cons, List.length_nil, List.replicate, List.cons_append, List.nil_append, rcv_r, ls_0, ls_i, ls_r, ls_j, ol_lt, ol_le, ol_gt, ol_ge, ol_eq, ol_ne, v_in, v_out, v_isBall, v_isHand, v_shotM, v_shotC, ol_min, ol_max, Bool.and_true, Bool.true_and, Bool.and_false, Bool.false_and, Bool.or_true, Bool.true_or, Bool.or_false, Bool.false_or, if_pos, if_neg, not_true_eq_false, not_false_eq_true, decide_true, decide_false, fRak0, fRak1, pRak1, fRak2, pRak2, cRak, aRak, sRak, List.getElem?_cons_zero, List.getElem?_cons_succ, e_add, e_sub, e_mul, e_div, e_rem, ↓reduceIte, reduceIte, Int.reduceAdd, Int.reduceMul, Int.reduceSub, Int.reduceNeg, Int.reduceLT, Int.reduceLE, Int.reduceEq, Int.reduceToNat, Nat.reduceAdd, Nat.reduceSub, Nat.reduceMul, Nat.reduceLeDiff, Nat.reduceLT, Nat.reduceEqDiff, ite_true, ite_false, if_true, if_false, Bool.false_eq_true, Bool.not_true, Bool.not_false, Int.toNat_natCast, true_and, and_true, true_or, or_true, and_self, or_self, or_false, false_or, false_and, and_false, Int.neg_neg, Int.neg_zero, Nat.add_zero, Nat.zero_add, Int.zero_add, Int.add_zero, Int.sub_zero, Int.zero_sub, Int.one_ne_zero, wX6_knock_2b, kLo, hbit, shr_n, bt, ei]
          · rw [h1, kF2_s, if_neg hb]
          · rw [h2, kOs_s, if_neg hb]
          · intro j hj; rw [h3 j hj, kF2_s, if_neg hb]
          · exact h4) (L := kLo k pl sl w set a1 first r (.inl ((first + r : Nat) : Int)) (.inl (W : Int)) (.inl (first : Int))) ⟨rfl, by show kP g k _ (F ||| 0) g1; rw [Nat.or_zero]; exact hP⟩
    exact ⟨_, g', e, hq⟩
set_option maxHeartbeats 200000 in
theorem knock_r {g : pg} {t : pt} {k : Nat} (hk : isRak k) {pl sl w : Int} (hw1 : 5 ≤ w) (hw2 : w ≤ 16) (hv1 : -40 ≤ sl) (hv2 : sl ≤ 40) {set first r : Nat} (hset : set < 1024) (hr : r ≤ 3) (hfr : first + r < 10) (hr2 : r < 3 → first + 2 * r + 2 < 10) {a0 : Int} (ha1 : -4000 ≤ a0) (ha2 : a0 ≤ 4000) {S0 : kS} (hS : S0.1 < 1024) {F : Nat} (hF : F < 1024) (hFb : ∀ j, first ≤ j → F.testBit j = false) {g1 : pg} (hP : kP g k S0 F g1) (x8 x9 x10 : ol_V) : ∃ y8 y9 y10 g2, wX6_knock_0b (kLo k pl sl w set a0 first r x8 x9 x10) (pb g1 t, 0, 0) = some (none, kLo k pl sl w set (kAt w set first a0 (r + 1) + sl) (first + r + 1) (r + 1) y8 y9 y10, (pb g2 t, 0, 0)) ∧ kP g k (kF2 w set first r a0 S0 (r + 1)) (F ||| kBs w set first a0 (r + 1) ||| kOs w set first a0 S0 (r + 1)) g2 := by
  obtain ⟨x, g2, e1, hP1⟩ := knock_1 (t := t) hk (pl := pl) (sl := sl) (a0 := a0) hw1 hw2 hset hr hfr hr2 (by omega) (by omega) hS hF hP x10
  have hbs := kBs_b (w := w) (set := set) (first := first) (a0 := a0) (r := r) hfr (r + 1) (Nat.le_refl _)
  have hF1 : F ||| kBs w set first a0 (r + 1) < 1024 := Nat.or_lt_two_pow (n := 10) hF hbs
  have hS1 := kF1_b (w := w) (set := set) (first := first) (r := r) (a0 := a0) (S0 := S0) hr2 hS (r + 1) (Nat.le_refl _)
  have hand := and_n (a := (kF1 w set first r a0 S0 (r + 1)).1) (b := set) (by omega) (by omega)
  have hlt : (kF1 w set first r a0 S0 (r + 1)).1 &&& set ≤ set := Nat.and_le_right
  obtain ⟨W, hW1, hW2, hW3⟩ := andn_n (a := (kF1 w set first r a0 S0 (r + 1)).1 &&& set) (b := F ||| kBs w set first a0 (r + 1)) (by omega) (by omega)
  have hxr := xr_n (b := F ||| kBs w set first a0 (r + 1)) (by omega)
  have hWb : ∀ i, i ≤ r → (W.testBit (first + i) = true ↔ kOt w set first a0 S0 i) := by
    intro i hi
    rw [hW3, Nat.testBit_and, Nat.testBit_or, hFb _ (by omega), kBs_t, (kF1_t (j := first + i) (by omega) (r + 1)).1, Nat.add_sub_cancel_left]
    have : decide (first ≤ first + i ∧ first + i < first + (r + 1) ∧ kB w set first a0 i) = decide (kB w set first a0 i) := by
      apply decide_eq_decide.mpr
      exact ⟨fun q => q.2.2, fun q => ⟨by omega, by omega, q⟩⟩
    rw [this]
    simp only [Bool.false_or, Bool.and_eq_true, Bool.not_eq_true', decide_eq_false_iff_not]
    constructor
    · rintro ⟨⟨a, b⟩, c⟩; exact ⟨a, b, c⟩
    · rintro ⟨a, b, c⟩; exact ⟨⟨a, b⟩, c⟩
  obtain ⟨z, g3, e2, hP2⟩ := knock_2 (t := t) hk (pl := pl) (sl := sl) (w := w) (a1 := kAt w set first a0 (r + 1)) hset hr hfr hr2 hS hF1 hP1 (show W < 1024 by omega) hWb
  have hat := kAt_b (w := w) (set := set) (first := first) (a0 := a0) (i := r + 1)
  have hR1 := hP1.1
  have hR2 := hP1.2.1
  have ef : (first : Int) + (r : Int) = ((first + r : Nat) : Int) := by omega
  have ef2 : ((first + r : Nat) : Int) + 1 = ((first + r + 1 : Nat) : Int) := by omega
  have er : (r : Int) + 1 = ((r + 1 : Nat) : Int) := by omega
  unfold kLo at e1 e2
  refine ⟨.inl ((first + r : Nat) : Int), .inl (W : Int), z, g3, ?_, hP2⟩
  simp (disch := (first | with_reducible assumption | omega)) only [x_c, x_fi, x_fr, x_fj, x_vi, x_vr, x_vj, x_fi1, x_fi2, x_fr1, x_fr2, x_fj1, x_fj2, x_ai1, x_ai2, x_ai3, x_ar1, x_ar2, x_ar3, x_t1, x_t2, x_t3, x_t4, x_21, x_22, x_23, x_24, x_n1, x_n2, x_ji1, x_ji2, x_jc, x_j21, x_j22, x_j23, x_js1, x_js2, x_js3, x_ij1, x_ij2, x_ib1, x_ib2, x_c21, x_c22, x_c23, x_cz1, x_cz2, x_an1, x_an2, x_an3, x_or1, x_or2, x_or3, x_nt1, x_nt2, x_anm, x_orm, x_anm0, x_orm0, x_if1, x_if2, x_if3, x_ifm, x_ifm0, x_cf1, x_cf2, x_cf3, x_cfm, x_cfm0, x_a0, x_pi1, x_pi2, x_pr1, x_pr2, x_pj1, x_pj2, x_av, x_cv1, x_cv2, x_cv3, x_cs1, x_cs2, x_cl, x_of1, x_of2, x_so1, x_so2, x_fe1, x_fe2, x_fe3, x_sq1, x_sq2, x_sq3, x_sk, x_st1, x_st2, x_sr1, x_sr2, x_in1, x_in2, x_sf1, x_sf2, x_sf3, x_rt1, x_rt2, x_rz1, x_rz2, x_rj1, x_rj2, x_rv, x_ue, x_pf1, x_pf2, x_pf3, x_pz1, x_pz2, x_pz3, x_as1, x_as2, x_as3, x_as4, x_bs1, x_bs2, x_bs3, x_bs4, x_zs1, x_zs2, x_zs3, x_zs4, x_uf1, x_uf2, x_uf3, x_uf4, x_uf5, x_ua1, x_ua2, x_ua3, x_ua4, x_ua5, x_ua6, x_cp1, x_cp2, x_cp3, x_sw1, x_sw2, x_sw3, b_t, b_f, b_a, b_o, b_n, b_i, pu_e, w_d, ex_0, ex_i, ex_r, ex_j, ol_ent, List.length_cons, List.length_nil, List.replicate, List.cons_append, List.nil_append, rcv_r, ls_0, ls_i, ls_r, ls_j, ol_lt, ol_le, ol_gt, ol_ge, ol_eq, ol_ne, v_in, v_out, v_isBall, v_isHand, v_shotM, v_shotC, ol_min, ol_max, Bool.and_true, Bool.true_and, Bool.and_false, Bool.false_and, Bool.or_true, Bool.true_or, Bool.or_false, Bool.false_or, if_pos, if_neg, not_true_eq_false, not_false_eq_true, decide_true, decide_false, fRak0, fRak1, pRak1, fRak2, pRak2, cRak, aRak, sRak, List.getElem?_cons_zero, List.getElem?_cons_succ, e_add, e_sub, e_mul, e_div, e_rem, ↓reduceIte, reduceIte, Int.reduceAdd, Int.reduceMul, Int.reduceSub, Int.reduceNeg, Int.reduceLT, Int.reduceLE, Int.reduceEq, Int.reduceToNat, Nat.reduceAdd, Nat.reduceSub, Nat.reduceMul, Nat.reduceLeDiff, Nat.reduceLT, Nat.reduceEqDiff, ite_true, ite_false, if_true, if_false, Bool.false_eq_true, Bool.not_true, Bool.not_false, Int.toNat_natCast, true_and, and_true, true_or, or_true, and_self, or_self, or_false, false_or, false_and, and_false, Int.neg_neg, Int.neg_zero, Nat.add_zero, Nat.zero_add, Int.zero_add, Int.add_zero, Int.sub_zero, Int.zero_sub, Int.one_ne_zero, wX6_knock_0b, kLo, ef, e1, hR1, hR2, hand, hxr, hW2, e2, ef2, er]
set_option maxHeartbeats 200000 in
theorem kR_s (w v : Int) (set : Nat) (O : Nat → Int) (a0 : Int) (r : Nat) : kR w v set O a0 (r + 1) = (kAt w set (r * (r + 1) / 2) (kR w v set O a0 r).1 (r + 1) + v, kF2 w set (r * (r + 1) / 2) r (kR w v set O a0 r).1 (kR w v set O a0 r).2.1 (r + 1), (kR w v set O a0 r).2.2 ||| kBs w set (r * (r + 1) / 2) (kR w v set O a0 r).1 (r + 1) ||| kOs w set (r * (r + 1) / 2) (kR w v set O a0 r).1 (kR w v set O a0 r).2.1 (r + 1)) := rfl
set_option maxHeartbeats 200000 in
theorem kTri : ∀ r, r ≤ 3 → r * (r + 1) / 2 + r < 10 ∧ (r < 3 → r * (r + 1) / 2 + 2 * r + 2 < 10) ∧ r * (r + 1) / 2 + r + 1 = (r + 1) * (r + 1 + 1) / 2 := by decide
def kOk (a0 : Int) (r : Nat) (R : Int × kS × Nat) : Prop := -(300 * (r : Int)) ≤ R.1 - a0 ∧ R.1 - a0 ≤ 300 * (r : Int) ∧ R.2.1.1 < 1024 ∧ R.2.2 < 1024 ∧ ∀ j, r * (r + 1) / 2 ≤ j → R.2.2.testBit j = false
set_option maxHeartbeats 200000 in
theorem kR_ok {w v : Int} {set : Nat} {O : Nat → Int} {a0 : Int} (hv1 : -40 ≤ v) (hv2 : v ≤ 40) : ∀ r, r ≤ 4 → kOk a0 r (kR w v set O a0 r) := by
  intro r
  induction r with
  | zero =>
    intro _
    refine ⟨?_, ?_, ?_, ?_, ?_⟩
    · show -(300 * ((0 : Nat) : Int)) ≤ a0 - a0; omega
    · show a0 - a0 ≤ 300 * ((0 : Nat) : Int); omega
    · show 0 < 1024; omega
    · show 0 < 1024; omega
    · intro j _; exact Nat.zero_testBit j
  | succ r ih =>
    intro hr
    obtain ⟨h1, h2, h3, h5, h6⟩ := ih (by omega)
    obtain ⟨k1, k2, k3⟩ := kTri r (by omega)
    rw [kR_s]
    generalize hR : kR w v set O a0 r = R at *
    unfold kOk
    rw [← k3]
    generalize r * (r + 1) / 2 = first at *
    have hat := kAt_b (w := w) (set := set) (first := first) (a0 := R.1) (i := r + 1)
    have hb := kBs_b (w := w) (set := set) (first := first) (a0 := R.1) (r := r) k1 (r + 1) (Nat.le_refl _)
    have ho := kOs_b (w := w) (set := set) (first := first) (a0 := R.1) (S0 := R.2.1) (r := r) k1 (r + 1) (Nat.le_refl _)
    refine ⟨?_, ?_, ?_, ?_, ?_⟩
    · show -(300 * ((r + 1 : Nat) : Int)) ≤ kAt w set first R.1 (r + 1) + v - a0; omega
    · show kAt w set first R.1 (r + 1) + v - a0 ≤ 300 * ((r + 1 : Nat) : Int); omega
    · exact kF2_b k2 h3 _ (Nat.le_refl _)
    · exact Nat.or_lt_two_pow (n := 10) (Nat.or_lt_two_pow (n := 10) h5 hb) ho
    · intro j hj
      show ((R.2.2 ||| kBs w set first R.1 (r + 1)) ||| kOs w set first R.1 R.2.1 (r + 1)).testBit j = false
      rw [Nat.testBit_or, Nat.testBit_or, h6 j (by omega), kBs_t, kOs_t, decide_eq_false (by omega), decide_eq_false (by omega)]
      rfl
/-! the offs that nobody set are never read -/
def kEq (S T : kS) : Prop := S.1 = T.1 ∧ ∀ j, S.1.testBit j = true → S.2 j = T.2 j
set_option maxHeartbeats 200000 in
theorem kPush_e {q : Nat} {o : Int} {S T : kS} (h : kEq S T) : kEq (kPush q o S) (kPush q o T) := by
  unfold kPush
  rw [← h.1]
  split
  · exact h
  · refine ⟨by rw [h.1], fun j hj => ?_⟩
    change (if j = q then o else S.2 j) = (if j = q then o else T.2 j)
    by_cases e : j = q
    · rw [if_pos e, if_pos e]
    · rw [if_neg e, if_neg e]
      refine h.2 j ?_
      change (S.1 ||| 2 ^ q).testBit j = true at hj
      rw [Nat.testBit_or, Nat.testBit_two_pow, decide_eq_false (fun z => e z.symm), Bool.or_false] at hj
      exact hj
set_option maxHeartbeats 200000 in
theorem kNx_e {r p : Nat} {o : Int} {S T : kS} (h : kEq S T) : kEq (kNx r p o S) (kNx r p o T) := by
  unfold kNx
  split
  · exact h
  · split
    · exact kPush_e h
    · split
      · exact kPush_e h
      · exact kPush_e (kPush_e h)
set_option maxHeartbeats 200000 in
theorem kF1_e {w : Int} {set first r : Nat} {a0 : Int} {S T : kS} (h : kEq S T) : ∀ i, kEq (kF1 w set first r a0 S i) (kF1 w set first r a0 T i) := by
  intro i
  induction i with
  | zero => exact h
  | succ i ih =>
    rw [kF1_s, kF1_s]
    split
    · exact kNx_e ih
    · exact ih
set_option maxHeartbeats 200000 in
theorem kF2_e {w : Int} {set first r : Nat} {a0 : Int} {S T : kS} (h : kEq S T) : ∀ i, kEq (kF2 w set first r a0 S i) (kF2 w set first r a0 T i) ∧ kOs w set first a0 S i = kOs w set first a0 T i := by
  intro i
  induction i with
  | zero => exact ⟨kF1_e h _, rfl⟩
  | succ i ih =>
    rw [kF2_s, kF2_s, kOs_s, kOs_s]
    have e : kOt w set first a0 S i ↔ kOt w set first a0 T i := by unfold kOt; rw [h.1]
    by_cases c : kOt w set first a0 S i
    · rw [if_pos c, if_pos (e.mp c), if_pos c, if_pos (e.mp c), ← h.2 _ c.1]
      exact ⟨kNx_e ih.1, by rw [ih.2]⟩
    · rw [if_neg c, if_neg (fun q => c (e.mpr q)), if_neg c, if_neg (fun q => c (e.mpr q))]
      exact ih
set_option maxHeartbeats 200000 in
theorem kR_e {w v : Int} {set : Nat} {O O' : Nat → Int} {a0 : Int} : ∀ r, (kR w v set O a0 r).1 = (kR w v set O' a0 r).1 ∧ kEq (kR w v set O a0 r).2.1 (kR w v set O' a0 r).2.1 ∧ (kR w v set O a0 r).2.2 = (kR w v set O' a0 r).2.2 := by
  intro r
  induction r with
  | zero => exact ⟨rfl, ⟨rfl, fun j hj => by change (0 : Nat).testBit j = true at hj; rw [Nat.zero_testBit] at hj; exact absurd hj (by decide)⟩, rfl⟩
  | succ r ih =>
    obtain ⟨a, b, c⟩ := ih
    rw [kR_s, kR_s, ← a, ← c]
    have := kF2_e (w := w) (set := set) (first := r * (r + 1) / 2) (r := r) (a0 := (kR w v set O a0 r).1) b (r + 1)
    exact ⟨rfl, this.1, by rw [this.2]⟩
def kFall (w v : Int) (set : Nat) (a0 : Int) : Nat := (kR w v set (fun _ => 0) a0 4).2.2
set_option maxHeartbeats 200000 in
theorem kFall_e {w v : Int} {set : Nat} (O : Nat → Int) {a0 : Int} : (kR w v set O a0 4).2.2 = kFall w v set a0 := (kR_e 4).2.2
set_option maxHeartbeats 200000 in
theorem kFall_b {w v : Int} {set : Nat} {a0 : Int} (hv1 : -40 ≤ v) (hv2 : v ≤ 40) : kFall w v set a0 < 1024 := (kR_ok hv1 hv2 4 (Nat.le_refl _)).2.2.2.1
set_option maxHeartbeats 200000 in
theorem v_knock {g : pg} {t : pt} {k : Nat} (hk : isRak k) {a0 v w : Int} {set : Nat} (hw1 : 5 ≤ w) (hw2 : w ≤ 16) (hv1 : -40 ≤ v) (hv2 : v ≤ 40) (ha1 : 0 ≤ a0) (ha2 : a0 ≤ 389) (hset : set < 1024) : ∃ g', fX6_knock [.inr (.inl (some k)), .inl a0, .inl v, .inl w, .inl (set : Int)] (pb g t, 0, 0) = some (some (.inl (kFall w v set a0 : Int)), (pb g' t, 0, 0)) ∧ ∀ x j, ¬ (x = k ∧ (j = 1 ∨ j = 2)) → ¬ (x = k + 1 ∧ j < 10) → g' x j = g x j := by
  have hI : kP g k (0, g (k + 1)) 0 (pu (pu g k 1 0) k 2 0) := by
    refine ⟨?_, ?_, ?_, ?_⟩
    · rw [pr_ne (by omega), pr_eq]; rfl
    · rw [pr_eq]; rfl
    · intro j _; rw [pr_ne (by omega), pr_ne (by omega)]
    · intro x j _ _; rw [pr_ne (by omega), pr_ne (by omega)]
  obtain ⟨L', g', e, ⟨y8, y9, y10, rfl⟩, hq⟩ := wh_for (c := wX6_knock_0c) (b := wX6_knock_0b) (t := t) (g := pu (pu g k 1 0) k 2 0) 4 (by decide) (fun r L g' => (∃ x8 x9 x10, L = kLo k a0 v w set (kR w v set (g (k + 1)) a0 r).1 (r * (r + 1) / 2) r x8 x9 x10) ∧ kP g k (kR w v set (g (k + 1)) a0 r).2.1 (kR w v set (g (k + 1)) a0 r).2.2 g')
    (by
      rintro r L g' hr ⟨⟨x8, x9, x10, rfl⟩, -⟩
      simp (disch := (first | with_reducible assumption | omega)) only [x_c, x_fi, x_fr, x_fj, x_vi, x_vr, x_vj, x_fi1, x_fi2, x_fr1, x_fr2, x_fj1, x_fj2, x_ai1, x_ai2, x_ai3, x_ar1, x_ar2, x_ar3, x_t1, x_t2, x_t3, x_t4, x_21, x_22, x_23, x_24, x_n1, x_n2, x_ji1, x_ji2, x_jc, x_j21, x_j22, x_j23, x_js1, x_js2, x_js3, x_ij1, x_ij2, x_ib1, x_ib2, x_c21, x_c22, x_c23, x_cz1, x_cz2, x_an1, x_an2, x_an3, x_or1, x_or2, x_or3, x_nt1, x_nt2, x_anm, x_orm, x_anm0, x_orm0, x_if1, x_if2, x_if3, x_ifm, x_ifm0, x_cf1, x_cf2, x_cf3, x_cfm, x_cfm0, x_a0, x_pi1, x_pi2, x_pr1, x_pr2, x_pj1, x_pj2, x_av, x_cv1, x_cv2, x_cv3, x_cs1, x_cs2, x_cl, x_of1, x_of2, x_so1, x_so2, x_fe1, x_fe2, x_fe3, x_sq1, x_sq2, x_sq3, x_sk, x_st1, x_st2, x_sr1, x_sr2, x_in1, x_in2, x_sf1, x_sf2, x_sf3, x_rt1, x_rt2, x_rz1, x_rz2, x_rj1, x_rj2, x_rv, x_ue, x_pf1, x_pf2, x_pf3, x_pz1, x_pz2, x_pz3, x_as1, x_as2, x_as3, x_as4, x_bs1, x_bs2, x_bs3, x_bs4, x_zs1, x_zs2, x_zs3, x_zs4, x_uf1, x_uf2, x_uf3, x_uf4, x_uf5, x_ua1, x_ua2, x_ua3, x_ua4, x_ua5, x_ua6, x_cp1, x_cp2, x_cp3, x_sw1, x_sw2, x_sw3, b_t, b_f, b_a, b_o, b_n, b_i, pu_e, w_d, ex_0, ex_i, ex_r, ex_j, ol_ent, List.length_cons, List.length_nil, List.replicate, List.cons_append, List.nil_append, rcv_r, ls_0, ls_i, ls_r, ls_j, ol_lt, ol_le, ol_gt, ol_ge, ol_eq, ol_ne, v_in, v_out, v_isBall, v_isHand, v_shotM, v_shotC, ol_min, ol_max, Bool.and_true, Bool.true_and, Bool.and_false, Bool.false_and, Bool.or_true, Bool.true_or, Bool.or_false, Bool.false_or, if_pos, if_neg, not_true_eq_false, not_false_eq_true, decide_true, decide_false, List.getElem?_cons_zero, List.getElem?_cons_succ, e_add, e_sub, e_mul, e_div, e_rem, ↓reduceIte, reduceIte, Int.reduceAdd, Int.reduceMul, Int.reduceSub, Int.reduceNeg, Int.reduceLT, Int.reduceLE, Int.reduceEq, Int.reduceToNat, Nat.reduceAdd, Nat.reduceSub, Nat.reduceMul, Nat.reduceLeDiff, Nat.reduceLT, Nat.reduceEqDiff, ite_true, ite_false, if_true, if_false, Bool.false_eq_true, Bool.not_true, Bool.not_false, Int.toNat_natCast, true_and, and_true, true_or, or_true, and_self, or_self, or_false, false_or, false_and, and_false, Int.neg_neg, Int.neg_zero, Nat.add_zero, Nat.zero_add, Int.zero_add, Int.add_zero, Int.sub_zero, Int.zero_sub, Int.one_ne_zero, wX6_knock_0c, kLo])
    (by
      rintro L g' ⟨⟨x8, x9, x10, rfl⟩, -⟩
      simp (disch := (first | with_reducible assumption | omega)) only [x_c, x_fi, x_fr, x_fj, x_vi, x_vr, x_vj, x_fi1, x_fi2, x_fr1, x_fr2, x_fj1, x_fj2, x_ai1, x_ai2, x_ai3, x_ar1, x_ar2, x_ar3, x_t1, x_t2, x_t3, x_t4, x_21, x_22, x_23, x_24, x_n1, x_n2, x_ji1, x_ji2, x_jc, x_j21, x_j22, x_j23, x_js1, x_js2, x_js3, x_ij1, x_ij2, x_ib1, x_ib2, x_c21, x_c22, x_c23, x_cz1, x_cz2, x_an1, x_an2, x_an3, x_or1, x_or2, x_or3, x_nt1, x_nt2, x_anm, x_orm, x_anm0, x_orm0, x_if1, x_if2, x_if3, x_ifm, x_ifm0, x_cf1, x_cf2, x_cf3, x_cfm, x_cfm0, x_a0, x_pi1, x_pi2, x_pr1, x_pr2, x_pj1, x_pj2, x_av, x_cv1, x_cv2, x_cv3, x_cs1, x_cs2, x_cl, x_of1, x_of2, x_so1, x_so2, x_fe1, x_fe2, x_fe3, x_sq1, x_sq2, x_sq3, x_sk, x_st1, x_st2, x_sr1, x_sr2, x_in1, x_in2, x_sf1, x_sf2, x_sf3, x_rt1, x_rt2, x_rz1, x_rz2, x_rj1, x_rj2, x_rv, x_ue, x_pf1, x_pf2, x_pf3, x_pz1, x_pz2, x_pz3, x_as1, x_as2, x_as3, x_as4, x_bs1, x_bs2, x_bs3, x_bs4, x_zs1, x_zs2, x_zs3, x_zs4, x_uf1, x_uf2, x_uf3, x_uf4, x_uf5, x_ua1, x_ua2, x_ua3, x_ua4, x_ua5, x_ua6, x_cp1, x_cp2, x_cp3, x_sw1, x_sw2, x_sw3, b_t, b_f, b_a, b_o, b_n, b_i, pu_e, w_d, ex_0, ex_i, ex_r, ex_j, ol_ent, List.length_cons, List.length_nil, List.replicate, List.cons_append, List.nil_append, rcv_r, ls_0, ls_i, ls_r, ls_j, ol_lt, ol_le, ol_gt, ol_ge, ol_eq, ol_ne, v_in, v_out, v_isBall, v_isHand, v_shotM, v_shotC, ol_min, ol_max, Bool.and_true, Bool.true_and, Bool.and_false, Bool.false_and, Bool.or_true, Bool.true_or, Bool.or_false, Bool.false_or, if_pos, if_neg, not_true_eq_false, not_false_eq_true, decide_true, decide_false, List.getElem?_cons_zero, List.getElem?_cons_succ, e_add, e_sub, e_mul, e_div, e_rem, ↓reduceIte, reduceIte, Int.reduceAdd, Int.reduceMul, Int.reduceSub, Int.reduceNeg, Int.reduceLT, Int.reduceLE, Int.reduceEq, Int.reduceToNat, Nat.reduceAdd, Nat.reduceSub, Nat.reduceMul, Nat.reduceLeDiff, Nat.reduceLT, Nat.reduceEqDiff, ite_true, ite_false, if_true, if_false, Bool.false_eq_true, Bool.not_true, Bool.not_false, Int.toNat_natCast, true_and, and_true, true_or, or_true, and_self, or_self, or_false, false_or, false_and, and_false, Int.neg_neg, Int.neg_zero, Nat.add_zero, Nat.zero_add, Int.zero_add, Int.add_zero, Int.sub_zero, Int.zero_sub, Int.one_ne_zero, wX6_knock_0c, kLo, Int.cast_ofNat_Int])
    (by
      rintro r L g' hr ⟨⟨x8, x9, x10, rfl⟩, hp⟩
      obtain ⟨k1, k2, k3⟩ := kTri r (by omega)
      obtain ⟨o1, o2, o3, o4, o5⟩ := kR_ok (w := w) (v := v) (set := set) (O := g (k + 1)) (a0 := a0) hv1 hv2 r (by omega)
      obtain ⟨y8, y9, y10, g2, e1, e2⟩ := knock_r (t := t) hk (pl := a0) (sl := v) (a0 := (kR w v set (g (k + 1)) a0 r).1) hw1 hw2 hv1 hv2 hset (by omega) k1 k2 (by omega) (by omega) o3 o4 o5 hp x8 x9 x10
      rw [k3] at e1
      refine ⟨_, g2, e1, ⟨y8, y9, y10, ?_⟩, ?_⟩
      · rw [kR_s]
      · rw [kR_s]; exact e2) (L := kLo k a0 v w set a0 0 0 (.inr (.inl none)) (.inr (.inl none)) (.inr (.inl none))) ⟨⟨.inr (.inl none), .inr (.inl none), .inr (.inl none), rfl⟩, hI⟩
  refine ⟨g', ?_, hq.2.2.2⟩
  have h2 : g' k 2 = ((kFall w v set a0 : Nat) : Int) := by rw [← kFall_e (g (k + 1))]; exact hq.2.1
  unfold kLo at e
  rw [show ((0 : Nat) : Int) = 0 by decide] at e
  simp (disch := (first | with_reducible assumption | omega)) only [x_c, x_fi, x_fr, x_fj, x_vi, x_vr, x_vj, x_fi1, x_fi2, x_fr1, x_fr2, x_fj1, x_fj2, x_ai1, x_ai2, x_ai3, x_ar1, x_ar2, x_ar3, x_t1, x_t2, x_t3, x_t4, x_21, x_22, x_23, x_24, x_n1, x_n2, x_ji1, x_ji2, x_jc, x_j21, x_j22, x_j23, x_js1, x_js2, x_js3, x_ij1, x_ij2, x_ib1, x_ib2, x_c21, x_c22, x_c23, x_cz1, x_cz2, x_an1, x_an2, x_an3, x_or1, x_or2, x_or3, x_nt1, x_nt2, x_anm, x_orm, x_anm0, x_orm0, x_if1, x_if2, x_if3, x_ifm, x_ifm0, x_cf1, x_cf2, x_cf3, x_cfm, x_cfm0, x_a0, x_pi1, x_pi2, x_pr1, x_pr2, x_pj1, x_pj2, x_av, x_cv1, x_cv2, x_cv3, x_cs1, x_cs2, x_cl, x_of1, x_of2, x_so1, x_so2, x_fe1, x_fe2, x_fe3, x_sq1, x_sq2, x_sq3, x_sk, x_st1, x_st2, x_sr1, x_sr2, x_in1, x_in2, x_sf1, x_sf2, x_sf3, x_rt1, x_rt2, x_rz1, x_rz2, x_rj1, x_rj2, x_rv, x_ue, x_pf1, x_pf2, x_pf3, x_pz1, x_pz2, x_pz3, x_as1, x_as2, x_as3, x_as4, x_bs1, x_bs2, x_bs3, x_bs4, x_zs1, x_zs2, x_zs3, x_zs4, x_uf1, x_uf2, x_uf3, x_uf4, x_uf5, x_ua1, x_ua2, x_ua3, x_ua4, x_ua5, x_ua6, x_cp1, x_cp2, x_cp3, x_sw1, x_sw2, x_sw3, b_t, b_f, b_a, b_o, b_n, b_i, pu_e, w_d, ex_0, ex_i, ex_r, ex_j, ol_ent, List.length_cons, List.length_nil, List.replicate, List.cons_append, List.nil_append, rcv_r, ls_0, ls_i, ls_r, ls_j, ol_lt, ol_le, ol_gt, ol_ge, ol_eq, ol_ne, v_in, v_out, v_isBall, v_isHand, v_shotM, v_shotC, ol_min, ol_max, Bool.and_true, Bool.true_and, Bool.and_false, Bool.false_and, Bool.or_true, Bool.true_or, Bool.or_false, Bool.false_or, if_pos, if_neg, not_true_eq_false, not_false_eq_true, decide_true, decide_false, fRak0, fRak1, pRak1, fRak2, pRak2, cRak, aRak, sRak, List.getElem?_cons_zero, List.getElem?_cons_succ, e_add, e_sub, e_mul, e_div, e_rem, ↓reduceIte, reduceIte, Int.reduceAdd, Int.reduceMul, Int.reduceSub, Int.reduceNeg, Int.reduceLT, Int.reduceLE, Int.reduceEq, Int.reduceToNat, Nat.reduceAdd, Nat.reduceSub, Nat.reduceMul, Nat.reduceLeDiff, Nat.reduceLT, Nat.reduceEqDiff, ite_true, ite_false, if_true, if_false, Bool.false_eq_true, Bool.not_true, Bool.not_false, Int.toNat_natCast, true_and, and_true, true_or, or_true, and_self, or_self, or_false, false_or, false_and, and_false, Int.neg_neg, Int.neg_zero, Nat.add_zero, Nat.zero_add, Int.zero_add, Int.add_zero, Int.sub_zero, Int.zero_sub, Int.one_ne_zero, fX6_knock, eX6_knock, e, h2]
