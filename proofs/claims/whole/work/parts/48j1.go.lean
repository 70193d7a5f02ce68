/-! the reference -/
def GP (g : pg) (o k : Nat) (b a s : Int) (n : Nat) (g' : pg) : Prop := (tT (g 78 k) (fun j => g 77 (o + j)) b a s n 1 ≠ -1 → g' 75 12 = tT (g 78 k) (fun j => g 77 (o + j)) b a s n 1) ∧ (∀ f, 2 ≤ f → f ≤ 6 → g' 75 (f + 11) = tT (g 78 k) (fun j => g 77 (o + j)) b a s n f) ∧ g' 75 18 = (if tT (g 78 k) (fun j => g 77 (o + j)) b a s n 1 = -1 then 1 else 0) ∧ (∀ j, j < 780 → g' 77 (o + j) = if g 75 19 = 0 then tMk (g 78 k) (fun j => g 77 (o + j)) b a s n j else g 77 (o + j)) ∧ ∀ x j, ¬ (x = 75 ∧ 12 ≤ j ∧ j ≤ 18) → ¬ (x = 77 ∧ o ≤ j ∧ j < o + 780) → g' x j = g x j
def gLo (o k : Nat) (b a s : Int) (n : Nat) : ol_L := [.inr (.inl (some 75)), .inl (o : Int), .inl b, .inl a, .inl s, .inl (k : Int), .inl (n : Int)]
set_option maxHeartbeats 200000 in
theorem v_goStretch {g : pg} {t : pt} {i k : Nat} (hi : i < 7020) (hk6 : k < 6) (k1 : 1 ≤ g 78 k) (k2 : g 78 k ≤ 9) (c1 : 0 ≤ g 77 i) (c2 : g 77 i ≤ 99) (p1 : 0 ≤ g 75 12) (p2 : g 75 12 ≤ 389) (v1 : -40 ≤ g 75 13) (v2 : g 75 13 ≤ 40) (r1 : -30 ≤ g 75 14) (r2 : g 75 14 ≤ 30) (m1 : 0 ≤ g 75 15) (m2 : g 75 15 ≤ 9) (s1 : 0 ≤ g 75 16) (s2 : g 75 16 ≤ 20) (u1 : 0 ≤ g 75 17) (u2 : g 75 17 ≤ 20) (z : g 75 19 = 0 ∨ g 75 19 = 1) : ∃ q, q = tGrip (g 78 k) (g 77 i) ∧ fX11_goStretch [.inr (.inl (some 75)), .inl (i : Int), .inl (k : Int)] (pb g t, 0, 0) = some (none, (pb (pu (pu (pu (pu (pu (pu (pu (pu g 75 13 (tV (g 75 13) (g 75 14) q)) 75 16 (g 75 16 + (if q = 0 then 1 else 0))) 75 17 (g 75 17 + (if ¬ tV (g 75 13) (g 75 14) q = g 75 13 then 1 else 0))) 75 14 (tR (g 75 14) q)) 75 15 (g 75 15 + (g 77 i - tN (g 77 i) (g 75 15)))) 77 i (if ¬ g 75 19 = 0 then g 77 i else tN (g 77 i) (g 75 15))) 75 12 (g 75 12 + tV (g 75 13) (g 75 14) q)) 75 18 (if ¬ (0 ≤ g 75 12 + tV (g 75 13) (g 75 14) q ∧ g 75 12 + tV (g 75 13) (g 75 14) q ≤ 389) then 1 else 0)) t, 0, 0)) := by
  have hq := tGrip_b (k := g 78 k) (d := g 77 i) k1 k2 c1
  have hgr : (if 10 ≤ g 77 i then 0 else g 78 k * (10 - g 77 i)) = tGrip (g 78 k) (g 77 i) := by
    unfold tGrip
    by_cases h10 : 10 ≤ g 77 i
    · rw [if_pos h10, if_neg (by omega)]; omega
    · rw [if_neg h10, if_pos (by omega)]
  have hgb2 : -1000 ≤ g 78 k * (10 - g 77 i) ∧ g 78 k * (10 - g 77 i) ≤ 1000 := by
    have m2 := mb (r := 10 - g 77 i) (q := g 78 k) (A := 100) (B := 9) (by decide) (by omega) (by omega) (by omega) (by omega)
    rw [Int.mul_comm (10 - g 77 i)] at m2
    omega
  refine ⟨_, rfl, ?_⟩
  have hB := tB_b (v := g 75 13) (r := g 75 14) hq.1 hq.2 v1 v2 r1 r2
  have hE : 0 ≤ tE (tGrip (g 78 k) (g 77 i)) ∧ tE (tGrip (g 78 k) (g 77 i)) ≤ 2 := by unfold tE; omega
  have hV := tV_b (v := g 75 13) (r := g 75 14) (q := tGrip (g 78 k) (g 77 i))
  have hN : 0 ≤ tN (g 77 i) (g 75 15) ∧ tN (g 77 i) (g 75 15) ≤ 99 := by unfold tN; omega
  have htv : (if 40 < tB (g 75 13) (g 75 14) (tGrip (g 78 k) (g 77 i)) then 40 else if tB (g 75 13) (g 75 14) (tGrip (g 78 k) (g 77 i)) < -40 then -40 else tB (g 75 13) (g 75 14) (tGrip (g 78 k) (g 77 i))) = tV (g 75 13) (g 75 14) (tGrip (g 78 k) (g 77 i)) := rfl
  have htr : (if tE (tGrip (g 78 k) (g 77 i)) < g 75 14 then g 75 14 - tE (tGrip (g 78 k) (g 77 i)) else if g 75 14 < -(tE (tGrip (g 78 k) (g 77 i))) then g 75 14 + tE (tGrip (g 78 k) (g 77 i)) else 0) = tR (g 75 14) (tGrip (g 78 k) (g 77 i)) := rfl
  have htn : (if 0 < g 77 i ∧ g 75 15 < 9 then g 77 i - 1 else if g 77 i = 0 ∧ 0 < g 75 15 then 1 else g 77 i) = tN (g 77 i) (g 75 15) := rfl
  generalize hQ : tGrip (g 78 k) (g 77 i) = Q at *
  by_cases hA : 0 ≤ g 75 12 + tV (g 75 13) (g 75 14) Q ∧ g 75 12 + tV (g 75 13) (g 75 14) Q ≤ 389
  · simp (disch := (first | with_reducible assumption | omega)) only [x_c, x_fi, x_fr, x_fj, x_vi, x_vr, x_vj, x_fi1, x_fi2, x_fr1, x_fr2, x_fj1, x_fj2, x_ai1, x_ai2, x_ai3, x_ar1, x_ar2, x_ar3, x_t1, x_t2, x_t3, x_t4, x_21, x_22, x_23, x_24, x_n1, x_n2, x_ji1, x_ji2, x_jc, x_j21, x_j22, x_j23, x_js1, x_js2, x_js3, x_ij1, x_ij2, x_ib1, x_ib2, x_c21, x_c22, x_c23, x_cz1, x_cz2, x_an1, x_an2, x_an3, x_or1, x_or2, x_or3, x_nt1, x_nt2, x_anm, x_orm, x_anm0, x_orm0, x_if1, x_if2, x_if3, x_ifm, x_ifm0, x_cf1, x_cf2, x_cf3, x_cfm, x_cfm0, x_a0, x_pi1, x_pi2, x_pr1, x_pr2, x_pj1, x_pj2, x_av, x_cv1, x_cv2, x_cv3, x_cs1, x_cs2, x_cl, x_of1, x_of2, x_so1, x_so2, x_fe1, x_fe2, x_fe3, x_sq1, x_sq2, x_sq3, x_sk, x_st1, x_st2, x_sr1, x_sr2, x_in1, x_in2, x_sf1, x_sf2, x_sf3, x_rt1, x_rt2, x_rz1, x_rz2, x_rj1, x_rj2, x_rv, x_ue, x_pf1, x_pf2, x_pf3, x_pz1, x_pz2, x_pz3, x_as1, x_as2, x_as3, x_as4, x_bs1, x_bs2, x_bs3, x_bs4, x_zs1, x_zs2, x_zs3, x_zs4, x_uf1, x_uf2, x_uf3, x_uf4, x_uf5, x_ua1, x_ua2, x_ua3, x_ua4, x_ua5, x_ua6, x_cp1, x_cp2, x_cp3, x_sw1, x_sw2, x_sw3, b_t, b_f, b_a, b_o, b_n, b_i, pu_e, w_d, ex_0, ex_i, ex_r, ex_j, ol_ent, List.length_cons, List.length_nil, List.replicate, List.cons_append, List.nil_append, rcv_r, ls_0, ls_i, ls_r, ls_j, ol_lt, ol_le, ol_gt, ol_ge, ol_eq, ol_ne, v_in, v_out, v_isBall, v_isHand, v_shotM, v_shotC, ol_min, ol_max, Bool.and_true, Bool.true_and, Bool.and_false, Bool.false_and, Bool.or_true, Bool.true_or, Bool.or_false, Bool.false_or, if_pos, if_neg, not_true_eq_false, not_false_eq_true, decide_true, decide_false, f75_0, f75_1, f75_2, p75_2, f75_3, f75_4, p75_4, f75_5, p75_5, f75_6, p75_6, f75_7, p75_7, f75_8, p75_8, f75_9, p75_9, f75_10, f75_11, f75_12, p75_12, f75_13, p75_13, f75_14, p75_14, f75_15, p75_15, f75_16, p75_16, f75_17, p75_17, f75_18, p75_18, f75_19, p75_19, f75_20, f75_21, f75_22, f75_23, p75_23, f75_24, p75_24, f75_25, p75_25, f75_26, f75_27, f75_28, p75_28, f75_29, p75_29, f75_30, p75_30, f75_31, p75_31, f75_32, f75_33, f75_34, p75_34, f75_35, f75_36, f75_37, f75_38, p75_38, f75_39, f75_40, f75_41, c75, a77, s77, a78, s78, List.getElem?_cons_zero, List.getElem?_cons_succ, e_add, e_sub, e_mul, e_div, e_rem, ↓reduceIte, reduceIte, Int.reduceAdd, Int.reduceMul, Int.reduceSub, Int.reduceNeg, Int.reduceLT, Int.reduceLE, Int.reduceEq, Int.reduceToNat, Nat.reduceAdd, Nat.reduceSub, Nat.reduceMul, Nat.reduceLeDiff, Nat.reduceLT, Nat.reduceEqDiff, ite_true, ite_false, if_true, if_false, Bool.false_eq_true, Bool.not_true, Bool.not_false, Int.toNat_natCast, true_and, and_true, true_or, or_true, and_self, or_self, or_false, false_or, false_and, and_false, Int.neg_neg, Int.neg_zero, Nat.add_zero, Nat.zero_add, Int.zero_add, Int.add_zero, Int.sub_zero, Int.zero_sub, Int.one_ne_zero, fX11_goStretch, bX11_goStretch, hgr, tB_f, tE_f, htv, htr, htn]
  · simp (disch := (first | with_reducible assumption | omega)) only [x_c, x_fi, x_fr, x_fj, x_vi, x_vr, x_vj, x_fi1, x_fi2, x_fr1, x_fr2, x_fj1, x_fj2, x_ai1, x_ai2, x_ai3, x_ar1, x_ar2, x_ar3, x_t1, x_t2, x_t3, x_t4, x_21, x_22, x_23, x_24, x_n1, x_n2, x_ji1, x_ji2, x_jc, x_j21, x_j22, x_j23, x_js1, x_js2, x_js3, x_ij1, x_ij2, x_ib1, x_ib2, x_c21, x_c22, x_c23, x_cz1, x_cz2, x_an1, x_an2, x_an3, x_or1, x_or2, x_or3, x_nt1, x_nt2, x_anm, x_orm, x_anm0, x_orm0, x_if1, x_if2, x_if3, x_ifm, x_ifm0, x_cf1, x_cf2, x_cf3, x_cfm, x_cfm0, x_a0, x_pi1, x_pi2, x_pr1, x_pr2, x_pj1, x_pj2, x_av, x_cv1, x_cv2, x_cv3, x_cs1, x_cs2, x_cl, x_of1, x_of2, x_so1, x_so2, x_fe1, x_fe2, x_fe3, x_sq1, x_sq2, x_sq3, x_sk, x_st1, x_st2, x_sr1, x_sr2, x_in1, x_in2, x_sf1, x_sf2, x_sf3, x_rt1, x_rt2, x_rz1, x_rz2, x_rj1, x_rj2, x_rv, x_ue, x_pf1, x_pf2, x_pf3, x_pz1, x_pz2, x_pz3, x_as1, x_as2, x_as3, x_as4, x_bs1, x_bs2, x_bs3, x_bs4, x_zs1, x_zs2, x_zs3, x_zs4, x_uf1, x_uf2, x_uf3, x_uf4, x_uf5, x_ua1, x_ua2, x_ua3, x_ua4, x_ua5, x_ua6, x_cp1, x_cp2, x_cp3, x_sw1, x_sw2, x_sw3, b_t, b_f, b_a, b_o, b_n, b_i, pu_e, w_d, ex_0, ex_i, ex_r, ex_j, ol_ent, List.length_cons, List.length_nil, List.replicate, List.cons_append, List.nil_append, rcv_r, ls_0, ls_i, ls_r, ls_j, ol_lt, ol_le, ol_gt, ol_ge, ol_eq, ol_ne, v_in, v_out, v_isBall, v_isHand, v_shotM, v_shotC, ol_min, ol_max, Bool.and_true, Bool.true_and, Bool.and_false, Bool.false_and, Bool.or_true, Bool.true_or, Bool.or_false, Bool.false_or, if_pos, if_neg, not_true_eq_false, not_false_eq_true, decide_true, decide_false, f75_0, f75_1, f75_2, p75_2, f75_3, f75_4, p75_4, f75_5, p75_5, f75_6, p75_6, f75_7, p75_7, f75_8, p75_8, f75_9, p75_9, f75_10, f75_11, f75_12, p75_12, f75_13, p75_13, f75_14, p75_14, f75_15, p75_15, f75_16, p75_16, f75_17, p75_17, f75_18, p75_18, f75_19, p75_19, f75_20, f75_21, f75_22, f75_23, p75_23, f75_24, p75_24, f75_25, p75_25, f75_26, f75_27, f75_28, p75_28, f75_29, p75_29, f75_30, p75_30, f75_31, p75_31, f75_32, f75_33, f75_34, p75_34, f75_35, f75_36, f75_37, f75_38, p75_38, f75_39, f75_40, f75_41, c75, a77, s77, a78, s78, List.getElem?_cons_zero, List.getElem?_cons_succ, e_add, e_sub, e_mul, e_div, e_rem, ↓reduceIte, reduceIte, Int.reduceAdd, Int.reduceMul, Int.reduceSub, Int.reduceNeg, Int.reduceLT, Int.reduceLE, Int.reduceEq, Int.reduceToNat, Nat.reduceAdd, Nat.reduceSub, Nat.reduceMul, Nat.reduceLeDiff, Nat.reduceLT, Nat.reduceEqDiff, ite_true, ite_false, if_true, if_false, Bool.false_eq_true, Bool.not_true, Bool.not_false, Int.toNat_natCast, true_and, and_true, true_or, or_true, and_self, or_self, or_false, false_or, false_and, and_false, Int.neg_neg, Int.neg_zero, Nat.add_zero, Nat.zero_add, Int.zero_add, Int.add_zero, Int.sub_zero, Int.zero_sub, Int.one_ne_zero, fX11_goStretch, bX11_goStretch, hgr, tB_f, tE_f, htv, htr, htn]
set_option maxHeartbeats 200000 in
theorem go_b {g : pg} {t : pt} {o k : Nat} (ho : o + 780 ≤ 7020) (hk6 : k < 6) {b a s : Int} (hs : shOk (g 78 k) (fun j => g 77 (o + j)) b a s) (hmk : g 75 19 = 0 ∨ g 75 19 = 1) {n : Nat} (hn : n < 20) {g' : pg} (hP : GP g o k b a s n g') (hg : ¬ tT (g 78 k) (fun j => g 77 (o + j)) b a s n 1 = -1) : ∃ g'', wX11_go_0b (gLo o k b a s n) (pb g' t, 0, 0) = some (none, gLo o k b a s (n + 1), (pb g'' t, 0, 0)) ∧ GP g o k b a s (n + 1) g'' := by
  obtain ⟨h12, hf, h18, hc, hfr⟩ := hP
  have h12 := h12 hg
  have ho' := tT_ok hs n (by omega)
  obtain ⟨k1, k2, hcb, hs4⟩ := hs
  have hs : shOk (g 78 k) (fun j => g 77 (o + j)) b a s := ⟨k1, k2, hcb, hs4⟩
  have q := ho'
  unfold tOk at q
  have f2 := hf 2 (by decide) (by decide)
  have f3 := hf 3 (by decide) (by decide)
  have f4 := hf 4 (by decide) (by decide)
  have f5 := hf 5 (by decide) (by decide)
  have f6 := hf 6 (by decide) (by decide)
  have hcu := tMk_up hs n (by omega)
  have hTs := tT_s (g 78 k) (fun j => g 77 (o + j)) b a s n
  have hCs := tMk_s (g 78 k) (fun j => g 77 (o + j)) b a s n
  rw [if_neg hg] at hTs hCs
  generalize hT : tT (g 78 k) (fun j => g 77 (o + j)) b a s n = T at *
  simp only [Nat.reduceAdd] at f2 f3 f4 f5 f6
  obtain ⟨P, hPe⟩ : ∃ P : Nat, T 1 = (P : Int) := ⟨(T 1).toNat, by omega⟩
  have hP2 : P < 390 := by omega
  have hix : 39 * n + P / 10 < 780 := by omega
  have eix : (o : Int) + 39 * (n : Int) + ((P / 10 : Nat) : Int) = ((o + (39 * n + P / 10) : Nat) : Int) := by omega
  have hC : g' 77 (o + (39 * n + P / 10)) = g 77 (o + (39 * n + P / 10)) := by
    rw [hc _ hix]
    split
    · exact hcu _ (by omega)
    · rfl
  have hCb := hcb _ hix
  rw [hPe, Int.toNat_natCast] at hTs hCs
  have hk : g' 78 k = g 78 k := hfr _ _ (by omega) (by omega)
  have h19 : g' 75 19 = g 75 19 := hfr _ _ (by omega) (by omega)
  change 0 ≤ g 77 (o + (39 * n + P / 10)) ∧ g 77 (o + (39 * n + P / 10)) ≤ 99 at hCb
  change tT _ _ _ _ _ _ = tS (g 78 k) (g 77 (o + (39 * n + P / 10))) T at hTs
  obtain ⟨Q, hQ, hex⟩ := v_goStretch (g := g') (t := t) (i := o + (39 * n + P / 10)) (k := k) (by omega) hk6 (by omega) (by omega) (by omega) (by omega) (by omega) (by omega) (by omega) (by omega) (by omega) (by omega) (by omega) (by omega) (by omega) (by omega) (by omega) (by omega) (by omega)
  rw [hk, hC] at hQ
  rw [hC, f2, f3, f4, f5, f6, h12, h19, hPe] at hex
  rw [hPe] at h12
  have eN : (n : Int) + 1 = ((n + 1 : Nat) : Int) := by omega
  refine ⟨_, by (simp (disch := (first | with_reducible assumption | omega)) only [x_c, x_fi, x_fr, x_fj, x_vi, x_vr, x_vj, x_fi1, x_fi2, x_fr1, x_fr2, x_fj1, x_fj2, x_ai1, x_ai2, x_ai3, x_ar1, x_ar2, x_ar3, x_t1, x_t2, x_t3, x_t4, x_21, x_22, x_23, x_24, x_n1, x_n2, x_ji1, x_ji2, x_jc, x_j21, x_j22, x_j23, x_js1, x_js2, x_js3, x_ij1, x_ij2, x_ib1, x_ib2, x_c21, x_c22, x_c23, x_cz1, x_cz2, x_an1, x_an2, x_an3, x_or1, x_or2, x_or3, x_nt1, x_nt2, x_anm, x_orm, x_anm0, x_orm0, x_if1, x_if2, x_if3, x_ifm, x_ifm0, x_cf1, x_cf2, x_cf3, x_cfm, x_cfm0, x_a0, x_pi1, x_pi2, x_pr1, x_pr2, x_pj1, x_pj2, x_av, x_cv1, x_cv2, x_cv3, x_cs1, x_cs2, x_cl, x_of1, x_of2, x_so1, x_so2, x_fe1, x_fe2, x_fe3, x_sq1, x_sq2, x_sq3, x_sk, x_st1, x_st2, x_sr1, x_sr2, x_in1, x_in2, x_sf1, x_sf2, x_sf3, x_rt1, x_rt2, x_rz1, x_rz2, x_rj1, x_rj2, x_rv, x_ue, x_pf1, x_pf2, x_pf3, x_pz1, x_pz2, x_pz3, x_as1, x_as2, x_as3, x_as4, x_bs1, x_bs2, x_bs3, x_bs4, x_zs1, x_zs2, x_zs3, x_zs4, x_uf1, x_uf2, x_uf3, x_uf4, x_uf5, x_ua1, x_ua2, x_ua3, x_ua4, x_ua5, x_ua6, x_cp1, x_cp2, x_cp3, x_sw1, x_sw2, x_sw3, b_t, b_f, b_a, b_o, b_n, b_i, pu_e, w_d, ex_0, ex_i, ex_r, ex_j, ol_ent, List.length_cons, List.length_nil, List.replicate, List.cons_append, List.nil_append, rcv_r, ls_0, ls_i, ls_r, ls_j, ol_lt, ol_le, ol_gt, ol_ge, ol_eq, ol_ne, v_in, v_out, v_isBall, v_isHand, v_shotM, v_shotC, ol_min, ol_max, Bool.and_true, Bool.true_and, Bool.and_false, Bool.false_and, Bool.or_true, Bool.true_or, Bool.or_false, Bool.false_or, if_pos, if_neg, not_true_eq_false, not_false_eq_true, decide_true, decide_false, f75_0, f75_1, f75_2, p75_2, f75_3, f75_4, p75_4, f75_5, p75_5, f75_6, p75_6, f75_7, p75_7, f75_8, p75_8, f75_9, p75_9, f75_10, f75_11, f75_12, p75_12, f75_13, p75_13, f75_14, p75_14, f75_15, p75_15, f75_16, p75_16, f75_17, p75_17, f75_18, p75_18, f75_19, p75_19, f75_20, f75_21, f75_22, f75_23, p75_23, f75_24, p75_24, f75_25, p75_25, f75_26, f75_27, f75_28, p75_28, f75_29, p75_29, f75_30, p75_30, f75_31, p75_31, f75_32, f75_33, f75_34, p75_34, f75_35, f75_36, f75_37, f75_38, p75_38, f75_39, f75_40, f75_41, c75, a77, s77, a78, s78, List.getElem?_cons_zero, List.getElem?_cons_succ, e_add, e_sub, e_mul, e_div, e_rem, ↓reduceIte, reduceIte, Int.reduceAdd, Int.reduceMul, Int.reduceSub, Int.reduceNeg, Int.reduceLT, Int.reduceLE, Int.reduceEq, Int.reduceToNat, Nat.reduceAdd, Nat.reduceSub, Nat.reduceMul, Nat.reduceLeDiff, Nat.reduceLT, Nat.reduceEqDiff, ite_true, ite_false, if_true, if_false, Bool.false_eq_true, Bool.not_true, Bool.not_false, Int.toNat_natCast, true_and, and_true, true_or, or_true, and_self, or_self, or_false, false_or, false_and, and_false, Int.neg_neg, Int.neg_zero, Nat.add_zero, Nat.zero_add, Int.zero_add, Int.add_zero, Int.sub_zero, Int.zero_sub, Int.one_ne_zero, wX11_go_0b, gLo, h12, td10, eix, hex, eN]) <;> rfl, ?_⟩
  have hT1 : tT (g 78 k) (fun j => g 77 (o + j)) b a s (n + 1) 1 = if (P : Int) + tV (T 2) (T 3) Q < 0 ∨ 389 < (P : Int) + tV (T 2) (T 3) Q then -1 else (P : Int) + tV (T 2) (T 3) Q := by
    rw [hTs, hQ]
    unfold tS
    simp only [reduceIte, hPe]
  refine ⟨?_, ?_, ?_, ?_, ?_⟩
  · intro hne
    rw [hT1] at hne ⊢
    rw [if_neg (fun q => hne (if_pos q))]
    simp only [pu_e, Nat.reduceEqDiff, and_false, false_and, true_and, and_self, reduceIte]
  · intro f hf1 hf2
    rw [hTs]
    unfold tS
    rw [← hQ]
    rcases (show f = 2 ∨ f = 3 ∨ f = 4 ∨ f = 5 ∨ f = 6 by omega) with rfl | rfl | rfl | rfl | rfl
    · simp only [pu_e, Nat.reduceAdd, Nat.reduceEqDiff, and_false, false_and, true_and, and_self, reduceIte]
    · simp only [pu_e, Nat.reduceAdd, Nat.reduceEqDiff, and_false, false_and, true_and, and_self, reduceIte]
    · simp only [pu_e, Nat.reduceAdd, Nat.reduceEqDiff, and_false, false_and, true_and, and_self, reduceIte]
    · simp only [pu_e, Nat.reduceAdd, Nat.reduceEqDiff, and_false, false_and, true_and, and_self, reduceIte]
    · simp only [pu_e, Nat.reduceAdd, Nat.reduceEqDiff, and_false, false_and, true_and, and_self, reduceIte]
      split <;> simp_all
  · rw [pr_eq, hT1]
    omega
  · intro j hj
    rw [pr_ne (by omega), pr_ne (by omega), hCs]
    by_cases ej : j = 39 * n + P / 10
    · subst ej
      rw [pr_eq]
      rcases hmk with e | e
      · rw [e]; simp
      · rw [e]; simp
    · rw [pr_ne (by omega), pr_ne (by omega), pr_ne (by omega), pr_ne (by omega), pr_ne (by omega), pr_ne (by omega), hc j hj]
      rcases hmk with e | e
      · rw [e]; simp [ej]
      · rw [e]; simp
  · intro x j a1 a2
    rw [pr_ne (by omega), pr_ne (by omega), pr_ne (by omega), pr_ne (by omega), pr_ne (by omega), pr_ne (by omega), pr_ne (by omega), pr_ne (by omega)]
    exact hfr x j a1 a2
set_option maxHeartbeats 200000 in
theorem v_go {g : pg} {t : pt} {o k : Nat} (ho : o + 780 ≤ 7020) (hk6 : k < 6) {b a s : Int} (hs : shOk (g 78 k) (fun j => g 77 (o + j)) b a s) (hmk : g 75 19 = 0 ∨ g 75 19 = 1) : ∃ g', fX11_go [.inr (.inl (some 75)), .inl (o : Int), .inl b, .inl a, .inl s, .inl (k : Int)] (pb g t, 0, 0) = some (none, (pb g' t, 0, 0)) ∧ GP g o k b a s 20 g' := by
  have hI : GP g o k b a s 0 (pu (pu (pu (pu (pu (pu (pu g 75 12 (10 * b + 5)) 75 13 a) 75 14 s) 75 15 0) 75 16 0) 75 17 0) 75 18 0) := by
    have b1 := hs.2.2.2.1
    refine ⟨?_, ?_, ?_, ?_, ?_⟩
    · intro _
      rw [tT_0]
      unfold tI
      simp [pu]
      omega
    · intro f h1 h2
      rw [tT_0]
      unfold tI
      rcases (show f = 2 ∨ f = 3 ∨ f = 4 ∨ f = 5 ∨ f = 6 by omega) with rfl | rfl | rfl | rfl | rfl <;> simp [pu]
    · rw [tT_0, pr_eq]
      unfold tI
      simp
      omega
    · intro j hj
      rw [pr_ne (by omega), pr_ne (by omega), pr_ne (by omega), pr_ne (by omega), pr_ne (by omega), pr_ne (by omega), pr_ne (by omega), tMk_0]
      split <;> rfl
    · intro x j h1 h2
      rw [pr_ne (by omega), pr_ne (by omega), pr_ne (by omega), pr_ne (by omega), pr_ne (by omega), pr_ne (by omega), pr_ne (by omega)]
  obtain ⟨r, L', g', e, rfl, hQ⟩ := wh_inv (c := wX11_go_0c) (b := wX11_go_0b) (t := t) 20 (by decide) (fun n L g' => L = gLo o k b a s n ∧ GP g o k b a s n g') (fun r L g' => r = none ∧ GP g o k b a s 20 g')
    (by
      rintro n L g' hn ⟨rfl, hP⟩
      have hf := hP.2.2.1
      by_cases h20 : n = 20
      · subst h20
        exact Or.inl ⟨by simp (disch := (first | with_reducible assumption | omega)) only [x_c, x_fi, x_fr, x_fj, x_vi, x_vr, x_vj, x_fi1, x_fi2, x_fr1, x_fr2, x_fj1, x_fj2, x_ai1, x_ai2, x_ai3, x_ar1, x_ar2, x_ar3, x_t1, x_t2, x_t3, x_t4, x_21, x_22, x_23, x_24, x_n1, x_n2, x_ji1, x_ji2, x_jc, x_j21, x_j22, x_j23, x_js1, x_js2, x_js3, x_ij1, x_ij2, x_ib1, x_ib2, x_c21, x_c22, x_c23, x_cz1, x_cz2, x_an1, x_an2, x_an3, x_or1, x_or2, x_or3, x_nt1, x_nt2, x_anm, x_orm, x_anm0, x_orm0, x_if1, x_if2, x_if3, x_ifm, x_ifm0, x_cf1, x_cf2, x_cf3, x_cfm, x_cfm0, x_a0, x_pi1, x_pi2, x_pr1, x_pr2, x_pj1, x_pj2, x_av, x_cv1, x_cv2, x_cv3, x_cs1, x_cs2, x_cl, x_of1, x_of2, x_so1, x_so2, x_fe1, x_fe2, x_fe3, x_sq1, x_sq2, x_sq3, x_sk, x_st1, x_st2, x_sr1, x_sr2, x_in1, x_in2, x_sf1, x_sf2, x_sf3, x_rt1, x_rt2, x_rz1, x_rz2, x_rj1, x_rj2, x_rv, x_ue, x_pf1, x_pf2, x_pf3, x_pz1, x_pz2, x_pz3, x_as1, x_as2, x_as3, x_as4, x_bs1, x_bs2, x_bs3, x_bs4, x_zs1, x_zs2, x_zs3, x_zs4, x_uf1, x_uf2, x_uf3, x_uf4, x_uf5, x_ua1, x_ua2, x_ua3, x_ua4, x_ua5, x_ua6, x_cp1, x_cp2, x_cp3, x_sw1, x_sw2, x_sw3, b_t, b_f, b_a, b_o, b_n, b_i, pu_e, w_d, ex_0, ex_i, ex_r, ex_j, ol_ent, List.length_cons, List.length_nil, List.replicate, List.cons_append, List.nil_append, rcv_r, ls_0, ls_i, ls_r, ls_j, ol_lt, ol_le, ol_gt, ol_ge, ol_eq, ol_ne, v_in, v_out, v_isBall, v_isHand, v_shotM, v_shotC, ol_min, ol_max, Bool.and_true, Bool.true_and, Bool.and_false, Bool.false_and, Bool.or_true, Bool.true_or, Bool.or_false, Bool.false_or, if_pos, if_neg, not_true_eq_false, not_false_eq_true, decide_true, decide_false, f75_0, f75_1, f75_2, p75_2, f75_3, f75_4, p75_4, f75_5, p75_5, f75_6, p75_6, f75_7, p75_7, f75_8, p75_8, f75_9, p75_9, f75_10, f75_11, f75_12, p75_12, f75_13, p75_13, f75_14, p75_14, f75_15, p75_15, f75_16, p75_16, f75_17, p75_17, f75_18, p75_18, f75_19, p75_19, f75_20, f75_21, f75_22, f75_23, p75_23, f75_24, p75_24, f75_25, p75_25, f75_26, f75_27, f75_28, p75_28, f75_29, p75_29, f75_30, p75_30, f75_31, p75_31, f75_32, f75_33, f75_34, p75_34, f75_35, f75_36, f75_37, f75_38, p75_38, f75_39, f75_40, f75_41, c75, List.getElem?_cons_zero, List.getElem?_cons_succ, e_add, e_sub, e_mul, e_div, e_rem, ↓reduceIte, reduceIte, Int.reduceAdd, Int.reduceMul, Int.reduceSub, Int.reduceNeg, Int.reduceLT, Int.reduceLE, Int.reduceEq, Int.reduceToNat, Nat.reduceAdd, Nat.reduceSub, Nat.reduceMul, Nat.reduceLeDiff, Nat.reduceLT, Nat.reduceEqDiff, ite_true, ite_false, if_true, if_false, Bool.false_eq_true, Bool.not_true, Bool.not_false, Int.toNat_natCast, true_and, and_true, true_or, or_true, and_self, or_self, or_false, false_or, false_and, and_false, Int.neg_neg, Int.neg_zero, Nat.add_zero, Nat.zero_add, Int.zero_add, Int.add_zero, Int.sub_zero, Int.zero_sub, Int.one_ne_zero, wX11_go_0c, gLo, Int.cast_ofNat_Int], rfl, hP⟩
      · by_cases hg : tT (g 78 k) (fun j => g 77 (o + j)) b a s n 1 = -1
        · rw [if_pos hg] at hf
          refine Or.inl ⟨by simp (disch := (first | with_reducible assumption | omega)) only [x_c, x_fi, x_fr, x_fj, x_vi, x_vr, x_vj, x_fi1, x_fi2, x_fr1, x_fr2, x_fj1, x_fj2, x_ai1, x_ai2, x_ai3, x_ar1, x_ar2, x_ar3, x_t1, x_t2, x_t3, x_t4, x_21, x_22, x_23, x_24, x_n1, x_n2, x_ji1, x_ji2, x_jc, x_j21, x_j22, x_j23, x_js1, x_js2, x_js3, x_ij1, x_ij2, x_ib1, x_ib2, x_c21, x_c22, x_c23, x_cz1, x_cz2, x_an1, x_an2, x_an3, x_or1, x_or2, x_or3, x_nt1, x_nt2, x_anm, x_orm, x_anm0, x_orm0, x_if1, x_if2, x_if3, x_ifm, x_ifm0, x_cf1, x_cf2, x_cf3, x_cfm, x_cfm0, x_a0, x_pi1, x_pi2, x_pr1, x_pr2, x_pj1, x_pj2, x_av, x_cv1, x_cv2, x_cv3, x_cs1, x_cs2, x_cl, x_of1, x_of2, x_so1, x_so2, x_fe1, x_fe2, x_fe3, x_sq1, x_sq2, x_sq3, x_sk, x_st1, x_st2, x_sr1, x_sr2, x_in1, x_in2, x_sf1, x_sf2, x_sf3, x_rt1, x_rt2, x_rz1, x_rz2, x_rj1, x_rj2, x_rv, x_ue, x_pf1, x_pf2, x_pf3, x_pz1, x_pz2, x_pz3, x_as1, x_as2, x_as3, x_as4, x_bs1, x_bs2, x_bs3, x_bs4, x_zs1, x_zs2, x_zs3, x_zs4, x_uf1, x_uf2, x_uf3, x_uf4, x_uf5, x_ua1, x_ua2, x_ua3, x_ua4, x_ua5, x_ua6, x_cp1, x_cp2, x_cp3, x_sw1, x_sw2, x_sw3, b_t, b_f, b_a, b_o, b_n, b_i, pu_e, w_d, ex_0, ex_i, ex_r, ex_j, ol_ent, List.length_cons, List.length_nil, List.replicate, List.cons_append, List.nil_append, rcv_r, ls_0, ls_i, ls_r, ls_j, ol_lt, ol_le, ol_gt, ol_ge, ol_eq, ol_ne, v_in, v_out, v_isBall, v_isHand, v_shotM, v_shotC, ol_min, ol_max, Bool.and_true, Bool.true_and, Bool.and_false, Bool.false_and, Bool.or_true, Bool.true_or, Bool.or_false, Bool.false_or, if_pos, if_neg, not_true_eq_false, not_false_eq_true, decide_true, decide_false, f75_0, f75_1, f75_2, p75_2, f75_3, f75_4, p75_4, f75_5, p75_5, f75_6, p75_6, f75_7, p75_7, f75_8, p75_8, f75_9, p75_9, f75_10, f75_11, f75_12, p75_12, f75_13, p75_13, f75_14, p75_14, f75_15, p75_15, f75_16, p75_16, f75_17, p75_17, f75_18, p75_18, f75_19, p75_19, f75_20, f75_21, f75_22, f75_23, p75_23, f75_24, p75_24, f75_25, p75_25, f75_26, f75_27, f75_28, p75_28, f75_29, p75_29, f75_30, p75_30, f75_31, p75_31, f75_32, f75_33, f75_34, p75_34, f75_35, f75_36, f75_37, f75_38, p75_38, f75_39, f75_40, f75_41, c75, List.getElem?_cons_zero, List.getElem?_cons_succ, e_add, e_sub, e_mul, e_div, e_rem, ↓reduceIte, reduceIte, Int.reduceAdd, Int.reduceMul, Int.reduceSub, Int.reduceNeg, Int.reduceLT, Int.reduceLE, Int.reduceEq, Int.reduceToNat, Nat.reduceAdd, Nat.reduceSub, Nat.reduceMul, Nat.reduceLeDiff, Nat.reduceLT, Nat.reduceEqDiff, ite_true, ite_false, if_true, if_false, Bool.false_eq_true, Bool.not_true, Bool.not_false, Int.toNat_natCast, true_and, and_true, true_or, or_true, and_self, or_self, or_false, false_or, false_and, and_false, Int.neg_neg, Int.neg_zero, Nat.add_zero, Nat.zero_add, Int.zero_add, Int.add_zero, Int.sub_zero, Int.zero_sub, Int.one_ne_zero, wX11_go_0c, gLo, hf], rfl, ?_⟩
          obtain ⟨e1, e2⟩ := tT_gut hg hn
          unfold GP
          rw [e1, e2]
          exact hP
        · rw [if_neg hg] at hf
          obtain ⟨g'', e1, e2⟩ := go_b (t := t) ho hk6 hs hmk (show n < 20 by omega) hP hg
          exact Or.inr ⟨by omega, by simp (disch := (first | with_reducible assumption | omega)) only [x_c, x_fi, x_fr, x_fj, x_vi, x_vr, x_vj, x_fi1, x_fi2, x_fr1, x_fr2, x_fj1, x_fj2, x_ai1, x_ai2, x_ai3, x_ar1, x_ar2, x_ar3, x_t1, x_t2, x_t3, x_t4, x_21, x_22, x_23, x_24, x_n1, x_n2, x_ji1, x_ji2, x_jc, x_j21, x_j22, x_j23, x_js1, x_js2, x_js3, x_ij1, x_ij2, x_ib1, x_ib2, x_c21, x_c22, x_c23, x_cz1, x_cz2, x_an1, x_an2, x_an3, x_or1, x_or2, x_or3, x_nt1, x_nt2, x_anm, x_orm, x_anm0, x_orm0, x_if1, x_if2, x_if3, x_ifm, x_ifm0, x_cf1, x_cf2, x_cf3, x_cfm, x_cfm0, x_a0, x_pi1, x_pi2, x_pr1, x_pr2, x_pj1, x_pj2, x_av, x_cv1, x_cv2, x_cv3, x_cs1, x_cs2, x_cl, x_of1, x_of2, x_so1, x_so2, x_fe1, x_fe2, x_fe3, x_sq1, x_sq2, x_sq3, x_sk, x_st1, x_st2, x_sr1, x_sr2, x_in1, x_in2, x_sf1, x_sf2, x_sf3, x_rt1, x_rt2, x_rz1, x_rz2, x_rj1, x_rj2, x_rv, x_ue, x_pf1, x_pf2, x_pf3, x_pz1, x_pz2, x_pz3, x_as1, x_as2, x_as3, x_as4, x_bs1, x_bs2, x_bs3, x_bs4, x_zs1, x_zs2, x_zs3, x_zs4, x_uf1, x_uf2, x_uf3, x_uf4, x_uf5, x_ua1, x_ua2, x_ua3, x_ua4, x_ua5, x_ua6, x_cp1, x_cp2, x_cp3, x_sw1, x_sw2, x_sw3, b_t, b_f, b_a, b_o, b_n, b_i, pu_e, w_d, ex_0, ex_i, ex_r, ex_j, ol_ent, List.length_cons, List.length_nil, List.replicate, List.cons_append, List.nil_append, rcv_r, ls_0, ls_i, ls_r, ls_j, ol_lt, ol_le, ol_gt, ol_ge, ol_eq, ol_ne, v_in, v_out, v_isBall, v_isHand, v_shotM, v_shotC, ol_min, ol_max, Bool.and_true, Bool.true_and, Bool.and_false, Bool.false_and, Bool.or_true, Bool.true_or, Bool.or_false, Bool.false_or, if_pos, if_neg, not_true_eq_false, not_false_eq_true, decide_true, decide_false, f75_0, f75_1, f75_2, p75_2, f75_3, f75_4, p75_4, f75_5, p75_5, f75_6, p75_6, f75_7, p75_7, f75_8, p75_8, f75_9, p75_9, f75_10, f75_11, f75_12, p75_12, f75_13, p75_13, f75_14, p75_14, f75_15, p75_15, f75_16, p75_16, f75_17, p75_17, f75_18, p75_18, f75_19, p75_19, f75_20, f75_21, f75_22, f75_23, p75_23, f75_24, p75_24, f75_25, p75_25, f75_26, f75_27, f75_28, p75_28, f75_29, p75_29, f75_30, p75_30, f75_31, p75_31, f75_32, f75_33, f75_34, p75_34, f75_35, f75_36, f75_37, f75_38, p75_38, f75_39, f75_40, f75_41, c75, List.getElem?_cons_zero, List.getElem?_cons_succ, e_add, e_sub, e_mul, e_div, e_rem, ↓reduceIte, reduceIte, Int.reduceAdd, Int.reduceMul, Int.reduceSub, Int.reduceNeg, Int.reduceLT, Int.reduceLE, Int.reduceEq, Int.reduceToNat, Nat.reduceAdd, Nat.reduceSub, Nat.reduceMul, Nat.reduceLeDiff, Nat.reduceLT, Nat.reduceEqDiff, ite_true, ite_false, if_true, if_false, Bool.false_eq_true, Bool.not_true, Bool.not_false, Int.toNat_natCast, true_and, and_true, true_or, or_true, and_self, or_self, or_false, false_or, false_and, and_false, Int.neg_neg, Int.neg_zero, Nat.add_zero, Nat.zero_add, Int.zero_add, Int.add_zero, Int.sub_zero, Int.zero_sub, Int.one_ne_zero, wX11_go_0c, gLo, hf], none, _, g'', e1, Or.inl ⟨rfl, rfl, e2⟩⟩) (g := pu (pu (pu (pu (pu (pu (pu g 75 12 (10 * b + 5)) 75 13 a) 75 14 s) 75 15 0) 75 16 0) 75 17 0) 75 18 0) (L := gLo o k b a s 0) ⟨rfl, hI⟩
  refine ⟨g', ?_, hQ⟩
  obtain ⟨-, -, -, b1, b2, -⟩ := hs
  unfold gLo at e
  rw [show ((0 : Nat) : Int) = 0 by decide] at e
  simp (disch := (first | with_reducible assumption | omega)) only [x_c, x_fi, x_fr, x_fj, x_vi, x_vr, x_vj, x_fi1, x_fi2, x_fr1, x_fr2, x_fj1, x_fj2, x_ai1, x_ai2, x_ai3, x_ar1, x_ar2, x_ar3, x_t1, x_t2, x_t3, x_t4, x_21, x_22, x_23, x_24, x_n1, x_n2, x_ji1, x_ji2, x_jc, x_j21, x_j22, x_j23, x_js1, x_js2, x_js3, x_ij1, x_ij2, x_ib1, x_ib2, x_c21, x_c22, x_c23, x_cz1, x_cz2, x_an1, x_an2, x_an3, x_or1, x_or2, x_or3, x_nt1, x_nt2, x_anm, x_orm, x_anm0, x_orm0, x_if1, x_if2, x_if3, x_ifm, x_ifm0, x_cf1, x_cf2, x_cf3, x_cfm, x_cfm0, x_a0, x_pi1, x_pi2, x_pr1, x_pr2, x_pj1, x_pj2, x_av, x_cv1, x_cv2, x_cv3, x_cs1, x_cs2, x_cl, x_of1, x_of2, x_so1, x_so2, x_fe1, x_fe2, x_fe3, x_sq1, x_sq2, x_sq3, x_sk, x_st1, x_st2, x_sr1, x_sr2, x_in1, x_in2, x_sf1, x_sf2, x_sf3, x_rt1, x_rt2, x_rz1, x_rz2, x_rj1, x_rj2, x_rv, x_ue, x_pf1, x_pf2, x_pf3, x_pz1, x_pz2, x_pz3, x_as1, x_as2, x_as3, x_as4, x_bs1, x_bs2, x_bs3, x_bs4, x_zs1, x_zs2, x_zs3, x_zs4, x_uf1, x_uf2, x_uf3, x_uf4, x_uf5, x_ua1, x_ua2, x_ua3, x_ua4, x_ua5, x_ua6, x_cp1, x_cp2, x_cp3, x_sw1, x_sw2, x_sw3, b_t, b_f, b_a, b_o, b_n, b_i, pu_e, w_d, ex_0, ex_i, ex_r, ex_j, ol_ent, List.length_cons, List.length_nil, List.replicate, List.cons_append, List.nil_append, rcv_r, ls_0, ls_i, ls_r, ls_j, ol_lt, ol_le, ol_gt, ol_ge, ol_eq, ol_ne, v_in, v_out, v_isBall, v_isHand, v_shotM, v_shotC, ol_min, ol_max, Bool.and_true, Bool.true_and, Bool.and_false, Bool.false_and, Bool.or_true, Bool.true_or, Bool.or_false, Bool.false_or, if_pos, if_neg, not_true_eq_false, not_false_eq_true, decide_true, decide_false, f75_0, f75_1, f75_2, p75_2, f75_3, f75_4, p75_4, f75_5, p75_5, f75_6, p75_6, f75_7, p75_7, f75_8, p75_8, f75_9, p75_9, f75_10, f75_11, f75_12, p75_12, f75_13, p75_13, f75_14, p75_14, f75_15, p75_15, f75_16, p75_16, f75_17, p75_17, f75_18, p75_18, f75_19, p75_19, f75_20, f75_21, f75_22, f75_23, p75_23, f75_24, p75_24, f75_25, p75_25, f75_26, f75_27, f75_28, p75_28, f75_29, p75_29, f75_30, p75_30, f75_31, p75_31, f75_32, f75_33, f75_34, p75_34, f75_35, f75_36, f75_37, f75_38, p75_38, f75_39, f75_40, f75_41, c75, List.getElem?_cons_zero, List.getElem?_cons_succ, e_add, e_sub, e_mul, e_div, e_rem, ↓reduceIte, reduceIte, Int.reduceAdd, Int.reduceMul, Int.reduceSub, Int.reduceNeg, Int.reduceLT, Int.reduceLE, Int.reduceEq, Int.reduceToNat, Nat.reduceAdd, Nat.reduceSub, Nat.reduceMul, Nat.reduceLeDiff, Nat.reduceLT, Nat.reduceEqDiff, ite_true, ite_false, if_true, if_false, Bool.false_eq_true, Bool.not_true, Bool.not_false, Int.toNat_natCast, true_and, and_true, true_or, or_true, and_self, or_self, or_false, false_or, false_and, and_false, Int.neg_neg, Int.neg_zero, Nat.add_zero, Nat.zero_add, Int.zero_add, Int.add_zero, Int.sub_zero, Int.zero_sub, Int.one_ne_zero, fX11_go, eX11_go, e]
