/-! pattern -/
set_option maxHeartbeats 200000 in
theorem told_or : ∀ a, a < 2 → ∀ b, b < 2 → ∀ c, c < 2 → ∀ d, d < 2 → (a + 2 * b + 4 * c + 8 * d ||| 2 ^ 0 = 1 + 2 * b + 4 * c + 8 * d) ∧ (a + 2 * b + 4 * c + 8 * d ||| 2 ^ 1 = a + 2 * 1 + 4 * c + 8 * d) ∧ (a + 2 * b + 4 * c + 8 * d ||| 2 ^ 2 = a + 2 * b + 4 * 1 + 8 * d) ∧ (a + 2 * b + 4 * c + 8 * d ||| 2 ^ 3 = a + 2 * b + 4 * c + 8 * 1) := by decide
set_option maxHeartbeats 4000000 in
 theorem k_pattern {g : pg} {t : pt} (hI : Inv g t) (k : Int) : ag Inv fX10_pattern fX11_pattern g t [.inl k] := by
  by_cases hk : 0 ≤ k ∧ k ≤ 3
  · obtain ⟨h1, h2, h3, h4, h5, h6, h7, h8, h9, h10, h11, h12⟩ := hI
    obtain ⟨k, rfl⟩ : ∃ m : Nat, k = (m : Int) := ⟨k.toNat, by omega⟩
    have hk4 : k < 4 := by omega
    obtain ⟨t1, t2, t3, t4⟩ := id h1
    obtain ⟨l, hl⟩ : ∃ n : Nat, g 1 2 = (n : Int) := ⟨(g 1 2).toNat, by omega⟩
    have hl3 : l ≤ 300 := by omega
    have hB : tkB (g 2) l := fun i hi => ⟨(t4 i (by omega)).1, (t4 i (by omega)).2.1⟩
    have b0 := (h3.1 0 (by decide)).1
    have b1 := (h3.1 1 (by decide)).1
    have b2 := (h3.1 2 (by decide)).1
    have b3 := (h3.1 3 (by decide)).1
    simp only [Nat.mul_zero, Nat.add_zero, Nat.reduceMul, Nat.reduceAdd] at b0 b1 b2 b3
    obtain ⟨a, ha⟩ : ∃ n : Nat, g 45 2 = (n : Int) := ⟨(g 45 2).toNat, by omega⟩
    obtain ⟨b, hb⟩ : ∃ n : Nat, g 47 2 = (n : Int) := ⟨(g 47 2).toNat, by omega⟩
    obtain ⟨c, hc⟩ : ∃ n : Nat, g 49 2 = (n : Int) := ⟨(g 49 2).toNat, by omega⟩
    obtain ⟨d, hd⟩ : ∃ n : Nat, g 51 2 = (n : Int) := ⟨(g 51 2).toNat, by omega⟩
    have q4 := h3.2
    have hT : g 75 4 = ((a + 2 * b + 4 * c + 8 * d : Nat) : Int) := by omega
    have hlt : a + 2 * b + 4 * c + 8 * d < 16 := by omega
    obtain ⟨n, g1, hE, hp, hr⟩ := v_patC (g := g) (t := t) (B := g 2) hk4 hl3 hB rfl hl
    rcases hr with ⟨h0, e1, r1, r2, r3, r4, rf⟩ | ⟨h0, h12', e1, rf⟩
    · obtain ⟨g2, hM⟩ := v_patM (g := g1) (t := t) (B := g 2) (l := l) (n := n) (T := a + 2 * b + 4 * c + 8 * d) hk4 hl3 (fun i hi => by rw [rf _ _ (by omega)]; exact t4 i (by omega)) (by rw [rf _ _ (by omega)]; omega) hE hp (Or.inl h0) (by rw [rf _ _ (by omega)]; exact hT) hlt
      rcases hM with ⟨-, e2, s4, s2, sd, sf⟩ | ⟨hno, -⟩
      · refine ⟨(n : Int), g1, t, g2, t, e1, e2, ?_⟩
        have hF : ∀ x j, ¬ ((x = 1 ∧ 2 ≤ j ∧ j ≤ 6) ∨ x = 3 ∨ x = 4 ∨ x = 45 + 2 * k ∨ x = 46 + 2 * k ∨ (x = 75 ∧ (j = 2 ∨ 4 ≤ j ∧ j ≤ 9)) ∨ (x = 77 ∧ (6240 ≤ j ∧ j < 7020 ∨ 1560 + 780 * k ≤ j ∧ j < 2340 + 780 * k))) → g2 x j = g x j := fun x j hx => by rw [sf x j (by omega), rf x j (by omega)]
        have z2 : g2 (45 + 2 * k) 2 = 1 := by rw [sf _ _ (by omega)]; exact r2
        have z1 : g2 (45 + 2 * k) 1 = (n : Int) := by rw [sf _ _ (by omega)]; exact r1
        have zt : g2 1 2 = 0 := by rw [sf _ _ (by omega)]; exact r3
        refine ⟨?_, h2.cg (fun x j q => hF x j (by unfold D_ln at q; omega)), ?_, h4.cg (fun x j q => hF x j (by unfold D_th at q; omega)), h5.cg (fun x j q => hF x j (by unfold D_im at q; omega)), h6.cg (fun x j q => hF x j (by unfold D_bl at q; omega)), h7.cg (fun x j q => hF x j (by unfold D_lt at q; omega)), h8.cg (fun x j q => hF x j (by unfold D_gm at q; omega)), h9.cg (fun x j q => hF x j (by unfold D_hd at q; omega)), h10.cg (fun x j q => hF x j (by unfold D_cl at q; omega)), h11.cg (fun x j q => hF x j (by unfold D_rf at q; omega)), h12⟩
        · exact ⟨by omega, by omega, by omega, fun i hi => absurd hi (by omega)⟩
        · have hn12 := hE.1
          refine ⟨fun m hm => ?_, ?_⟩
          · by_cases cm : m = k
            · subst cm
              refine ⟨Or.inr z2, fun _ => ⟨by omega, by omega, fun i hi => ?_, fun j hj => ?_⟩⟩
              · have := (r4 i (by omega)).1
                unfold itOk at this ⊢
                rw [sf _ _ (by omega), sf _ _ (by omega), sf _ _ (by omega), sf _ _ (by omega), sf _ _ (by omega)]
                exact this
              · rw [z1, Int.toNat_natCast]
                exact sd (g2 (46 + 2 * m)) (fun i hi => by
                  rw [sf _ _ (by omega), sf _ _ (by omega), sf _ _ (by omega), sf _ _ (by omega), sf _ _ (by omega)]
                  exact (r4 i hi).2) j hj
            · have o1 : ∀ j, g2 (45 + 2 * m) j = g (45 + 2 * m) j := fun j => hF _ _ (by omega)
              have o2 : g2 (46 + 2 * m) = g (46 + 2 * m) := funext fun j => hF _ _ (by omega)
              rw [o1 2, o1 1]
              refine ⟨(h3.1 m hm).1, fun z => ?_⟩
              obtain ⟨u1, u2, u3, u4⟩ := (h3.1 m hm).2 z
              refine ⟨u1, u2, fun i hi => ?_, fun j hj => ?_⟩
              · have := u3 i hi
                unfold itOk at this ⊢
                rw [o2]
                exact this
              · rw [o2, hF _ _ (by omega)]
                exact u4 j hj
          · rw [s4]
            obtain ⟨p0, p1, p2, p3⟩ := told_or a (by omega) b (by omega) c (by omega) d (by omega)
            rcases (show k = 0 ∨ k = 1 ∨ k = 2 ∨ k = 3 by omega) with rfl | rfl | rfl | rfl
            · simp only [Nat.mul_zero, Nat.add_zero] at z2
              rw [p0, z2, hF 47 2 (by omega), hF 49 2 (by omega), hF 51 2 (by omega), hb, hc, hd]
              omega
            · simp only [Nat.reduceMul, Nat.reduceAdd] at z2
              rw [p1, z2, hF 45 2 (by omega), hF 49 2 (by omega), hF 51 2 (by omega), ha, hc, hd]
              omega
            · simp only [Nat.reduceMul, Nat.reduceAdd] at z2
              rw [p2, z2, hF 45 2 (by omega), hF 47 2 (by omega), hF 51 2 (by omega), ha, hb, hd]
              omega
            · simp only [Nat.reduceMul, Nat.reduceAdd] at z2
              rw [p3, z2, hF 45 2 (by omega), hF 47 2 (by omega), hF 49 2 (by omega), ha, hb, hc]
              omega
      · exact absurd h0 hno
    · obtain ⟨g2, hM⟩ := v_patM (g := g1) (t := t) (B := g 2) (l := l) (n := n) (T := a + 2 * b + 4 * c + 8 * d) hk4 hl3 (fun i hi => by rw [rf _ _ (by omega)]; exact t4 i (by omega)) (by rw [rf _ _ (by omega)]; omega) hE hp (Or.inr h12') (by rw [rf _ _ (by omega)]; exact hT) hlt
      rcases hM with ⟨hno, -⟩ | ⟨-, e2, sf⟩
      · exact absurd hno h0
      · refine ⟨_, g1, t, g2, t, e1, e2, ?_⟩
        have hF : ∀ x j, ¬ ((x = 1 ∧ 3 ≤ j ∧ j ≤ 6) ∨ x = 3 ∨ x = 4 ∨ (x = 75 ∧ 5 ≤ j ∧ j ≤ 9) ∨ (x = 77 ∧ 6240 ≤ j ∧ j < 7020)) → g2 x j = g x j := fun x j hx => by rw [sf x j (by omega), rf x j (by omega)]
        exact ⟨h1.cg (fun x j q => hF x j (by unfold D_tx at q; omega)), h2.cg (fun x j q => hF x j (by unfold D_ln at q; omega)), h3.cg (fun x j q => hF x j (by unfold D_pt at q; omega)), h4.cg (fun x j q => hF x j (by unfold D_th at q; omega)), h5.cg (fun x j q => hF x j (by unfold D_im at q; omega)), h6.cg (fun x j q => hF x j (by unfold D_bl at q; omega)), h7.cg (fun x j q => hF x j (by unfold D_lt at q; omega)), h8.cg (fun x j q => hF x j (by unfold D_gm at q; omega)), h9.cg (fun x j q => hF x j (by unfold D_hd at q; omega)), h10.cg (fun x j q => hF x j (by unfold D_cl at q; omega)), h11.cg (fun x j q => hF x j (by unfold D_rf at q; omega)), h12⟩
  · refine ⟨-1, g, t, g, t, ?_, ?_, hI⟩
    · simp (disch := (first | with_reducible assumption | omega)) only [x_c, x_fi, x_fr, x_fj, x_vi, x_vr, x_vj, x_fi1, x_fi2, x_fr1, x_fr2, x_fj1, x_fj2, x_ai1, x_ai2, x_ai3, x_ar1, x_ar2, x_ar3, x_t1, x_t2, x_t3, x_t4, x_21, x_22, x_23, x_24, x_n1, x_n2, x_ji1, x_ji2, x_jc, x_j21, x_j22, x_j23, x_js1, x_js2, x_js3, x_ij1, x_ij2, x_ib1, x_ib2, x_c21, x_c22, x_c23, x_cz1, x_cz2, x_an1, x_an2, x_an3, x_or1, x_or2, x_or3, x_nt1, x_nt2, x_anm, x_orm, x_anm0, x_orm0, x_if1, x_if2, x_if3, x_ifm, x_ifm0, x_cf1, x_cf2, x_cf3, x_cfm, x_cfm0, x_a0, x_pi1, x_pi2, x_pr1, x_pr2, x_pj1, x_pj2, x_av, x_cv1, x_cv2, x_cv3, x_cs1, x_cs2, x_cl, x_of1, x_of2, x_so1, x_so2, x_fe1, x_fe2, x_fe3, x_sq1, x_sq2, x_sq3, x_sk, x_st1, x_st2, x_sr1, x_sr2, x_in1, x_in2, x_sf1, x_sf2, x_sf3, x_rt1, x_rt2, x_rz1, x_rz2, x_rj1, x_rj2, x_rv, x_ue, x_pf1, x_pf2, x_pf3, x_pz1, x_pz2, x_pz3, x_as1, x_as2, x_as3, x_as4, x_bs1, x_bs2, x_bs3, x_bs4, x_zs1, x_zs2, x_zs3, x_zs4, x_uf1, x_uf2, x_uf3, x_uf4, x_uf5, x_ua1, x_ua2, x_ua3, x_ua4, x_ua5, x_ua6, x_cp1, x_cp2, x_cp3, x_sw1, x_sw2, x_sw3, b_t, b_f, b_a, b_o, b_n, b_i, pu_e, w_d, ex_0, ex_i, ex_r, ex_j, ol_ent, List.length_cons, List.length_nil, List.replicate, List.cons_append, List.nil_append, rcv_r, ls_0, ls_i, ls_r, ls_j, ol_lt, ol_le, ol_gt, ol_ge, ol_eq, ol_ne, v_in, v_out, v_isBall, v_isHand, v_shotM, v_shotC, ol_min, ol_max, Bool.and_true, Bool.true_and, Bool.and_false, Bool.false_and, Bool.or_true, Bool.true_or, Bool.or_false, Bool.false_or, if_pos, if_neg, not_true_eq_false, not_false_eq_true, decide_true, decide_false, f0_0, f0_1, f0_2, f0_3, f0_4, f0_5, f0_6, f0_7, f0_8, f0_9, f0_10, f0_11, f0_12, f0_13, f0_14, f0_15, p0_15, f0_16, p0_16, f0_17, c0, List.getElem?_cons_zero, List.getElem?_cons_succ, e_add, e_sub, e_mul, e_div, e_rem, ↓reduceIte, reduceIte, Int.reduceAdd, Int.reduceMul, Int.reduceSub, Int.reduceNeg, Int.reduceLT, Int.reduceLE, Int.reduceEq, Int.reduceToNat, Nat.reduceAdd, Nat.reduceSub, Nat.reduceMul, Nat.reduceLeDiff, Nat.reduceLT, Nat.reduceEqDiff, ite_true, ite_false, if_true, if_false, Bool.false_eq_true, Bool.not_true, Bool.not_false, Int.toNat_natCast, true_and, and_true, true_or, or_true, and_self, or_self, or_false, false_or, false_and, and_false, Int.neg_neg, Int.neg_zero, Nat.add_zero, Nat.zero_add, Int.zero_add, Int.add_zero, Int.sub_zero, Int.zero_sub, Int.one_ne_zero, fX10_pattern, bX10_pattern]
    · simp (disch := (first | with_reducible assumption | omega)) only [x_c, x_fi, x_fr, x_fj, x_vi, x_vr, x_vj, x_fi1, x_fi2, x_fr1, x_fr2, x_fj1, x_fj2, x_ai1, x_ai2, x_ai3, x_ar1, x_ar2, x_ar3, x_t1, x_t2, x_t3, x_t4, x_21, x_22, x_23, x_24, x_n1, x_n2, x_ji1, x_ji2, x_jc, x_j21, x_j22, x_j23, x_js1, x_js2, x_js3, x_ij1, x_ij2, x_ib1, x_ib2, x_c21, x_c22, x_c23, x_cz1, x_cz2, x_an1, x_an2, x_an3, x_or1, x_or2, x_or3, x_nt1, x_nt2, x_anm, x_orm, x_anm0, x_orm0, x_if1, x_if2, x_if3, x_ifm, x_ifm0, x_cf1, x_cf2, x_cf3, x_cfm, x_cfm0, x_a0, x_pi1, x_pi2, x_pr1, x_pr2, x_pj1, x_pj2, x_av, x_cv1, x_cv2, x_cv3, x_cs1, x_cs2, x_cl, x_of1, x_of2, x_so1, x_so2, x_fe1, x_fe2, x_fe3, x_sq1, x_sq2, x_sq3, x_sk, x_st1, x_st2, x_sr1, x_sr2, x_in1, x_in2, x_sf1, x_sf2, x_sf3, x_rt1, x_rt2, x_rz1, x_rz2, x_rj1, x_rj2, x_rv, x_ue, x_pf1, x_pf2, x_pf3, x_pz1, x_pz2, x_pz3, x_as1, x_as2, x_as3, x_as4, x_bs1, x_bs2, x_bs3, x_bs4, x_zs1, x_zs2, x_zs3, x_zs4, x_uf1, x_uf2, x_uf3, x_uf4, x_uf5, x_ua1, x_ua2, x_ua3, x_ua4, x_ua5, x_ua6, x_cp1, x_cp2, x_cp3, x_sw1, x_sw2, x_sw3, b_t, b_f, b_a, b_o, b_n, b_i, pu_e, w_d, ex_0, ex_i, ex_r, ex_j, ol_ent, List.length_cons, List.length_nil, List.replicate, List.cons_append, List.nil_append, rcv_r, ls_0, ls_i, ls_r, ls_j, ol_lt, ol_le, ol_gt, ol_ge, ol_eq, ol_ne, v_in, v_out, v_isBall, v_isHand, v_shotM, v_shotC, ol_min, ol_max, Bool.and_true, Bool.true_and, Bool.and_false, Bool.false_and, Bool.or_true, Bool.true_or, Bool.or_false, Bool.false_or, if_pos, if_neg, not_true_eq_false, not_false_eq_true, decide_true, decide_false, f75_0, f75_1, f75_2, p75_2, f75_3, f75_4, p75_4, f75_5, p75_5, f75_6, p75_6, f75_7, p75_7, f75_8, p75_8, f75_9, p75_9, f75_10, f75_11, f75_12, p75_12, f75_13, p75_13, f75_14, p75_14, f75_15, p75_15, f75_16, p75_16, f75_17, p75_17, f75_18, p75_18, f75_19, p75_19, f75_20, f75_21, f75_22, f75_23, p75_23, f75_24, p75_24, f75_25, p75_25, f75_26, f75_27, f75_28, p75_28, f75_29, p75_29, f75_30, p75_30, f75_31, p75_31, f75_32, f75_33, f75_34, p75_34, f75_35, f75_36, f75_37, f75_38, p75_38, f75_39, f75_40, f75_41, c75, List.getElem?_cons_zero, List.getElem?_cons_succ, e_add, e_sub, e_mul, e_div, e_rem, ↓reduceIte, reduceIte, Int.reduceAdd, Int.reduceMul, Int.reduceSub, Int.reduceNeg, Int.reduceLT, Int.reduceLE, Int.reduceEq, Int.reduceToNat, Nat.reduceAdd, Nat.reduceSub, Nat.reduceMul, Nat.reduceLeDiff, Nat.reduceLT, Nat.reduceEqDiff, ite_true, ite_false, if_true, if_false, Bool.false_eq_true, Bool.not_true, Bool.not_false, Int.toNat_natCast, true_and, and_true, true_or, or_true, and_self, or_self, or_false, false_or, false_and, and_false, Int.neg_neg, Int.neg_zero, Nat.add_zero, Nat.zero_add, Int.zero_add, Int.add_zero, Int.sub_zero, Int.zero_sub, Int.one_ne_zero, fX11_pattern, eX11_pattern]
