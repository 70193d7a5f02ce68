/-! games: only the rolls count -/
set_option maxHeartbeats 200000 in
theorem rr_cg {r r' : Nat → Int} {n : Nat} (h : ∀ i, i < n → r' i = r i) (i : Nat) : rr r' n i = rr r n i := by
  unfold rr
  by_cases c : i < n
  · rw [if_pos c, if_pos c, h i c]
  · rw [if_neg c, if_neg c]
set_option maxHeartbeats 200000 in
theorem gF_cg {r r' : Nat → Int} {n : Nat} (h : ∀ i, i < n → r' i = r i) : gF r' n 9 = gF r n 9 ∧ ∀ j, j ≤ gF r n 9 → gmA r' j = gmA r j := by
  obtain ⟨f1, f2, f3⟩ := gF_p r n
  have hlt : ∀ j, j < gF r n 9 → gmA r j < n := fun j hj => by
    have := gmA_mono r (show j + 1 ≤ gF r n 9 by omega)
    have := (gmA_up r j).1
    omega
  have hA : ∀ j, j ≤ gF r n 9 → gmA r' j = gmA r j := fun j hj =>
    (gm_cg (r := r') (r' := r) (m := n) (fun i hi => (h i hi).symm) j (Or.inr (Nat.le_trans (gmA_mono r hj) f2)) (fun i hi => hlt i (by omega))).symm
  refine ⟨?_, hA⟩
  have e := hA (gF r n 9) (Nat.le_refl _)
  apply gF_eq f1 (by omega)
  rcases f3 with f3 | f3
  · exact Or.inl f3
  · right
    by_cases c : gmA r (gF r n 9) < n
    · rw [gmA_s, e, h _ c, ← gmA_s]; exact f3
    · have := (gmA_up r' (gF r n 9)).1
      omega
set_option maxHeartbeats 200000 in
theorem gSum_cg {r r' : Nat → Int} {n : Nat} (h : ∀ i, i < n → r' i = r i) : ∀ k, k ≤ gF r n 9 → gSum r' n k = gSum r n k := by
  obtain ⟨f1, f2, f3⟩ := gF_p r n
  obtain ⟨-, hA⟩ := gF_cg h
  intro k
  induction k with
  | zero => intro _; rfl
  | succ k ih =>
    intro hk
    show gSum r' n k + gSc r' n (gmA r' k) = gSum r n k + gSc r n (gmA r k)
    have m1 := gmA_mono r hk
    have m2 := (gmA_up r k).1
    have m3 := gmA_s r k
    rw [ih (by omega), hA k (by omega)]
    unfold gSc
    rw [rr_cg h, rr_cg h, rr_cg h, h (gmA r k) (by omega)]
    by_cases c : r (gmA r k) = 10
    · rw [if_pos c, if_pos c]
    · rw [if_neg c] at m3
      rw [h (gmA r k + 1) (by omega)]
set_option maxHeartbeats 200000 in
theorem gOv1_cg {r r' : Nat → Int} {n : Nat} (h : ∀ i, i < n → r' i = r i) : gOv1 r' n = gOv1 r n := by
  rcases Classical.em (gOvB r n) with c | c
  · rw [gOv_1 c, gOv_1 (gOv_cg (fun i hi => (h i hi).symm) c)]
  · rw [gOv_0 c, gOv_0 (fun q => c (gOv_cg h q))]
set_option maxHeartbeats 200000 in
theorem gRm_cg {r r' : Nat → Int} {n : Nat} (h : ∀ i, i < n → r' i = r i) : gRm r' n = gRm r n := by
  obtain ⟨f1, f2, f3⟩ := gF_p r n
  obtain ⟨e, hA⟩ := gF_cg h
  have eA := hA _ (Nat.le_refl _)
  unfold gRm
  rw [e, eA]
  by_cases c : gF r n 9 < 9
  · rw [if_pos c, if_pos c]
    by_cases d : gmA r (gF r n 9) < n
    · rw [if_pos d, if_pos d, h _ d]
    · rw [if_neg d, if_neg d]
  · have e9 : gF r n 9 = 9 := by omega
    rw [e9] at eA f2
    rw [if_neg c, if_neg c, eA]
    by_cases d : gmA r 9 = n
    · rw [if_pos d, if_pos d]
    · rw [if_neg d, if_neg d, h (gmA r 9) (by omega)]
      by_cases d2 : gmA r 9 + 1 = n
      · rw [if_pos d2, if_pos d2]
      · rw [if_neg d2, if_neg d2, h (gmA r 9 + 1) (by omega)]
set_option maxHeartbeats 200000 in
theorem gSm_cg {r r' : Nat → Int} {n : Nat} (h : ∀ i, i < n → r' i = r i) : gSm r' n = gSm r n := by
  obtain ⟨e, hA⟩ := gF_cg h
  unfold gSm
  rw [gOv1_cg h, e, gSum_cg h _ (Nat.le_refl _)]
  rcases Classical.em (gOvB r n) with c | c
  · have e9 := hA 9 (by rw [gOv_F c]; exact Nat.le_refl _)
    rw [e9, rr_cg h, rr_cg h, rr_cg h]
  · rw [gOv_0 c, if_neg (show ¬ (0 : Int) = 1 by decide), if_neg (show ¬ (0 : Int) = 1 by decide)]
set_option maxHeartbeats 200000 in
theorem gFr_cg {r r' : Nat → Int} {n : Nat} (h : ∀ i, i < n → r' i = r i) : gFr r' n = gFr r n := by
  unfold gFr
  rw [gOv1_cg h, (gF_cg h).1]
set_option maxHeartbeats 200000 in
theorem gMf_cg {r r' : Nat → Int} {n : Nat} (h : ∀ i, i < n → r' i = r i) : gMf r' n = gMf r n := by
  unfold gMf
  rw [gOv1_cg h, gRm_cg h]
/-- the rolls, with the most that may fall rolled i times -/
def mR (r : Nat → Int) (n : Nat) : Nat → Nat → Int
  | 0 => r
  | i + 1 => fun j => if j = n + i then gRm (mR r n i) (n + i) else mR r n i j
set_option maxHeartbeats 200000 in
theorem mR_lo (r : Nat → Int) (n i : Nat) : ∀ j, j < n → mR r n i j = r j := by
  intro j hj
  induction i with
  | zero => rfl
  | succ i ih =>
    show (if j = n + i then _ else mR r n i j) = _
    rw [if_neg (by omega)]; exact ih
set_option maxHeartbeats 200000 in
theorem mR_cg {r r' : Nat → Int} {n : Nat} (h : ∀ i, i < n → r' i = r i) : ∀ i j, j < n + i → mR r' n i j = mR r n i j := by
  intro i
  induction i with
  | zero => intro j hj; exact h j hj
  | succ i ih =>
    intro j hj
    show (if j = n + i then _ else mR r' n i j) = (if j = n + i then _ else mR r n i j)
    by_cases c : j = n + i
    · rw [if_pos c, if_pos c]; exact gRm_cg ih
    · rw [if_neg c, if_neg c]; exact ih j (by omega)
set_option maxHeartbeats 200000 in
theorem mR_ex (r : Nat → Int) (n : Nat) (hn : n ≤ 21) : ∃ i, gOvB (mR r n i) (n + i) ∧ (∀ m, m < i → ¬ gOvB (mR r n m) (n + m)) ∧ n + i ≤ 21 := by
  have key : ∀ d, (∃ i, i ≤ d ∧ gOvB (mR r n i) (n + i) ∧ ∀ m, m < i → ¬ gOvB (mR r n m) (n + m)) ∨ ∀ m, m ≤ d → ¬ gOvB (mR r n m) (n + m) := by
    intro d
    induction d with
    | zero =>
      rcases Classical.em (gOvB (mR r n 0) (n + 0)) with c | c
      · exact Or.inl ⟨0, Nat.le_refl _, c, fun m hm => absurd hm (Nat.not_lt_zero _)⟩
      · exact Or.inr fun m hm => by
          have : m = 0 := by omega
          subst this; exact c
    | succ d ih =>
      rcases ih with ⟨i, hi, c⟩ | ih
      · exact Or.inl ⟨i, by omega, c⟩
      · rcases Classical.em (gOvB (mR r n (d + 1)) (n + (d + 1))) with c | c
        · exact Or.inl ⟨d + 1, Nat.le_refl _, c, fun m hm => ih m (by omega)⟩
        · exact Or.inr fun m hm => by
            by_cases e : m = d + 1
            · subst e; exact c
            · exact ih m (by omega)
  rcases key (21 - n) with ⟨i, hi, c, d⟩ | c
  · exact ⟨i, c, d, by omega⟩
  · have := gOv_n (c (21 - n) (Nat.le_refl _))
    omega
set_option maxHeartbeats 200000 in
theorem mR_ro {r : Nat → Int} {n : Nat} (h : gRo r n) {N : Nat} (hN : ∀ m, m < N → ¬ gOvB (mR r n m) (n + m)) : ∀ i, i ≤ N → gRo (mR r n i) (n + i) := by
  intro i
  induction i with
  | zero => intro _; exact h
  | succ i ih =>
    intro hi
    have q := ih (by omega)
    intro j hj
    show 0 ≤ (if j = n + i then _ else mR r n i j) ∧ (if j = n + i then _ else mR r n i j) ≤ 10
    by_cases c : j = n + i
    · rw [if_pos c]; exact gRm_b q (hN i (by omega))
    · rw [if_neg c]; exact q j (by omega)
/-! rolls -/
set_option maxHeartbeats 4000000 in
 theorem k_roll {g : pg} {t : pt} (hI : Inv g t) (x : Int) : ag Inv fX10_roll fX11_roll g t [.inl x] := by
  obtain ⟨h1, h2, h3, h4, h5, h6, h7, h8, h9, h10, h11, h12⟩ := hI
  obtain ⟨b1, b2, b3, b4, b5⟩ := id h8
  obtain ⟨n, hn⟩ : ∃ n : Nat, g 33 1 = (n : Int) := ⟨(g 33 1).toNat, by omega⟩
  have hm : g 75 28 = (n : Int) := by rw [b3, hn]
  have hn21 : n ≤ 21 := by omega
  have hr34 : gRo (g 34) n := fun i hi => ⟨(b4 i (by omega)).1, (b4 i (by omega)).2.1⟩
  have e84 : ∀ i, i < n → g 84 i = g 34 i := fun i hi => (b4 i (by omega)).2.2
  have hr84 : gRo (g 84) n := fun i hi => by rw [e84 i hi]; exact hr34 i hi
  have hno : ∀ m, m < n → ¬ gOvB (g 34) m := fun m hm => b5 m (by omega)
  have cS := gSm_cg e84
  have cF := gFr_cg e84
  have cM := gMf_cg e84
  clear b4 b5 b1 b2 b3
  by_cases hx : 0 ≤ x ∧ x ≤ 10
  · obtain ⟨g1, e1, rm, hrm, v2, v3, v4, v5, vf⟩ := v_reckon (g := g) (t := t) hn21 hn hr34
    have f1 : g1 33 1 = (n : Int) := by rw [vf _ _ (by omega)]; exact hn
    have f84 : g1 84 = g 84 := funext fun j => vf _ _ (by omega)
    have hx0 := hx.1
    have hx1 := hx.2
    rcases Classical.em (gOvB (g 34) n) with co | co
    · obtain ⟨g2, e2, m30, m29, m31, mf⟩ := v_countRolls (g := g1) (t := t) (n := n) hn21 (by rw [f84]; exact hr84)
      rw [f84, cM] at m31
      have m28 : g1 75 28 = (n : Int) := by rw [vf _ _ (by omega)]; exact hm
      unfold gMf at m31
      rw [gOv_1 co, if_pos rfl] at m31
      rw [gOv_1 co] at v5
      refine ⟨-2, g1, t, g2, t, ?_, ?_, ?_⟩
      · clear hr34 hr84 e84 hno
        simp (disch := (first | with_reducible assumption | omega)) only [x_c, x_fi, x_fr, x_fj, x_vi, x_vr, x_vj, x_fi1, x_fi2, x_fr1, x_fr2, x_fj1, x_fj2, x_ai1, x_ai2, x_ai3, x_ar1, x_ar2, x_ar3, x_t1, x_t2, x_t3, x_t4, x_21, x_22, x_23, x_24, x_n1, x_n2, x_ji1, x_ji2, x_jc, x_j21, x_j22, x_j23, x_js1, x_js2, x_js3, x_ij1, x_ij2, x_ib1, x_ib2, x_c21, x_c22, x_c23, x_cz1, x_cz2, x_an1, x_an2, x_an3, x_or1, x_or2, x_or3, x_nt1, x_nt2, x_anm, x_orm, x_anm0, x_orm0, x_if1, x_if2, x_if3, x_ifm, x_ifm0, x_cf1, x_cf2, x_cf3, x_cfm, x_cfm0, x_a0, x_pi1, x_pi2, x_pr1, x_pr2, x_pj1, x_pj2, x_av, x_cv1, x_cv2, x_cv3, x_cs1, x_cs2, x_cl, x_of1, x_of2, x_so1, x_so2, x_fe1, x_fe2, x_fe3, x_sq1, x_sq2, x_sq3, x_sk, x_st1, x_st2, x_sr1, x_sr2, x_in1, x_in2, x_sf1, x_sf2, x_sf3, x_rt1, x_rt2, x_rz1, x_rz2, x_rj1, x_rj2, x_rv, x_ue, x_pf1, x_pf2, x_pf3, x_pz1, x_pz2, x_pz3, x_as1, x_as2, x_as3, x_as4, x_bs1, x_bs2, x_bs3, x_bs4, x_zs1, x_zs2, x_zs3, x_zs4, x_uf1, x_uf2, x_uf3, x_uf4, x_uf5, x_ua1, x_ua2, x_ua3, x_ua4, x_ua5, x_ua6, x_cp1, x_cp2, x_cp3, x_sw1, x_sw2, x_sw3, b_t, b_f, b_a, b_o, b_n, b_i, pu_e, w_d, ex_0, ex_i, ex_r, ex_j, ol_ent, List.length_cons, List.length_nil, List.replicate, List.cons_append, List.nil_append, rcv_r, ls_0, ls_i, ls_r, ls_j, ol_lt, ol_le, ol_gt, ol_ge, ol_eq, ol_ne, v_in, v_out, v_isBall, v_isHand, v_shotM, v_shotC, ol_min, ol_max, Bool.and_true, Bool.true_and, Bool.and_false, Bool.false_and, Bool.or_true, Bool.true_or, Bool.or_false, Bool.false_or, if_pos, if_neg, not_true_eq_false, not_false_eq_true, decide_true, decide_false, f0_0, f0_1, f0_2, f0_3, f0_4, f0_5, f0_6, f0_7, f0_8, f0_9, f0_10, f0_11, f0_12, f0_13, f0_14, f0_15, p0_15, f0_16, p0_16, f0_17, c0, f33_0, f33_1, p33_1, f33_2, p33_2, f33_3, p33_3, f33_4, p33_4, f33_5, p33_5, c33, List.getElem?_cons_zero, List.getElem?_cons_succ, e_add, e_sub, e_mul, e_div, e_rem, ↓reduceIte, reduceIte, Int.reduceAdd, Int.reduceMul, Int.reduceSub, Int.reduceNeg, Int.reduceLT, Int.reduceLE, Int.reduceEq, Int.reduceToNat, Nat.reduceAdd, Nat.reduceSub, Nat.reduceMul, Nat.reduceLeDiff, Nat.reduceLT, Nat.reduceEqDiff, ite_true, ite_false, if_true, if_false, Bool.false_eq_true, Bool.not_true, Bool.not_false, Int.toNat_natCast, true_and, and_true, true_or, or_true, and_self, or_self, or_false, false_or, false_and, and_false, Int.neg_neg, Int.neg_zero, Nat.add_zero, Nat.zero_add, Int.zero_add, Int.add_zero, Int.sub_zero, Int.zero_sub, Int.one_ne_zero, fX10_roll, bX10_roll, e1, v5]
      · clear hr34 hr84 e84 hno
        simp (disch := (first | with_reducible assumption | omega)) only [x_c, x_fi, x_fr, x_fj, x_vi, x_vr, x_vj, x_fi1, x_fi2, x_fr1, x_fr2, x_fj1, x_fj2, x_ai1, x_ai2, x_ai3, x_ar1, x_ar2, x_ar3, x_t1, x_t2, x_t3, x_t4, x_21, x_22, x_23, x_24, x_n1, x_n2, x_ji1, x_ji2, x_jc, x_j21, x_j22, x_j23, x_js1, x_js2, x_js3, x_ij1, x_ij2, x_ib1, x_ib2, x_c21, x_c22, x_c23, x_cz1, x_cz2, x_an1, x_an2, x_an3, x_or1, x_or2, x_or3, x_nt1, x_nt2, x_anm, x_orm, x_anm0, x_orm0, x_if1, x_if2, x_if3, x_ifm, x_ifm0, x_cf1, x_cf2, x_cf3, x_cfm, x_cfm0, x_a0, x_pi1, x_pi2, x_pr1, x_pr2, x_pj1, x_pj2, x_av, x_cv1, x_cv2, x_cv3, x_cs1, x_cs2, x_cl, x_of1, x_of2, x_so1, x_so2, x_fe1, x_fe2, x_fe3, x_sq1, x_sq2, x_sq3, x_sk, x_st1, x_st2, x_sr1, x_sr2, x_in1, x_in2, x_sf1, x_sf2, x_sf3, x_rt1, x_rt2, x_rz1, x_rz2, x_rj1, x_rj2, x_rv, x_ue, x_pf1, x_pf2, x_pf3, x_pz1, x_pz2, x_pz3, x_as1, x_as2, x_as3, x_as4, x_bs1, x_bs2, x_bs3, x_bs4, x_zs1, x_zs2, x_zs3, x_zs4, x_uf1, x_uf2, x_uf3, x_uf4, x_uf5, x_ua1, x_ua2, x_ua3, x_ua4, x_ua5, x_ua6, x_cp1, x_cp2, x_cp3, x_sw1, x_sw2, x_sw3, b_t, b_f, b_a, b_o, b_n, b_i, pu_e, w_d, ex_0, ex_i, ex_r, ex_j, ol_ent, List.length_cons, List.length_nil, List.replicate, List.cons_append, List.nil_append, rcv_r, ls_0, ls_i, ls_r, ls_j, ol_lt, ol_le, ol_gt, ol_ge, ol_eq, ol_ne, v_in, v_out, v_isBall, v_isHand, v_shotM, v_shotC, ol_min, ol_max, Bool.and_true, Bool.true_and, Bool.and_false, Bool.false_and, Bool.or_true, Bool.true_or, Bool.or_false, Bool.false_or, if_pos, if_neg, not_true_eq_false, not_false_eq_true, decide_true, decide_false, f75_0, f75_1, f75_2, p75_2, f75_3, f75_4, p75_4, f75_5, p75_5, f75_6, p75_6, f75_7, p75_7, f75_8, p75_8, f75_9, p75_9, f75_10, f75_11, f75_12, p75_12, f75_13, p75_13, f75_14, p75_14, f75_15, p75_15, f75_16, p75_16, f75_17, p75_17, f75_18, p75_18, f75_19, p75_19, f75_20, f75_21, f75_22, f75_23, p75_23, f75_24, p75_24, f75_25, p75_25, f75_26, f75_27, f75_28, p75_28, f75_29, p75_29, f75_30, p75_30, f75_31, p75_31, f75_32, f75_33, f75_34, p75_34, f75_35, f75_36, f75_37, f75_38, p75_38, f75_39, f75_40, f75_41, c75, List.getElem?_cons_zero, List.getElem?_cons_succ, e_add, e_sub, e_mul, e_div, e_rem, ↓reduceIte, reduceIte, Int.reduceAdd, Int.reduceMul, Int.reduceSub, Int.reduceNeg, Int.reduceLT, Int.reduceLE, Int.reduceEq, Int.reduceToNat, Nat.reduceAdd, Nat.reduceSub, Nat.reduceMul, Nat.reduceLeDiff, Nat.reduceLT, Nat.reduceEqDiff, ite_true, ite_false, if_true, if_false, Bool.false_eq_true, Bool.not_true, Bool.not_false, Int.toNat_natCast, true_and, and_true, true_or, or_true, and_self, or_self, or_false, false_or, false_and, and_false, Int.neg_neg, Int.neg_zero, Nat.add_zero, Nat.zero_add, Int.zero_add, Int.add_zero, Int.sub_zero, Int.zero_sub, Int.one_ne_zero, fX11_roll, bX11_roll, m28, e2, m31]
      · have hF : ∀ x j, ¬ ((x = 33 ∧ 2 ≤ j ∧ j ≤ 5) ∨ (x = 75 ∧ 29 ≤ j ∧ j ≤ 31)) → g2 x j = g x j := by
          intro x j hx
          rw [mf x j (by omega), vf x j (by omega)]
        exact ⟨h1.cg (fun x j q => hF x j (by unfold D_tx at q; omega)), h2.cg (fun x j q => hF x j (by unfold D_ln at q; omega)), h3.cg (fun x j q => hF x j (by unfold D_pt at q; omega)), h4.cg (fun x j q => hF x j (by unfold D_th at q; omega)), h5.cg (fun x j q => hF x j (by unfold D_im at q; omega)), h6.cg (fun x j q => hF x j (by unfold D_bl at q; omega)), h7.cg (fun x j q => hF x j (by unfold D_lt at q; omega)), h8.cg (fun x j q => hF x j (by unfold D_gm at q; omega)), h9.cg (fun x j q => hF x j (by unfold D_hd at q; omega)), h10.cg (fun x j q => hF x j (by unfold D_cl at q; omega)), h11.cg (fun x j q => hF x j (by unfold D_rf at q; omega)), h12⟩
    · have hn20 := gOv_n co
      have hb := gRm_b hr34 co
      have hrm' := hrm co
      subst hrm'
      rw [gOv_0 co] at v5
      by_cases cx : x ≤ gRm (g 34) n
      · have en : (n : Int) + 1 = ((n + 1 : Nat) : Int) := by omega
        have hc : fX10_roll [.inr (.inl (some 0)), .inl x] (pb g t, 0, 0) = some (some (.inl ((n + 1 : Nat) : Int)), (pb (pu (pu g1 34 n x) 33 1 ((n + 1 : Nat) : Int)) t, 0, 0)) := by
          clear hr34 hr84 e84 hno
          generalize gRm (g 34) n = RM at *
          simp (disch := (first | with_reducible assumption | omega)) only [x_c, x_fi, x_fr, x_fj, x_vi, x_vr, x_vj, x_fi1, x_fi2, x_fr1, x_fr2, x_fj1, x_fj2, x_ai1, x_ai2, x_ai3, x_ar1, x_ar2, x_ar3, x_t1, x_t2, x_t3, x_t4, x_21, x_22, x_23, x_24, x_n1, x_n2, x_ji1, x_ji2, x_jc, x_j21, x_j22, x_j23, x_js1, x_js2, x_js3, x_ij1, x_ij2, x_ib1, x_ib2, x_c21, x_c22, x_c23, x_cz1, x_cz2, x_an1, x_an2, x_an3, x_or1, x_or2, x_or3, x_nt1, x_nt2, x_anm, x_orm, x_anm0, x_orm0, x_if1, x_if2, x_if3, x_ifm, x_ifm0, x_cf1, x_cf2, x_cf3, x_cfm, x_cfm0, x_a0, x_pi1, x_pi2, x_pr1, x_pr2, x_pj1, x_pj2, x_av, x_cv1, x_cv2, x_cv3, x_cs1, x_cs2, x_cl, x_of1, x_of2, x_so1, x_so2, x_fe1, x_fe2, x_fe3, x_sq1, x_sq2, x_sq3, x_sk, x_st1, x_st2, x_sr1, x_sr2, x_in1, x_in2, x_sf1, x_sf2, x_sf3, x_rt1, x_rt2, x_rz1, x_rz2, x_rj1, x_rj2, x_rv, x_ue, x_pf1, x_pf2, x_pf3, x_pz1, x_pz2, x_pz3, x_as1, x_as2, x_as3, x_as4, x_bs1, x_bs2, x_bs3, x_bs4, x_zs1, x_zs2, x_zs3, x_zs4, x_uf1, x_uf2, x_uf3, x_uf4, x_uf5, x_ua1, x_ua2, x_ua3, x_ua4, x_ua5, x_ua6, x_cp1, x_cp2, x_cp3, x_sw1, x_sw2, x_sw3, b_t, b_f, b_a, b_o, b_n, b_i, pu_e, w_d, ex_0, ex_i, ex_r, ex_j, ol_ent, List.length_cons, List.length_nil, List.replicate, List.cons_append, List.nil_append, rcv_r, ls_0, ls_i, ls_r, ls_j, ol_lt, ol_le, ol_gt, ol_ge, ol_eq, ol_ne, v_in, v_out, v_isBall, v_isHand, v_shotM, v_shotC, ol_min, ol_max, Bool.and_true, Bool.true_and, Bool.and_false, Bool.false_and, Bool.or_true, Bool.true_or, Bool.or_false, Bool.false_or, if_pos, if_neg, not_true_eq_false, not_false_eq_true, decide_true, decide_false, f0_0, f0_1, f0_2, f0_3, f0_4, f0_5, f0_6, f0_7, f0_8, f0_9, f0_10, f0_11, f0_12, f0_13, f0_14, f0_15, p0_15, f0_16, p0_16, f0_17, c0, f33_0, f33_1, p33_1, f33_2, p33_2, f33_3, p33_3, f33_4, p33_4, f33_5, p33_5, c33, a34, s34, List.getElem?_cons_zero, List.getElem?_cons_succ, e_add, e_sub, e_mul, e_div, e_rem, ↓reduceIte, reduceIte, Int.reduceAdd, Int.reduceMul, Int.reduceSub, Int.reduceNeg, Int.reduceLT, Int.reduceLE, Int.reduceEq, Int.reduceToNat, Nat.reduceAdd, Nat.reduceSub, Nat.reduceMul, Nat.reduceLeDiff, Nat.reduceLT, Nat.reduceEqDiff, ite_true, ite_false, if_true, if_false, Bool.false_eq_true, Bool.not_true, Bool.not_false, Int.toNat_natCast, true_and, and_true, true_or, or_true, and_self, or_self, or_false, false_or, false_and, and_false, Int.neg_neg, Int.neg_zero, Nat.add_zero, Nat.zero_add, Int.zero_add, Int.add_zero, Int.sub_zero, Int.zero_sub, Int.one_ne_zero, fX10_roll, bX10_roll, e1, v5, v4, fX3_append, bX3_append, f1, en]
        have fa2 : ∀ x' j, ¬ ((x' = 33 ∧ 1 ≤ j ∧ j ≤ 5) ∨ (x' = 34 ∧ j = n)) → pu (pu g1 34 n x) 33 1 ((n + 1 : Nat) : Int) x' j = g x' j := by
          intro x' j hx
          rw [pr_ne (by omega), pr_ne (by omega)]; exact vf x' j (by omega)
        have w1 : pu (pu g1 34 n x) 33 1 ((n + 1 : Nat) : Int) 33 1 = ((n + 1 : Nat) : Int) := pr_eq
        have w2 : pu (pu g1 34 n x) 33 1 ((n + 1 : Nat) : Int) 34 n = x := by rw [pr_ne (by omega), pr_eq]
        generalize pu (pu g1 34 n x) 33 1 ((n + 1 : Nat) : Int) = g1' at *
        have f84' : g1' 84 = g 84 := funext fun j => fa2 _ _ (by omega)
        obtain ⟨g2, e2, m30, m29, m31, mf⟩ := v_countRolls (g := g1') (t := t) (n := n) hn21 (by rw [f84']; exact hr84)
        rw [f84', cM] at m31
        have m28 : g1' 75 28 = (n : Int) := by rw [fa2 _ _ (by omega)]; exact hm
        have m28' : g2 75 28 = (n : Int) := by rw [mf _ _ (by omega)]; exact m28
        unfold gMf at m31
        rw [gOv_0 co, if_neg (show ¬ (0 : Int) = 1 by decide)] at m31
        refine ⟨((n + 1 : Nat) : Int), g1', t, pu (pu g2 84 n x) 75 28 ((n + 1 : Nat) : Int), t, hc, ?_, ?_⟩
        · clear hr34 hr84 e84 hno fa2 hc
          generalize gRm (g 34) n = RM at *
          simp (disch := (first | with_reducible assumption | omega)) only [x_c, x_fi, x_fr, x_fj, x_vi, x_vr, x_vj, x_fi1, x_fi2, x_fr1, x_fr2, x_fj1, x_fj2, x_ai1, x_ai2, x_ai3, x_ar1, x_ar2, x_ar3, x_t1, x_t2, x_t3, x_t4, x_21, x_22, x_23, x_24, x_n1, x_n2, x_ji1, x_ji2, x_jc, x_j21, x_j22, x_j23, x_js1, x_js2, x_js3, x_ij1, x_ij2, x_ib1, x_ib2, x_c21, x_c22, x_c23, x_cz1, x_cz2, x_an1, x_an2, x_an3, x_or1, x_or2, x_or3, x_nt1, x_nt2, x_anm, x_orm, x_anm0, x_orm0, x_if1, x_if2, x_if3, x_ifm, x_ifm0, x_cf1, x_cf2, x_cf3, x_cfm, x_cfm0, x_a0, x_pi1, x_pi2, x_pr1, x_pr2, x_pj1, x_pj2, x_av, x_cv1, x_cv2, x_cv3, x_cs1, x_cs2, x_cl, x_of1, x_of2, x_so1, x_so2, x_fe1, x_fe2, x_fe3, x_sq1, x_sq2, x_sq3, x_sk, x_st1, x_st2, x_sr1, x_sr2, x_in1, x_in2, x_sf1, x_sf2, x_sf3, x_rt1, x_rt2, x_rz1, x_rz2, x_rj1, x_rj2, x_rv, x_ue, x_pf1, x_pf2, x_pf3, x_pz1, x_pz2, x_pz3, x_as1, x_as2, x_as3, x_as4, x_bs1, x_bs2, x_bs3, x_bs4, x_zs1, x_zs2, x_zs3, x_zs4, x_uf1, x_uf2, x_uf3, x_uf4, x_uf5, x_ua1, x_ua2, x_ua3, x_ua4, x_ua5, x_ua6, x_cp1, x_cp2, x_cp3, x_sw1, x_sw2, x_sw3, b_t, b_f, b_a, b_o, b_n, b_i, pu_e, w_d, ex_0, ex_i, ex_r, ex_j, ol_ent, List.length_cons, List.length_nil, List.replicate, List.cons_append, List.nil_append, rcv_r, ls_0, ls_i, ls_r, ls_j, ol_lt, ol_le, ol_gt, ol_ge, ol_eq, ol_ne, v_in, v_out, v_isBall, v_isHand, v_shotM, v_shotC, ol_min, ol_max, Bool.and_true, Bool.true_and, Bool.and_false, Bool.false_and, Bool.or_true, Bool.true_or, Bool.or_false, Bool.false_or, if_pos, if_neg, not_true_eq_false, not_false_eq_true, decide_true, decide_false, f75_0, f75_1, f75_2, p75_2, f75_3, f75_4, p75_4, f75_5, p75_5, f75_6, p75_6, f75_7, p75_7, f75_8, p75_8, f75_9, p75_9, f75_10, f75_11, f75_12, p75_12, f75_13, p75_13, f75_14, p75_14, f75_15, p75_15, f75_16, p75_16, f75_17, p75_17, f75_18, p75_18, f75_19, p75_19, f75_20, f75_21, f75_22, f75_23, p75_23, f75_24, p75_24, f75_25, p75_25, f75_26, f75_27, f75_28, p75_28, f75_29, p75_29, f75_30, p75_30, f75_31, p75_31, f75_32, f75_33, f75_34, p75_34, f75_35, f75_36, f75_37, f75_38, p75_38, f75_39, f75_40, f75_41, c75, a84, s84, List.getElem?_cons_zero, List.getElem?_cons_succ, e_add, e_sub, e_mul, e_div, e_rem, ↓reduceIte, reduceIte, Int.reduceAdd, Int.reduceMul, Int.reduceSub, Int.reduceNeg, Int.reduceLT, Int.reduceLE, Int.reduceEq, Int.reduceToNat, Nat.reduceAdd, Nat.reduceSub, Nat.reduceMul, Nat.reduceLeDiff, Nat.reduceLT, Nat.reduceEqDiff, ite_true, ite_false, if_true, if_false, Bool.false_eq_true, Bool.not_true, Bool.not_false, Int.toNat_natCast, true_and, and_true, true_or, or_true, and_self, or_self, or_false, false_or, false_and, and_false, Int.neg_neg, Int.neg_zero, Nat.add_zero, Nat.zero_add, Int.zero_add, Int.add_zero, Int.sub_zero, Int.zero_sub, Int.one_ne_zero, fX11_roll, bX11_roll, m28, e2, m31, m28', en]
        · have hF : ∀ x' j, ¬ ((x' = 33 ∧ 1 ≤ j ∧ j ≤ 5) ∨ (x' = 34 ∧ j = n) ∨ (x' = 84 ∧ j = n) ∨ (x' = 75 ∧ 28 ≤ j ∧ j ≤ 31)) → pu (pu g2 84 n x) 75 28 ((n + 1 : Nat) : Int) x' j = g x' j := by
            intro x' j hx
            rw [pr_ne (by omega), pr_ne (by omega), mf x' j (by omega), fa2 x' j (by omega)]
          have u1 : pu (pu g2 84 n x) 75 28 ((n + 1 : Nat) : Int) 33 1 = ((n + 1 : Nat) : Int) := by
            rw [pr_ne (by omega), pr_ne (by omega), mf _ _ (by omega)]; exact w1
          have u2 : pu (pu g2 84 n x) 75 28 ((n + 1 : Nat) : Int) 34 n = x := by
            rw [pr_ne (by omega), pr_ne (by omega), mf _ _ (by omega)]; exact w2
          have u3 : pu (pu g2 84 n x) 75 28 ((n + 1 : Nat) : Int) 84 n = x := by
            rw [pr_ne (by omega), pr_eq]
          have u4 : pu (pu g2 84 n x) 75 28 ((n + 1 : Nat) : Int) 75 28 = ((n + 1 : Nat) : Int) := pr_eq
          generalize pu (pu g2 84 n x) 75 28 ((n + 1 : Nat) : Int) = g3 at *
          refine ⟨h1.cg (fun x j q => hF x j (by unfold D_tx at q; omega)), h2.cg (fun x j q => hF x j (by unfold D_ln at q; omega)), h3.cg (fun x j q => hF x j (by unfold D_pt at q; omega)), h4.cg (fun x j q => hF x j (by unfold D_th at q; omega)), h5.cg (fun x j q => hF x j (by unfold D_im at q; omega)), h6.cg (fun x j q => hF x j (by unfold D_bl at q; omega)), h7.cg (fun x j q => hF x j (by unfold D_lt at q; omega)), ?_, h9.cg (fun x j q => hF x j (by unfold D_hd at q; omega)), h10.cg (fun x j q => hF x j (by unfold D_cl at q; omega)), h11.cg (fun x j q => hF x j (by unfold D_rf at q; omega)), h12⟩
          refine ⟨by omega, by omega, by rw [u1]; exact u4, fun i hi => ?_, fun m hm => ?_⟩
          · by_cases ci : i = n
            · subst ci; rw [u2, u3]; exact ⟨hx0, hx1, rfl⟩
            · rw [hF 34 i (by omega), hF 84 i (by omega)]
              exact ⟨(hr34 i (by omega)).1, (hr34 i (by omega)).2, e84 i (by omega)⟩
          · intro q
            have q2 : gOvB (g 34) m := gOv_cg (r := g 34) (r' := g3 34) (fun i hi => hF 34 i (by omega)) q
            by_cases cm : m = n
            · subst cm; exact co q2
            · exact hno m (by omega) q2
      · obtain ⟨g2, e2, m30, m29, m31, mf⟩ := v_countRolls (g := g1) (t := t) (n := n) hn21 (by rw [f84]; exact hr84)
        rw [f84, cM] at m31
        have m28 : g1 75 28 = (n : Int) := by rw [vf _ _ (by omega)]; exact hm
        unfold gMf at m31
        rw [gOv_0 co, if_neg (show ¬ (0 : Int) = 1 by decide)] at m31
        refine ⟨-1, g1, t, g2, t, ?_, ?_, ?_⟩
        · clear hr34 hr84 e84 hno
          generalize gRm (g 34) n = RM at *
          simp (disch := (first | with_reducible assumption | omega)) only [x_c, x_fi, x_fr, x_fj, x_vi, x_vr, x_vj, x_fi1, x_fi2, x_fr1, x_fr2, x_fj1, x_fj2, x_ai1, x_ai2, x_ai3, x_ar1, x_ar2, x_ar3, x_t1, x_t2, x_t3, x_t4, x_21, x_22, x_23, x_24, x_n1, x_n2, x_ji1, x_ji2, x_jc, x_j21, x_j22, x_j23, x_js1, x_js2, x_js3, x_ij1, x_ij2, x_ib1, x_ib2, x_c21, x_c22, x_c23, x_cz1, x_cz2, x_an1, x_an2, x_an3, x_or1, x_or2, x_or3, x_nt1, x_nt2, x_anm, x_orm, x_anm0, x_orm0, x_if1, x_if2, x_if3, x_ifm, x_ifm0, x_cf1, x_cf2, x_cf3, x_cfm, x_cfm0, x_a0, x_pi1, x_pi2, x_pr1, x_pr2, x_pj1, x_pj2, x_av, x_cv1, x_cv2, x_cv3, x_cs1, x_cs2, x_cl, x_of1, x_of2, x_so1, x_so2, x_fe1, x_fe2, x_fe3, x_sq1, x_sq2, x_sq3, x_sk, x_st1, x_st2, x_sr1, x_sr2, x_in1, x_in2, x_sf1, x_sf2, x_sf3, x_rt1, x_rt2, x_rz1, x_rz2, x_rj1, x_rj2, x_rv, x_ue, x_pf1, x_pf2, x_pf3, x_pz1, x_pz2, x_pz3, x_as1, x_as2, x_as3, x_as4, x_bs1, x_bs2, x_bs3, x_bs4, x_zs1, x_zs2, x_zs3, x_zs4, x_uf1, x_uf2, x_uf3, x_uf4, x_uf5, x_ua1, x_ua2, x_ua3, x_ua4, x_ua5, x_ua6, x_cp1, x_cp2, x_cp3, x_sw1, x_sw2, x_sw3, b_t, b_f, b_a, b_o, b_n, b_i, pu_e, w_d, ex_0, ex_i, ex_r, ex_j, ol_ent, List.length_cons, List.length_nil, List.replicate, List.cons_append, List.nil_append, rcv_r, ls_0, ls_i, ls_r, ls_j, ol_lt, ol_le, ol_gt, ol_ge, ol_eq, ol_ne, v_in, v_out, v_isBall, v_isHand, v_shotM, v_shotC, ol_min, ol_max, Bool.and_true, Bool.true_and, Bool.and_false, Bool.false_and, Bool.or_true, Bool.true_or, Bool.or_false, Bool.false_or, if_pos, if_neg, not_true_eq_false, not_false_eq_true, decide_true, decide_false, f0_0, f0_1, f0_2, f0_3, f0_4, f0_5, f0_6, f0_7, f0_8, f0_9, f0_10, f0_11, f0_12, f0_13, f0_14, f0_15, p0_15, f0_16, p0_16, f0_17, c0, f33_0, f33_1, p33_1, f33_2, p33_2, f33_3, p33_3, f33_4, p33_4, f33_5, p33_5, c33, List.getElem?_cons_zero, List.getElem?_cons_succ, e_add, e_sub, e_mul, e_div, e_rem, ↓reduceIte, reduceIte, Int.reduceAdd, Int.reduceMul, Int.reduceSub, Int.reduceNeg, Int.reduceLT, Int.reduceLE, Int.reduceEq, Int.reduceToNat, Nat.reduceAdd, Nat.reduceSub, Nat.reduceMul, Nat.reduceLeDiff, Nat.reduceLT, Nat.reduceEqDiff, ite_true, ite_false, if_true, if_false, Bool.false_eq_true, Bool.not_true, Bool.not_false, Int.toNat_natCast, true_and, and_true, true_or, or_true, and_self, or_self, or_false, false_or, false_and, and_false, Int.neg_neg, Int.neg_zero, Nat.add_zero, Nat.zero_add, Int.zero_add, Int.add_zero, Int.sub_zero, Int.zero_sub, Int.one_ne_zero, fX10_roll, bX10_roll, e1, v5, v4]
        · clear hr34 hr84 e84 hno
          generalize gRm (g 34) n = RM at *
          simp (disch := (first | with_reducible assumption | omega)) only [x_c, x_fi, x_fr, x_fj, x_vi, x_vr, x_vj, x_fi1, x_fi2, x_fr1, x_fr2, x_fj1, x_fj2, x_ai1, x_ai2, x_ai3, x_ar1, x_ar2, x_ar3, x_t1, x_t2, x_t3, x_t4, x_21, x_22, x_23, x_24, x_n1, x_n2, x_ji1, x_ji2, x_jc, x_j21, x_j22, x_j23, x_js1, x_js2, x_js3, x_ij1, x_ij2, x_ib1, x_ib2, x_c21, x_c22, x_c23, x_cz1, x_cz2, x_an1, x_an2, x_an3, x_or1, x_or2, x_or3, x_nt1, x_nt2, x_anm, x_orm, x_anm0, x_orm0, x_if1, x_if2, x_if3, x_ifm, x_ifm0, x_cf1, x_cf2, x_cf3, x_cfm, x_cfm0, x_a0, x_pi1, x_pi2, x_pr1, x_pr2, x_pj1, x_pj2, x_av, x_cv1, x_cv2, x_cv3, x_cs1, x_cs2, x_cl, x_of1, x_of2, x_so1, x_so2, x_fe1, x_fe2, x_fe3, x_sq1, x_sq2, x_sq3, x_sk, x_st1, x_st2, x_sr1, x_sr2, x_in1, x_in2, x_sf1, x_sf2, x_sf3, x_rt1, x_rt2, x_rz1, x_rz2, x_rj1, x_rj2, x_rv, x_ue, x_pf1, x_pf2, x_pf3, x_pz1, x_pz2, x_pz3, x_as1, x_as2, x_as3, x_as4, x_bs1, x_bs2, x_bs3, x_bs4, x_zs1, x_zs2, x_zs3, x_zs4, x_uf1, x_uf2, x_uf3, x_uf4, x_uf5, x_ua1, x_ua2, x_ua3, x_ua4, x_ua5, x_ua6, x_cp1, x_cp2, x_cp3, x_sw1, x_sw2, x_sw3, b_t, b_f, b_a, b_o, b_n, b_i, pu_e, w_d, ex_0, ex_i, ex_r, ex_j, ol_ent, List.length_cons, List.length_nil, List.replicate, List.cons_append, List.nil_append, rcv_r, ls_0, ls_i, ls_r, ls_j, ol_lt, ol_le, ol_gt, ol_ge, ol_eq, ol_ne, v_in, v_out, v_isBall, v_isHand, v_shotM, v_shotC, ol_min, ol_max, Bool.and_true, Bool.true_and, Bool.and_false, Bool.false_and, Bool.or_true, Bool.true_or, Bool.or_false, Bool.false_or, if_pos, if_neg, not_true_eq_false, not_false_eq_true, decide_true, decide_false, f75_0, f75_1, f75_2, p75_2, f75_3, f75_4, p75_4, f75_5, p75_5, f75_6, p75_6, f75_7, p75_7, f75_8, p75_8, f75_9, p75_9, f75_10, f75_11, f75_12, p75_12, f75_13, p75_13, f75_14, p75_14, f75_15, p75_15, f75_16, p75_16, f75_17, p75_17, f75_18, p75_18, f75_19, p75_19, f75_20, f75_21, f75_22, f75_23, p75_23, f75_24, p75_24, f75_25, p75_25, f75_26, f75_27, f75_28, p75_28, f75_29, p75_29, f75_30, p75_30, f75_31, p75_31, f75_32, f75_33, f75_34, p75_34, f75_35, f75_36, f75_37, f75_38, p75_38, f75_39, f75_40, f75_41, c75, List.getElem?_cons_zero, List.getElem?_cons_succ, e_add, e_sub, e_mul, e_div, e_rem, ↓reduceIte, reduceIte, Int.reduceAdd, Int.reduceMul, Int.reduceSub, Int.reduceNeg, Int.reduceLT, Int.reduceLE, Int.reduceEq, Int.reduceToNat, Nat.reduceAdd, Nat.reduceSub, Nat.reduceMul, Nat.reduceLeDiff, Nat.reduceLT, Nat.reduceEqDiff, ite_true, ite_false, if_true, if_false, Bool.false_eq_true, Bool.not_true, Bool.not_false, Int.toNat_natCast, true_and, and_true, true_or, or_true, and_self, or_self, or_false, false_or, false_and, and_false, Int.neg_neg, Int.neg_zero, Nat.add_zero, Nat.zero_add, Int.zero_add, Int.add_zero, Int.sub_zero, Int.zero_sub, Int.one_ne_zero, fX11_roll, bX11_roll, m28, e2, m31]
        · have hF : ∀ x j, ¬ ((x = 33 ∧ 2 ≤ j ∧ j ≤ 5) ∨ (x = 75 ∧ 29 ≤ j ∧ j ≤ 31)) → g2 x j = g x j := by
            intro x j hx
            rw [mf x j (by omega), vf x j (by omega)]
          exact ⟨h1.cg (fun x j q => hF x j (by unfold D_tx at q; omega)), h2.cg (fun x j q => hF x j (by unfold D_ln at q; omega)), h3.cg (fun x j q => hF x j (by unfold D_pt at q; omega)), h4.cg (fun x j q => hF x j (by unfold D_th at q; omega)), h5.cg (fun x j q => hF x j (by unfold D_im at q; omega)), h6.cg (fun x j q => hF x j (by unfold D_bl at q; omega)), h7.cg (fun x j q => hF x j (by unfold D_lt at q; omega)), h8.cg (fun x j q => hF x j (by unfold D_gm at q; omega)), h9.cg (fun x j q => hF x j (by unfold D_hd at q; omega)), h10.cg (fun x j q => hF x j (by unfold D_cl at q; omega)), h11.cg (fun x j q => hF x j (by unfold D_rf at q; omega)), h12⟩
  · obtain ⟨g2, e2, m30, m29, m31, mf⟩ := v_countRolls (g := g) (t := t) (n := n) hn21 hr84
    refine ⟨-1, g, t, g2, t, ?_, ?_, ?_⟩
    · simp (disch := (first | with_reducible assumption | omega)) only [x_c, x_fi, x_fr, x_fj, x_vi, x_vr, x_vj, x_fi1, x_fi2, x_fr1, x_fr2, x_fj1, x_fj2, x_ai1, x_ai2, x_ai3, x_ar1, x_ar2, x_ar3, x_t1, x_t2, x_t3, x_t4, x_21, x_22, x_23, x_24, x_n1, x_n2, x_ji1, x_ji2, x_jc, x_j21, x_j22, x_j23, x_js1, x_js2, x_js3, x_ij1, x_ij2, x_ib1, x_ib2, x_c21, x_c22, x_c23, x_cz1, x_cz2, x_an1, x_an2, x_an3, x_or1, x_or2, x_or3, x_nt1, x_nt2, x_anm, x_orm, x_anm0, x_orm0, x_if1, x_if2, x_if3, x_ifm, x_ifm0, x_cf1, x_cf2, x_cf3, x_cfm, x_cfm0, x_a0, x_pi1, x_pi2, x_pr1, x_pr2, x_pj1, x_pj2, x_av, x_cv1, x_cv2, x_cv3, x_cs1, x_cs2, x_cl, x_of1, x_of2, x_so1, x_so2, x_fe1, x_fe2, x_fe3, x_sq1, x_sq2, x_sq3, x_sk, x_st1, x_st2, x_sr1, x_sr2, x_in1, x_in2, x_sf1, x_sf2, x_sf3, x_rt1, x_rt2, x_rz1, x_rz2, x_rj1, x_rj2, x_rv, x_ue, x_pf1, x_pf2, x_pf3, x_pz1, x_pz2, x_pz3, x_as1, x_as2, x_as3, x_as4, x_bs1, x_bs2, x_bs3, x_bs4, x_zs1, x_zs2, x_zs3, x_zs4, x_uf1, x_uf2, x_uf3, x_uf4, x_uf5, x_ua1, x_ua2, x_ua3, x_ua4, x_ua5, x_ua6, x_cp1, x_cp2, x_cp3, x_sw1, x_sw2, x_sw3, b_t, b_f, b_a, b_o, b_n, b_i, pu_e, w_d, ex_0, ex_i, ex_r, ex_j, ol_ent, List.length_cons, List.length_nil, List.replicate, List.cons_append, List.nil_append, rcv_r, ls_0, ls_i, ls_r, ls_j, ol_lt, ol_le, ol_gt, ol_ge, ol_eq, ol_ne, v_in, v_out, v_isBall, v_isHand, v_shotM, v_shotC, ol_min, ol_max, Bool.and_true, Bool.true_and, Bool.and_false, Bool.false_and, Bool.or_true, Bool.true_or, Bool.or_false, Bool.false_or, if_pos, if_neg, not_true_eq_false, not_false_eq_true, decide_true, decide_false, f0_0, f0_1, f0_2, f0_3, f0_4, f0_5, f0_6, f0_7, f0_8, f0_9, f0_10, f0_11, f0_12, f0_13, f0_14, f0_15, p0_15, f0_16, p0_16, f0_17, c0, List.getElem?_cons_zero, List.getElem?_cons_succ, e_add, e_sub, e_mul, e_div, e_rem, ↓reduceIte, reduceIte, Int.reduceAdd, Int.reduceMul, Int.reduceSub, Int.reduceNeg, Int.reduceLT, Int.reduceLE, Int.reduceEq, Int.reduceToNat, Nat.reduceAdd, Nat.reduceSub, Nat.reduceMul, Nat.reduceLeDiff, Nat.reduceLT, Nat.reduceEqDiff, ite_true, ite_false, if_true, if_false, Bool.false_eq_true, Bool.not_true, Bool.not_false, Int.toNat_natCast, true_and, and_true, true_or, or_true, and_self, or_self, or_false, false_or, false_and, and_false, Int.neg_neg, Int.neg_zero, Nat.add_zero, Nat.zero_add, Int.zero_add, Int.add_zero, Int.sub_zero, Int.zero_sub, Int.one_ne_zero, fX10_roll, bX10_roll]
    · clear hr34 hr84 e84 hno
      simp (disch := (first | with_reducible assumption | omega)) only [x_c, x_fi, x_fr, x_fj, x_vi, x_vr, x_vj, x_fi1, x_fi2, x_fr1, x_fr2, x_fj1, x_fj2, x_ai1, x_ai2, x_ai3, x_ar1, x_ar2, x_ar3, x_t1, x_t2, x_t3, x_t4, x_21, x_22, x_23, x_24, x_n1, x_n2, x_ji1, x_ji2, x_jc, x_j21, x_j22, x_j23, x_js1, x_js2, x_js3, x_ij1, x_ij2, x_ib1, x_ib2, x_c21, x_c22, x_c23, x_cz1, x_cz2, x_an1, x_an2, x_an3, x_or1, x_or2, x_or3, x_nt1, x_nt2, x_anm, x_orm, x_anm0, x_orm0, x_if1, x_if2, x_if3, x_ifm, x_ifm0, x_cf1, x_cf2, x_cf3, x_cfm, x_cfm0, x_a0, x_pi1, x_pi2, x_pr1, x_pr2, x_pj1, x_pj2, x_av, x_cv1, x_cv2, x_cv3, x_cs1, x_cs2, x_cl, x_of1, x_of2, x_so1, x_so2, x_fe1, x_fe2, x_fe3, x_sq1, x_sq2, x_sq3, x_sk, x_st1, x_st2, x_sr1, x_sr2, x_in1, x_in2, x_sf1, x_sf2, x_sf3, x_rt1, x_rt2, x_rz1, x_rz2, x_rj1, x_rj2, x_rv, x_ue, x_pf1, x_pf2, x_pf3, x_pz1, x_pz2, x_pz3, x_as1, x_as2, x_as3, x_as4, x_bs1, x_bs2, x_bs3, x_bs4, x_zs1, x_zs2, x_zs3, x_zs4, x_uf1, x_uf2, x_uf3, x_uf4, x_uf5, x_ua1, x_ua2, x_ua3, x_ua4, x_ua5, x_ua6, x_cp1, x_cp2, x_cp3, x_sw1, x_sw2, x_sw3, b_t, b_f, b_a, b_o, b_n, b_i, pu_e, w_d, ex_0, ex_i, ex_r, ex_j, ol_ent, List.length_cons, List.length_nil, List.replicate, List.cons_append, List.nil_append, rcv_r, ls_0, ls_i, ls_r, ls_j, ol_lt, ol_le, ol_gt, ol_ge, ol_eq, ol_ne, v_in, v_out, v_isBall, v_isHand, v_shotM, v_shotC, ol_min, ol_max, Bool.and_true, Bool.true_and, Bool.and_false, Bool.false_and, Bool.or_true, Bool.true_or, Bool.or_false, Bool.false_or, if_pos, if_neg, not_true_eq_false, not_false_eq_true, decide_true, decide_false, f75_0, f75_1, f75_2, p75_2, f75_3, f75_4, p75_4, f75_5, p75_5, f75_6, p75_6, f75_7, p75_7, f75_8, p75_8, f75_9, p75_9, f75_10, f75_11, f75_12, p75_12, f75_13, p75_13, f75_14, p75_14, f75_15, p75_15, f75_16, p75_16, f75_17, p75_17, f75_18, p75_18, f75_19, p75_19, f75_20, f75_21, f75_22, f75_23, p75_23, f75_24, p75_24, f75_25, p75_25, f75_26, f75_27, f75_28, p75_28, f75_29, p75_29, f75_30, p75_30, f75_31, p75_31, f75_32, f75_33, f75_34, p75_34, f75_35, f75_36, f75_37, f75_38, p75_38, f75_39, f75_40, f75_41, c75, List.getElem?_cons_zero, List.getElem?_cons_succ, e_add, e_sub, e_mul, e_div, e_rem, ↓reduceIte, reduceIte, Int.reduceAdd, Int.reduceMul, Int.reduceSub, Int.reduceNeg, Int.reduceLT, Int.reduceLE, Int.reduceEq, Int.reduceToNat, Nat.reduceAdd, Nat.reduceSub, Nat.reduceMul, Nat.reduceLeDiff, Nat.reduceLT, Nat.reduceEqDiff, ite_true, ite_false, if_true, if_false, Bool.false_eq_true, Bool.not_true, Bool.not_false, Int.toNat_natCast, true_and, and_true, true_or, or_true, and_self, or_self, or_false, false_or, false_and, and_false, Int.neg_neg, Int.neg_zero, Nat.add_zero, Nat.zero_add, Int.zero_add, Int.add_zero, Int.sub_zero, Int.zero_sub, Int.one_ne_zero, fX11_roll, bX11_roll, hm, e2]
    · have hF : ∀ x j, ¬ (x = 75 ∧ 29 ≤ j ∧ j ≤ 31) → g2 x j = g x j := mf
      exact ⟨h1.cg (fun x j q => hF x j (by unfold D_tx at q; omega)), h2.cg (fun x j q => hF x j (by unfold D_ln at q; omega)), h3.cg (fun x j q => hF x j (by unfold D_pt at q; omega)), h4.cg (fun x j q => hF x j (by unfold D_th at q; omega)), h5.cg (fun x j q => hF x j (by unfold D_im at q; omega)), h6.cg (fun x j q => hF x j (by unfold D_bl at q; omega)), h7.cg (fun x j q => hF x j (by unfold D_lt at q; omega)), h8.cg (fun x j q => hF x j (by unfold D_gm at q; omega)), h9.cg (fun x j q => hF x j (by unfold D_hd at q; omega)), h10.cg (fun x j q => hF x j (by unfold D_cl at q; omega)), h11.cg (fun x j q => hF x j (by unfold D_rf at q; omega)), h12⟩
