/-! evening -/
def eR (G : pg) (S : eT) (m : Nat) (g' : pg) : Prop := (∀ j, j < 780 → g' 77 j = S.1 j) ∧ (∀ t f, t < 4 → f < 6 → g' 87 (6 * t + f) = S.2.1 t f) ∧ ((0 < m → (∀ f, f < 7 → g' 83 f = S.2.2.2.2 (f + 1)) ∧ g' 75 25 = 1) ∧ (m = 0 → (∀ f, g' 83 f = G 83 f) ∧ g' 75 25 = G 75 25)) ∧ ∀ x j, ¬ ((x = 75 ∧ ((12 ≤ j ∧ j ≤ 18) ∨ j = 23 ∨ j = 24 ∨ j = 25)) ∨ (x = 77 ∧ j < 780) ∨ x = 82 ∨ x = 83 ∨ (x = 87 ∧ j < 24)) → g' x j = G x j
def evL (n al : Int) (x3 x4 x5 : ol_V) : ol_L := [.inr (.inl (some 75)), .inl n, .inl al, x3, x4, x5]
set_option maxHeartbeats 4000000 in
 theorem ev_b {G : pg} {t : pt} (hRf : rRf G) (hz : G 75 19 = 0) {K W : Nat → Int} (hK : kwOk K W) (eK : ∀ k, k < 6 → G 78 k = K k ∧ G 79 k = W k) {S : eT} {m : Nat} (hm : m < 100) (hS : eOk S m) {g' : pg} (hR : eR G S m g') {q : Nat} (hq : q < 4) (n z3 : Int) (x5 : ol_V) : ∃ g'' y5, wX11_evening_1b (evL n S.2.2.2.1 (.inl z3) (.inl (q : Int)) x5) (pb g' t, 0, 0) = some (none, evL n (e1 K W q S).2.2.2.1 (.inl z3) (.inl ((q + 1 : Nat) : Int)) y5, (pb g'' t, 0, 0)) ∧ eR G (e1 K W q S) (m + 1) g'' := by
  obtain ⟨r1, r2, r3, r4⟩ := hR
  have hsh := eSh hK hS hq
  obtain ⟨o1, o2, o3, o4, o5⟩ := hS
  have ht := o2 q hq
  have ht' := ht
  unfold thOK thOk at ht'
  obtain ⟨bl, hbl⟩ : ∃ b : Nat, S.2.1 q 3 = (b : Int) := ⟨(S.2.1 q 3).toNat, by omega⟩
  have hKb := hK bl (by omega)
  have eKb := eK bl (by omega)
  have e78 : g' 78 bl = K bl := by rw [r4 _ _ (by omega)]; exact eKb.1
  have e79 : g' 79 bl = W bl := by rw [r4 _ _ (by omega)]; exact eKb.2
  rw [hbl, Int.toNat_natCast] at hsh
  have hcell : ∀ j, j < 780 → (fun j => g' 77 (0 + j)) j = S.1 j := fun j hj => by show g' 77 (0 + j) = _; rw [Nat.zero_add]; exact r1 j hj
  have hR' : rRf g' := ⟨fun j hj => by rw [r4 _ _ (by omega)]; exact hRf.1 j hj, fun j hj => by rw [r4 _ _ (by omega)]; exact hRf.2 j hj⟩
  obtain ⟨g1, s0, p1, p2, p3, p4, p5, p6, p7, p8⟩ := v_throwOne (g := g') (t := t) hR' (k := bl) (by omega) (b := S.2.1 q 0) (a := S.2.1 q 1) (s := S.2.1 q 2) (by rw [e78]; exact shOk_cg hsh hcell) (by rw [r4 _ _ (by omega)]; exact hz) (by omega) (by omega)
  rw [e78, e79, pF_cg hsh hcell] at s0
  rw [e78, tT_cg hsh hcell 20 (Nat.le_refl _)] at p1 p2 p3 p4
  rw [e78, e79, pF_cg hsh hcell] at p5
  rw [e78] at p7
  have hTo := tT_ok hsh 20 (Nat.le_refl _)
  unfold tOk at hTo
  have hpb := pF_b (w := W bl) (set := 1023) hsh
  have hTe : eTt K S.1 (S.2.1 q) = tT (K bl) S.1 (S.2.1 q 0) (S.2.1 q 1) (S.2.1 q 2) 20 := by unfold eTt; rw [hbl, Int.toNat_natCast]
  have hPe : ePn K W S.1 (S.2.1 q) = pF (K bl) (W bl) S.1 (S.2.1 q 0) (S.2.1 q 1) (S.2.1 q 2) 1023 := by unfold ePn; rw [hbl, Int.toNat_natCast]
  have b0 := v_bitsIn (n := pF (K bl) (W bl) S.1 (S.2.1 q 0) (S.2.1 q 1) (S.2.1 q 2) 1023) (by omega) (cs := pb g1 t)
  have c0 := v_cameHow (g := g1) (t := t) p3 p1 p2 (by omega) (by omega)
  obtain ⟨g2, l0, l1, l2⟩ := v_move (g := g1) (t := t) (o := 6 * q) (by omega) (x := S.2.1 q) (fun f hf => by rw [p8 _ _ (by omega)]; exact r2 q f hq hf) ht (how := hw (tT (K bl) S.1 (S.2.1 q 0) (S.2.1 q 1) (S.2.1 q 2) 20 1) (tT (K bl) S.1 (S.2.1 q 0) (S.2.1 q 1) (S.2.1 q 2) 20 2)) (hw_b _ _)
  have hc10 := kCnt_b (pF (K bl) (W bl) S.1 (S.2.1 q 0) (S.2.1 q 1) (S.2.1 q 2) 1023)
  have ek : (q : Int) + 1 = ((q + 1 : Nat) : Int) := by omega
  have ei : 6 * (q : Int) = ((6 * q : Nat) : Int) := by omega
  have z0 : ((6 * q : Nat) : Int).toNat = 6 * q := Int.toNat_natCast _
  have z1 : (((6 * q : Nat) : Int) + 1).toNat = 6 * q + 1 := by omega
  have z2 : (((6 * q : Nat) : Int) + 2).toNat = 6 * q + 2 := by omega
  have z3' : (((6 * q : Nat) : Int) + 3).toNat = 6 * q + 3 := by omega
  have y0 := r2 q 0 hq (by decide)
  have y1 := r2 q 1 hq (by decide)
  have y2 := r2 q 2 hq (by decide)
  have y3 := r2 q 3 hq (by decide)
  rw [Nat.add_zero] at y0
  rw [hbl] at y3
  have hall : (e1 K W q S).2.2.2.1 = S.2.2.2.1 + (kCnt (pF (K bl) (W bl) S.1 (S.2.1 q 0) (S.2.1 q 1) (S.2.1 q 2) 1023) : Int) := by
    show S.2.2.2.1 + (kCnt (ePn K W S.1 (S.2.1 q)) : Int) = _
    rw [hPe]
  rw [hall]
  refine ⟨g2, .inl ((6 * q : Nat) : Int), ?_, ?_, ?_, ?_, ?_⟩
  · clear hTe hPe l1 l2 p1 p2 p3 p4 p5 p6 p7 p8 r1 r2 r3 r4 hcell hsh o1 o2 o3 eK hK hall hTo hR' hRf
    generalize hw (tT (K bl) S.1 (S.2.1 q 0) (S.2.1 q 1) (S.2.1 q 2) 20 1) (tT (K bl) S.1 (S.2.1 q 0) (S.2.1 q 1) (S.2.1 q 2) 20 2) = hh at *
    generalize kCnt (pF (K bl) (W bl) S.1 (S.2.1 q 0) (S.2.1 q 1) (S.2.1 q 2) 1023) = kc at *
    generalize pF (K bl) (W bl) S.1 (S.2.1 q 0) (S.2.1 q 1) (S.2.1 q 2) 1023 = pp at *
    simp (disch := (first | with_reducible assumption | omega)) only [x_c, x_fi, x_fr, x_fj, x_vi, x_vr, x_vj, x_fi1, x_fi2, x_fr1, x_fr2, x_fj1, x_fj2, x_ai1, x_ai2, x_ai3, x_ar1, x_ar2, x_ar3, x_t1, x_t2, x_t3, x_t4, x_21, x_22, x_23, x_24, x_n1, x_n2, x_ji1, x_ji2, x_jc, x_j21, x_j22, x_j23, x_js1, x_js2, x_js3, x_ij1, x_ij2, x_ib1, x_ib2, x_c21, x_c22, x_c23, x_cz1, x_cz2, x_an1, x_an2, x_an3, x_or1, x_or2, x_or3, x_nt1, x_nt2, x_anm, x_orm, x_anm0, x_orm0, x_if1, x_if2, x_if3, x_ifm, x_ifm0, x_cf1, x_cf2, x_cf3, x_cfm, x_cfm0, x_a0, x_pi1, x_pi2, x_pr1, x_pr2, x_pj1, x_pj2, x_av, x_cv1, x_cv2, x_cv3, x_cs1, x_cs2, x_cl, x_of1, x_of2, x_so1, x_so2, x_fe1, x_fe2, x_fe3, x_sq1, x_sq2, x_sq3, x_sk, x_st1, x_st2, x_sr1, x_sr2, x_in1, x_in2, x_sf1, x_sf2, x_sf3, x_rt1, x_rt2, x_rz1, x_rz2, x_rj1, x_rj2, x_rv, x_ue, x_pf1, x_pf2, x_pf3, x_pz1, x_pz2, x_pz3, x_as1, x_as2, x_as3, x_as4, x_bs1, x_bs2, x_bs3, x_bs4, x_zs1, x_zs2, x_zs3, x_zs4, x_uf1, x_uf2, x_uf3, x_uf4, x_uf5, x_ua1, x_ua2, x_ua3, x_ua4, x_ua5, x_ua6, x_cp1, x_cp2, x_cp3, x_sw1, x_sw2, x_sw3, b_t, b_f, b_a, b_o, b_n, b_i, pu_e, w_d, ex_0, ex_i, ex_r, ex_j, ol_ent, List.length_cons, List.length_nil, List.replicate, List.cons_append, List.nil_append, rcv_r, ls_0, ls_i, ls_r, ls_j, ol_lt, ol_le, ol_gt, ol_ge, ol_eq, ol_ne, v_in, v_out, v_isBall, v_isHand, v_shotM, v_shotC, ol_min, ol_max, Bool.and_true, Bool.true_and, Bool.and_false, Bool.false_and, Bool.or_true, Bool.true_or, Bool.or_false, Bool.false_or, if_pos, if_neg, not_true_eq_false, not_false_eq_true, decide_true, decide_false, f75_0, f75_1, f75_2, p75_2, f75_3, f75_4, p75_4, f75_5, p75_5, f75_6, p75_6, f75_7, p75_7, f75_8, p75_8, f75_9, p75_9, f75_10, f75_11, f75_12, p75_12, f75_13, p75_13, f75_14, p75_14, f75_15, p75_15, f75_16, p75_16, f75_17, p75_17, f75_18, p75_18, f75_19, p75_19, f75_20, f75_21, f75_22, f75_23, p75_23, f75_24, p75_24, f75_25, p75_25, f75_26, f75_27, f75_28, p75_28, f75_29, p75_29, f75_30, p75_30, f75_31, p75_31, f75_32, f75_33, f75_34, p75_34, f75_35, f75_36, f75_37, f75_38, p75_38, f75_39, f75_40, f75_41, c75, a87, s87, List.getElem?_cons_zero, List.getElem?_cons_succ, e_add, e_sub, e_mul, e_div, e_rem, ↓reduceIte, reduceIte, Int.reduceAdd, Int.reduceMul, Int.reduceSub, Int.reduceNeg, Int.reduceLT, Int.reduceLE, Int.reduceEq, Int.reduceToNat, Nat.reduceAdd, Nat.reduceSub, Nat.reduceMul, Nat.reduceLeDiff, Nat.reduceLT, Nat.reduceEqDiff, ite_true, ite_false, if_true, if_false, Bool.false_eq_true, Bool.not_true, Bool.not_false, Int.toNat_natCast, true_and, and_true, true_or, or_true, and_self, or_self, or_false, false_or, false_and, and_false, Int.neg_neg, Int.neg_zero, Nat.add_zero, Nat.zero_add, Int.zero_add, Int.add_zero, Int.sub_zero, Int.zero_sub, Int.one_ne_zero, wX11_evening_1b, evL, ei, z0, z1, z2, z3', y0, y1, y2, y3, s0, b0, c0, l0, ek]
  · intro j hj
    rw [l2 _ _ (by omega), p7 j hj, tMk_cg hsh hcell 20 (Nat.le_refl _) j hj]
    show _ = tMk (K (S.2.1 q 3).toNat) S.1 (S.2.1 q 0) (S.2.1 q 1) (S.2.1 q 2) 20 j
    rw [hbl, Int.toNat_natCast]
  · intro t' f ht2 hf
    show _ = (if t' = q then _ else S.2.1 t') f
    by_cases e : t' = q
    · subst e; rw [if_pos rfl, hTe]; exact l1 f hf
    · rw [if_neg e, l2 _ _ (by omega), p8 _ _ (by omega)]; exact r2 t' f ht2 hf
  · refine ⟨fun _ => ⟨fun f hf => ?_, ?_⟩, fun h => absurd h (by omega)⟩
    · rw [l2 _ _ (by omega)]
      show _ = if f + 1 = 7 then (ePn K W S.1 (S.2.1 q) : Int) else eTt K S.1 (S.2.1 q) (f + 1)
      by_cases e : f = 6
      · subst e; rw [if_pos rfl, hPe]; exact p5
      · rw [if_neg (by omega), hTe]; exact p4 f (by omega)
    · rw [l2 _ _ (by omega)]; exact p6
  · intro x j hx
    rw [l2 _ _ (by omega), p8 _ _ (by omega)]
    exact r4 x j hx
set_option maxHeartbeats 200000 in
theorem v_evenM {G : pg} {t : pt} (hRf : rRf G) (hz : G 75 19 = 0) {K W : Nat → Int} (hK : kwOk K W) (eK : ∀ k, k < 6 → G 78 k = K k ∧ G 79 k = W k) {E : Nat → eT} {n sz : Nat} (hn : n ≤ 20) (hsz : sz ≤ 4) (esz : G 75 34 = (sz : Int)) (hEs : ∀ m, E (m + 1) = e1 K W (m % sz) (E m)) (hok : ∀ m, m ≤ sz * n → eOk (E m) m) (hR0 : eR G (E 0) 0 G) (hE0 : (E 0).2.2.2.1 = 0) : ∃ g' x3 x4 x5, es_wh wX11_evening_0c wX11_evening_0b (evL (n : Int) 0 (.inl 0) (.inr (.inl none)) (.inr (.inl none))) (pb G t, 0, 0) = some (none, evL (n : Int) (E (sz * n)).2.2.2.1 x3 x4 x5, (pb g' t, 0, 0)) ∧ eR G (E (sz * n)) (sz * n) g' := by
  have hprod : sz * n ≤ 80 := by
    have := Nat.mul_le_mul hsz hn
    omega
  have inner : ∀ (r : Nat) (g1 : pg) (x5 : ol_V), r < n → eR G (E (sz * r)) (sz * r) g1 → ∃ g2 y5, es_wh wX11_evening_1c wX11_evening_1b (evL (n : Int) (E (sz * r)).2.2.2.1 (.inl (r : Int)) (.inl 0) x5) (pb g1 t, 0, 0) = some (none, evL (n : Int) (E (sz * (r + 1))).2.2.2.1 (.inl (r : Int)) (.inl (sz : Int)) y5, (pb g2 t, 0, 0)) ∧ eR G (E (sz * (r + 1))) (sz * (r + 1)) g2 := by
    intro r g1 x5 hr hR1
    have hle : sz * r + sz ≤ sz * n := by
      have := Nat.mul_le_mul_left sz (show r + 1 ≤ n by omega)
      rw [Nat.mul_add, Nat.mul_one] at this
      exact this
    obtain ⟨L', g', e, ⟨y5, rfl⟩, q1⟩ := wh_for (c := wX11_evening_1c) (b := wX11_evening_1b) (t := t) (g := g1) sz (by omega) (fun k L g' => (∃ x5, L = evL (n : Int) (E (sz * r + k)).2.2.2.1 (.inl (r : Int)) (.inl (k : Int)) x5) ∧ eR G (E (sz * r + k)) (sz * r + k) g')
      (by
        rintro k L g' hk ⟨⟨x5, rfl⟩, p⟩
        have es : g' 75 34 = (sz : Int) := by rw [p.2.2.2 _ _ (by omega)]; exact esz
        simp (disch := (first | with_reducible assumption | omega)) only [x_c, x_fi, x_fr, x_fj, x_vi, x_vr, x_vj, x_fi1, x_fi2, x_fr1, x_fr2, x_fj1, x_fj2, x_ai1, x_ai2, x_ai3, x_ar1, x_ar2, x_ar3, x_t1, x_t2, x_t3, x_t4, x_21, x_22, x_23, x_24, x_n1, x_n2, x_ji1, x_ji2, x_jc, x_j21, x_j22, x_j23, x_js1, x_js2, x_js3, x_ij1, x_ij2, x_ib1, x_ib2, x_c21, x_c22, x_c23, x_cz1, x_cz2, x_an1, x_an2, x_an3, x_or1, x_or2, x_or3, x_nt1, x_nt2, x_anm, x_orm, x_anm0, x_orm0, x_if1, x_if2, x_if3, x_ifm, x_ifm0, x_cf1, x_cf2, x_cf3, x_cfm, x_cfm0, x_a0, x_pi1, x_pi2, x_pr1, x_pr2, x_pj1, x_pj2, x_av, x_cv1, x_cv2, x_cv3, x_cs1, x_cs2, x_cl, x_of1, x_of2, x_so1, x_so2, x_fe1, x_fe2, x_fe3, x_sq1, x_sq2, x_sq3, x_sk, x_st1, x_st2, x_sr1, x_sr2, x_in1, x_in2, x_sf1, x_sf2, x_sf3, x_rt1, x_rt2, x_rz1, x_rz2, x_rj1, x_rj2, x_rv, x_ue, x_pf1, x_pf2, x_pf3, x_pz1, x_pz2, x_pz3, x_as1, x_as2, x_as3, x_as4, x_bs1, x_bs2, x_bs3, x_bs4, x_zs1, x_zs2, x_zs3, x_zs4, x_uf1, x_uf2, x_uf3, x_uf4, x_uf5, x_ua1, x_ua2, x_ua3, x_ua4, x_ua5, x_ua6, x_cp1, x_cp2, x_cp3, x_sw1, x_sw2, x_sw3, b_t, b_f, b_a, b_o, b_n, b_i, pu_e, w_d, ex_0, ex_i, ex_r, ex_j, ol_ent, List.length_cons, List.length_nil, List.replicate, List.cons_append, List.nil_append, rcv_r, ls_0, ls_i, ls_r, ls_j, ol_lt, ol_le, ol_gt, ol_ge, ol_eq, ol_ne, v_in, v_out, v_isBall, v_isHand, v_shotM, v_shotC, ol_min, ol_max, Bool.and_true, Bool.true_and, Bool.and_false, Bool.false_and, Bool.or_true, Bool.true_or, Bool.or_false, Bool.false_or, if_pos, if_neg, not_true_eq_false, not_false_eq_true, decide_true, decide_false, f75_0, f75_1, f75_2, p75_2, f75_3, f75_4, p75_4, f75_5, p75_5, f75_6, p75_6, f75_7, p75_7, f75_8, p75_8, f75_9, p75_9, f75_10, f75_11, f75_12, p75_12, f75_13, p75_13, f75_14, p75_14, f75_15, p75_15, f75_16, p75_16, f75_17, p75_17, f75_18, p75_18, f75_19, p75_19, f75_20, f75_21, f75_22, f75_23, p75_23, f75_24, p75_24, f75_25, p75_25, f75_26, f75_27, f75_28, p75_28, f75_29, p75_29, f75_30, p75_30, f75_31, p75_31, f75_32, f75_33, f75_34, p75_34, f75_35, f75_36, f75_37, f75_38, p75_38, f75_39, f75_40, f75_41, c75, List.getElem?_cons_zero, List.getElem?_cons_succ, e_add, e_sub, e_mul, e_div, e_rem, ↓reduceIte, reduceIte, Int.reduceAdd, Int.reduceMul, Int.reduceSub, Int.reduceNeg, Int.reduceLT, Int.reduceLE, Int.reduceEq, Int.reduceToNat, Nat.reduceAdd, Nat.reduceSub, Nat.reduceMul, Nat.reduceLeDiff, Nat.reduceLT, Nat.reduceEqDiff, ite_true, ite_false, if_true, if_false, Bool.false_eq_true, Bool.not_true, Bool.not_false, Int.toNat_natCast, true_and, and_true, true_or, or_true, and_self, or_self, or_false, false_or, false_and, and_false, Int.neg_neg, Int.neg_zero, Nat.add_zero, Nat.zero_add, Int.zero_add, Int.add_zero, Int.sub_zero, Int.zero_sub, Int.one_ne_zero, wX11_evening_1c, evL, es])
      (by
        rintro L g' ⟨⟨x5, rfl⟩, p⟩
        have es : g' 75 34 = (sz : Int) := by rw [p.2.2.2 _ _ (by omega)]; exact esz
        simp (disch := (first | with_reducible assumption | omega)) only [x_c, x_fi, x_fr, x_fj, x_vi, x_vr, x_vj, x_fi1, x_fi2, x_fr1, x_fr2, x_fj1, x_fj2, x_ai1, x_ai2, x_ai3, x_ar1, x_ar2, x_ar3, x_t1, x_t2, x_t3, x_t4, x_21, x_22, x_23, x_24, x_n1, x_n2, x_ji1, x_ji2, x_jc, x_j21, x_j22, x_j23, x_js1, x_js2, x_js3, x_ij1, x_ij2, x_ib1, x_ib2, x_c21, x_c22, x_c23, x_cz1, x_cz2, x_an1, x_an2, x_an3, x_or1, x_or2, x_or3, x_nt1, x_nt2, x_anm, x_orm, x_anm0, x_orm0, x_if1, x_if2, x_if3, x_ifm, x_ifm0, x_cf1, x_cf2, x_cf3, x_cfm, x_cfm0, x_a0, x_pi1, x_pi2, x_pr1, x_pr2, x_pj1, x_pj2, x_av, x_cv1, x_cv2, x_cv3, x_cs1, x_cs2, x_cl, x_of1, x_of2, x_so1, x_so2, x_fe1, x_fe2, x_fe3, x_sq1, x_sq2, x_sq3, x_sk, x_st1, x_st2, x_sr1, x_sr2, x_in1, x_in2, x_sf1, x_sf2, x_sf3, x_rt1, x_rt2, x_rz1, x_rz2, x_rj1, x_rj2, x_rv, x_ue, x_pf1, x_pf2, x_pf3, x_pz1, x_pz2, x_pz3, x_as1, x_as2, x_as3, x_as4, x_bs1, x_bs2, x_bs3, x_bs4, x_zs1, x_zs2, x_zs3, x_zs4, x_uf1, x_uf2, x_uf3, x_uf4, x_uf5, x_ua1, x_ua2, x_ua3, x_ua4, x_ua5, x_ua6, x_cp1, x_cp2, x_cp3, x_sw1, x_sw2, x_sw3, b_t, b_f, b_a, b_o, b_n, b_i, pu_e, w_d, ex_0, ex_i, ex_r, ex_j, ol_ent, List.length_cons, List.length_nil, List.replicate, List.cons_append, List.nil_append, rcv_r, ls_0, ls_i, ls_r, ls_j, ol_lt, ol_le, ol_gt, ol_ge, ol_eq, ol_ne, v_in, v_out, v_isBall, v_isHand, v_shotM, v_shotC, ol_min, ol_max, Bool.and_true, Bool.true_and, Bool.and_false, Bool.false_and, Bool.or_true, Bool.true_or, Bool.or_false, Bool.false_or, if_pos, if_neg, not_true_eq_false, not_false_eq_true, decide_true, decide_false, f75_0, f75_1, f75_2, p75_2, f75_3, f75_4, p75_4, f75_5, p75_5, f75_6, p75_6, f75_7, p75_7, f75_8, p75_8, f75_9, p75_9, f75_10, f75_11, f75_12, p75_12, f75_13, p75_13, f75_14, p75_14, f75_15, p75_15, f75_16, p75_16, f75_17, p75_17, f75_18, p75_18, f75_19, p75_19, f75_20, f75_21, f75_22, f75_23, p75_23, f75_24, p75_24, f75_25, p75_25, f75_26, f75_27, f75_28, p75_28, f75_29, p75_29, f75_30, p75_30, f75_31, p75_31, f75_32, f75_33, f75_34, p75_34, f75_35, f75_36, f75_37, f75_38, p75_38, f75_39, f75_40, f75_41, c75, List.getElem?_cons_zero, List.getElem?_cons_succ, e_add, e_sub, e_mul, e_div, e_rem, ↓reduceIte, reduceIte, Int.reduceAdd, Int.reduceMul, Int.reduceSub, Int.reduceNeg, Int.reduceLT, Int.reduceLE, Int.reduceEq, Int.reduceToNat, Nat.reduceAdd, Nat.reduceSub, Nat.reduceMul, Nat.reduceLeDiff, Nat.reduceLT, Nat.reduceEqDiff, ite_true, ite_false, if_true, if_false, Bool.false_eq_true, Bool.not_true, Bool.not_false, Int.toNat_natCast, true_and, and_true, true_or, or_true, and_self, or_self, or_false, false_or, false_and, and_false, Int.neg_neg, Int.neg_zero, Nat.add_zero, Nat.zero_add, Int.zero_add, Int.add_zero, Int.sub_zero, Int.zero_sub, Int.one_ne_zero, wX11_evening_1c, evL, es])
      (by
        rintro k L g' hk ⟨⟨x5, rfl⟩, p⟩
        have hmod : (sz * r + k) % sz = k := by rw [Nat.mul_add_mod, Nat.mod_eq_of_lt hk]
        obtain ⟨g'', y5, e1', p'⟩ := ev_b (t := t) hRf hz hK eK (show sz * r + k < 100 by omega) (hok (sz * r + k) (by omega)) p (q := k) (by omega) (n : Int) (r : Int) x5
        have hs := hEs (sz * r + k)
        rw [hmod] at hs
        refine ⟨_, g'', e1', ⟨y5, ?_⟩, ?_⟩
        · rw [← Nat.add_assoc, hs]
        · rw [← Nat.add_assoc, hs]; exact p') (L := evL (n : Int) (E (sz * r)).2.2.2.1 (.inl (r : Int)) (.inl 0) x5) ⟨⟨x5, rfl⟩, hR1⟩
    rw [Nat.mul_add, Nat.mul_one]
    exact ⟨g', y5, e, q1⟩
  obtain ⟨L', g', e, ⟨y4, y5, rfl⟩, q1⟩ := wh_for (c := wX11_evening_0c) (b := wX11_evening_0b) (t := t) (g := G) n (by omega) (fun r L g' => (∃ x4 x5, L = evL (n : Int) (E (sz * r)).2.2.2.1 (.inl (r : Int)) x4 x5) ∧ eR G (E (sz * r)) (sz * r) g')
    (by
      rintro r L g' hr ⟨⟨x4, x5, rfl⟩, -⟩
      simp (disch := (first | with_reducible assumption | omega)) only [x_c, x_fi, x_fr, x_fj, x_vi, x_vr, x_vj, x_fi1, x_fi2, x_fr1, x_fr2, x_fj1, x_fj2, x_ai1, x_ai2, x_ai3, x_ar1, x_ar2, x_ar3, x_t1, x_t2, x_t3, x_t4, x_21, x_22, x_23, x_24, x_n1, x_n2, x_ji1, x_ji2, x_jc, x_j21, x_j22, x_j23, x_js1, x_js2, x_js3, x_ij1, x_ij2, x_ib1, x_ib2, x_c21, x_c22, x_c23, x_cz1, x_cz2, x_an1, x_an2, x_an3, x_or1, x_or2, x_or3, x_nt1, x_nt2, x_anm, x_orm, x_anm0, x_orm0, x_if1, x_if2, x_if3, x_ifm, x_ifm0, x_cf1, x_cf2, x_cf3, x_cfm, x_cfm0, x_a0, x_pi1, x_pi2, x_pr1, x_pr2, x_pj1, x_pj2, x_av, x_cv1, x_cv2, x_cv3, x_cs1, x_cs2, x_cl, x_of1, x_of2, x_so1, x_so2, x_fe1, x_fe2, x_fe3, x_sq1, x_sq2, x_sq3, x_sk, x_st1, x_st2, x_sr1, x_sr2, x_in1, x_in2, x_sf1, x_sf2, x_sf3, x_rt1, x_rt2, x_rz1, x_rz2, x_rj1, x_rj2, x_rv, x_ue, x_pf1, x_pf2, x_pf3, x_pz1, x_pz2, x_pz3, x_as1, x_as2, x_as3, x_as4, x_bs1, x_bs2, x_bs3, x_bs4, x_zs1, x_zs2, x_zs3, x_zs4, x_uf1, x_uf2, x_uf3, x_uf4, x_uf5, x_ua1, x_ua2, x_ua3, x_ua4, x_ua5, x_ua6, x_cp1, x_cp2, x_cp3, x_sw1, x_sw2, x_sw3, b_t, b_f, b_a, b_o, b_n, b_i, pu_e, w_d, ex_0, ex_i, ex_r, ex_j, ol_ent, List.length_cons, List.length_nil, List.replicate, List.cons_append, List.nil_append, rcv_r, ls_0, ls_i, ls_r, ls_j, ol_lt, ol_le, ol_gt, ol_ge, ol_eq, ol_ne, v_in, v_out, v_isBall, v_isHand, v_shotM, v_shotC, ol_min, ol_max, Bool.and_true, Bool.true_and, Bool.and_false, Bool.false_and, Bool.or_true, Bool.true_or, Bool.or_false, Bool.false_or, if_pos, if_neg, not_true_eq_false, not_false_eq_true, decide_true, decide_false, List.getElem?_cons_zero, List.getElem?_cons_succ, e_add, e_sub, e_mul, e_div, e_rem, ↓reduceIte, reduceIte, Int.reduceAdd, Int.reduceMul, Int.reduceSub, Int.reduceNeg, Int.reduceLT, Int.reduceLE, Int.reduceEq, Int.reduceToNat, Nat.reduceAdd, Nat.reduceSub, Nat.reduceMul, Nat.reduceLeDiff, Nat.reduceLT, Nat.reduceEqDiff, ite_true, ite_false, if_true, if_false, Bool.false_eq_true, Bool.not_true, Bool.not_false, Int.toNat_natCast, true_and, and_true, true_or, or_true, and_self, or_self, or_false, false_or, false_and, and_false, Int.neg_neg, Int.neg_zero, Nat.add_zero, Nat.zero_add, Int.zero_add, Int.add_zero, Int.sub_zero, Int.zero_sub, Int.one_ne_zero, wX11_evening_0c, evL])
    (by
      rintro L g' ⟨⟨x4, x5, rfl⟩, -⟩
      simp (disch := (first | with_reducible assumption | omega)) only [x_c, x_fi, x_fr, x_fj, x_vi, x_vr, x_vj, x_fi1, x_fi2, x_fr1, x_fr2, x_fj1, x_fj2, x_ai1, x_ai2, x_ai3, x_ar1, x_ar2, x_ar3, x_t1, x_t2, x_t3, x_t4, x_21, x_22, x_23, x_24, x_n1, x_n2, x_ji1, x_ji2, x_jc, x_j21, x_j22, x_j23, x_js1, x_js2, x_js3, x_ij1, x_ij2, x_ib1, x_ib2, x_c21, x_c22, x_c23, x_cz1, x_cz2, x_an1, x_an2, x_an3, x_or1, x_or2, x_or3, x_nt1, x_nt2, x_anm, x_orm, x_anm0, x_orm0, x_if1, x_if2, x_if3, x_ifm, x_ifm0, x_cf1, x_cf2, x_cf3, x_cfm, x_cfm0, x_a0, x_pi1, x_pi2, x_pr1, x_pr2, x_pj1, x_pj2, x_av, x_cv1, x_cv2, x_cv3, x_cs1, x_cs2, x_cl, x_of1, x_of2, x_so1, x_so2, x_fe1, x_fe2, x_fe3, x_sq1, x_sq2, x_sq3, x_sk, x_st1, x_st2, x_sr1, x_sr2, x_in1, x_in2, x_sf1, x_sf2, x_sf3, x_rt1, x_rt2, x_rz1, x_rz2, x_rj1, x_rj2, x_rv, x_ue, x_pf1, x_pf2, x_pf3, x_pz1, x_pz2, x_pz3, x_as1, x_as2, x_as3, x_as4, x_bs1, x_bs2, x_bs3, x_bs4, x_zs1, x_zs2, x_zs3, x_zs4, x_uf1, x_uf2, x_uf3, x_uf4, x_uf5, x_ua1, x_ua2, x_ua3, x_ua4, x_ua5, x_ua6, x_cp1, x_cp2, x_cp3, x_sw1, x_sw2, x_sw3, b_t, b_f, b_a, b_o, b_n, b_i, pu_e, w_d, ex_0, ex_i, ex_r, ex_j, ol_ent, List.length_cons, List.length_nil, List.replicate, List.cons_append, List.nil_append, rcv_r, ls_0, ls_i, ls_r, ls_j, ol_lt, ol_le, ol_gt, ol_ge, ol_eq, ol_ne, v_in, v_out, v_isBall, v_isHand, v_shotM, v_shotC, ol_min, ol_max, Bool.and_true, Bool.true_and, Bool.and_false, Bool.false_and, Bool.or_true, Bool.true_or, Bool.or_false, Bool.false_or, if_pos, if_neg, not_true_eq_false, not_false_eq_true, decide_true, decide_false, List.getElem?_cons_zero, List.getElem?_cons_succ, e_add, e_sub, e_mul, e_div, e_rem, ↓reduceIte, reduceIte, Int.reduceAdd, Int.reduceMul, Int.reduceSub, Int.reduceNeg, Int.reduceLT, Int.reduceLE, Int.reduceEq, Int.reduceToNat, Nat.reduceAdd, Nat.reduceSub, Nat.reduceMul, Nat.reduceLeDiff, Nat.reduceLT, Nat.reduceEqDiff, ite_true, ite_false, if_true, if_false, Bool.false_eq_true, Bool.not_true, Bool.not_false, Int.toNat_natCast, true_and, and_true, true_or, or_true, and_self, or_self, or_false, false_or, false_and, and_false, Int.neg_neg, Int.neg_zero, Nat.add_zero, Nat.zero_add, Int.zero_add, Int.add_zero, Int.sub_zero, Int.zero_sub, Int.one_ne_zero, wX11_evening_0c, evL])
    (by
      rintro r L g' hr ⟨⟨x4, x5, rfl⟩, p⟩
      have ek : (r : Int) + 1 = ((r + 1 : Nat) : Int) := by omega
      obtain ⟨g2, y5, e2, q2⟩ := inner r g' x5 hr p
      unfold evL at e2
      have hx : wX11_evening_0b (evL (n : Int) (E (sz * r)).2.2.2.1 (.inl (r : Int)) x4 x5) (pb g' t, 0, 0) = some (none, evL (n : Int) (E (sz * (r + 1))).2.2.2.1 (.inl ((r + 1 : Nat) : Int)) (.inl (sz : Int)) y5, (pb g2 t, 0, 0)) := by
        clear p q2 hR0 hok hEs inner
        generalize (E (sz * r)).2.2.2.1 = a1 at *
        generalize (E (sz * (r + 1))).2.2.2.1 = a2 at *
        simp (disch := (first | with_reducible assumption | omega)) only [x_c, x_fi, x_fr, x_fj, x_vi, x_vr, x_vj, x_fi1, x_fi2, x_fr1, x_fr2, x_fj1, x_fj2, x_ai1, x_ai2, x_ai3, x_ar1, x_ar2, x_ar3, x_t1, x_t2, x_t3, x_t4, x_21, x_22, x_23, x_24, x_n1, x_n2, x_ji1, x_ji2, x_jc, x_j21, x_j22, x_j23, x_js1, x_js2, x_js3, x_ij1, x_ij2, x_ib1, x_ib2, x_c21, x_c22, x_c23, x_cz1, x_cz2, x_an1, x_an2, x_an3, x_or1, x_or2, x_or3, x_nt1, x_nt2, x_anm, x_orm, x_anm0, x_orm0, x_if1, x_if2, x_if3, x_ifm, x_ifm0, x_cf1, x_cf2, x_cf3, x_cfm, x_cfm0, x_a0, x_pi1, x_pi2, x_pr1, x_pr2, x_pj1, x_pj2, x_av, x_cv1, x_cv2, x_cv3, x_cs1, x_cs2, x_cl, x_of1, x_of2, x_so1, x_so2, x_fe1, x_fe2, x_fe3, x_sq1, x_sq2, x_sq3, x_sk, x_st1, x_st2, x_sr1, x_sr2, x_in1, x_in2, x_sf1, x_sf2, x_sf3, x_rt1, x_rt2, x_rz1, x_rz2, x_rj1, x_rj2, x_rv, x_ue, x_pf1, x_pf2, x_pf3, x_pz1, x_pz2, x_pz3, x_as1, x_as2, x_as3, x_as4, x_bs1, x_bs2, x_bs3, x_bs4, x_zs1, x_zs2, x_zs3, x_zs4, x_uf1, x_uf2, x_uf3, x_uf4, x_uf5, x_ua1, x_ua2, x_ua3, x_ua4, x_ua5, x_ua6, x_cp1, x_cp2, x_cp3, x_sw1, x_sw2, x_sw3, b_t, b_f, b_a, b_o, b_n, b_i, pu_e, w_d, ex_0, ex_i, ex_r, ex_j, ol_ent, List.length_cons, List.length_nil, List.replicate, List.cons_append, List.nil_append, rcv_r, ls_0, ls_i, ls_r, ls_j, ol_lt, ol_le, ol_gt, ol_ge, ol_eq, ol_ne, v_in, v_out, v_isBall, v_isHand, v_shotM, v_shotC, ol_min, ol_max, Bool.and_true, Bool.true_and, Bool.and_false, Bool.false_and, Bool.or_true, Bool.true_or, Bool.or_false, Bool.false_or, if_pos, if_neg, not_true_eq_false, not_false_eq_true, decide_true, decide_false, List.getElem?_cons_zero, List.getElem?_cons_succ, e_add, e_sub, e_mul, e_div, e_rem, ↓reduceIte, reduceIte, Int.reduceAdd, Int.reduceMul, Int.reduceSub, Int.reduceNeg, Int.reduceLT, Int.reduceLE, Int.reduceEq, Int.reduceToNat, Nat.reduceAdd, Nat.reduceSub, Nat.reduceMul, Nat.reduceLeDiff, Nat.reduceLT, Nat.reduceEqDiff, ite_true, ite_false, if_true, if_false, Bool.false_eq_true, Bool.not_true, Bool.not_false, Int.toNat_natCast, true_and, and_true, true_or, or_true, and_self, or_self, or_false, false_or, false_and, and_false, Int.neg_neg, Int.neg_zero, Nat.add_zero, Nat.zero_add, Int.zero_add, Int.add_zero, Int.sub_zero, Int.zero_sub, Int.one_ne_zero, wX11_evening_0b, evL, e2, ek]
      exact ⟨_, g2, hx, ⟨_, _, rfl⟩, q2⟩) (L := evL (n : Int) 0 (.inl 0) (.inr (.inl none)) (.inr (.inl none))) ⟨⟨_, _, by rw [Nat.mul_zero, hE0]; rfl⟩, by rw [Nat.mul_zero]; exact hR0⟩
  exact ⟨g', _, y4, y5, e, q1⟩
set_option maxHeartbeats 200000 in
theorem e1_l {K W : Nat → Int} (hK : kwOk K W) {S : eT} {m : Nat} (h : eOk S m) {q : Nat} (hq : q < 4) : 0 ≤ (e1 K W q S).2.2.2.2 7 ∧ (e1 K W q S).2.2.2.2 7 ≤ 1023 ∧ 0 ≤ (e1 K W q S).2.2.2.2 4 ∧ (e1 K W q S).2.2.2.2 4 ≤ 9 ∧ 0 ≤ (e1 K W q S).2.2.2.2 5 ∧ (e1 K W q S).2.2.2.2 5 ≤ 20 ∧ 0 ≤ (e1 K W q S).2.2.2.2 6 ∧ (e1 K W q S).2.2.2.2 6 ≤ 20 := by
  have hs := eSh hK h hq
  have ho := tT_ok hs 20 (Nat.le_refl _)
  unfold tOk at ho
  have hb : ePn K W S.1 (S.2.1 q) < 1024 := pF_b hs
  show 0 ≤ (ePn K W S.1 (S.2.1 q) : Int) ∧ (ePn K W S.1 (S.2.1 q) : Int) ≤ 1023 ∧ 0 ≤ eTt K S.1 (S.2.1 q) 4 ∧ eTt K S.1 (S.2.1 q) 4 ≤ 9 ∧ 0 ≤ eTt K S.1 (S.2.1 q) 5 ∧ eTt K S.1 (S.2.1 q) 5 ≤ 20 ∧ 0 ≤ eTt K S.1 (S.2.1 q) 6 ∧ eTt K S.1 (S.2.1 q) 6 ≤ 20
  unfold eTt
  omega
set_option maxHeartbeats 200000 in
theorem k_evening {g : pg} {t : pt} (hI : Inv g t) (n : Int) : ag Inv fX10_evening fX11_evening g t [.inl n] := by
  by_cases hn : 1 ≤ n ∧ n ≤ 20
  · have hI0 := hI
    obtain ⟨h1, h2, h3, h4, h5, h6, h7, h8, h9, h10, h11, h12⟩ := hI
    obtain ⟨n, rfl⟩ : ∃ m : Nat, n = (m : Int) := ⟨n.toNat, by omega⟩
    obtain ⟨t1, t2, t3, t4⟩ := h4
    obtain ⟨sz, hsz⟩ : ∃ m : Nat, g 7 2 = (m : Int) := ⟨(g 7 2).toNat, by omega⟩
    obtain ⟨g1, e1', f1, f2⟩ := v_first (g := g) (t := t)
    -- the class, with the flag set where there are throwers
    have hflag : ∃ gf, (gf = if 0 < sz then pu g1 0 16 1 else g1) ∧ ∀ x j, ¬ (x = 43 ∨ (x = 0 ∧ j = 16)) → gf x j = g x j := by
      refine ⟨_, rfl, fun x j h => ?_⟩
      split
      · rw [pr_ne (by omega), f2 _ _ (by omega)]
      · exact f2 _ _ (by omega)
    obtain ⟨gf, hgf, hgff⟩ := hflag
    have hg43 : ∀ k, k < 4 → gf 43 k = (k : Int) := by
      intro k hk
      rw [hgf]
      split
      · rw [pr_ne (by omega)]; exact f1 k hk
      · exact f1 k hk
    have hg16 : gf 0 16 = if 0 < sz then 1 else g 0 16 := by
      rw [hgf]
      split
      · rw [pr_eq]
      · rw [f2 _ _ (by omega)]
    have hKW : kwOk (fun k => g (53 + k) 0) (fun k => g (53 + k) 1) := fun k hk => by
      obtain ⟨b1, b2, b3, b4, -⟩ := h6 k hk
      exact ⟨b1, b2, b3, b4⟩
    have hX : ∀ t, t < 4 → thOK (gf (7 + 4 + t)) := fun t' ht => by
      have := (t4 t' ht).1
      unfold thOK
      rw [hgff _ _ (by omega), hgff _ _ (by omega), hgff _ _ (by omega), hgff _ _ (by omega), hgff _ _ (by omega), hgff _ _ (by omega)]
      exact this
    obtain ⟨g2, e2, c1, c2, c3, ⟨c4, c4'⟩, c5⟩ := v_play (A := 7) (d := 25) (Or.inl rfl) (by decide) (by decide) (Or.inl rfl) (by decide) (by decide) (G := gf) (t := t) hKW (fun k hk => ⟨hgff _ _ (by omega), hgff _ _ (by omega)⟩) (fun j hj => by rw [hgff _ _ (by omega)]; exact ⟨(h2 j hj).1, (h2 j hj).2.1⟩) hX (n := n) (sz := sz) (by omega) (by omega) (by rw [hgff _ _ (by omega)]; exact hsz) (π := fun k => k) (fun k hk => ⟨by omega, hg43 k (by omega)⟩)
    have h0 : eOk (eS0 (gf (7 + 2)) (fun t => gf (7 + 4 + t))) 0 := ⟨fun j hj => by show 0 ≤ gf 9 j ∧ gf 9 j ≤ 99; rw [hgff _ _ (by omega)]; exact ⟨(h2 j hj).1, (h2 j hj).2.1⟩, hX, fun t _ => by show (0 : Int) ≤ 0 ∧ (0 : Int) ≤ 10 * ((0 : Nat) : Int); omega, by show (0 : Int) ≤ 0; omega, by show (0 : Int) ≤ 10 * ((0 : Nat) : Int); omega⟩
    have hok : ∀ m, m ≤ sz * n → eOk (eS (fun k => g (53 + k) 0) (fun k => g (53 + k) 1) (fun m => m % sz) (eS0 (gf (7 + 2)) (fun t => gf (7 + 4 + t))) m) m := fun m hm => eS_ok hKW h0 m (fun i hi => by
      have : 0 < sz := by
        rcases Nat.eq_zero_or_pos sz with h | h
        · rw [h, Nat.zero_mul] at hm; omega
        · exact h
      have := Nat.mod_lt i this
      omega)
    have hEs : ∀ m, eS (fun k => g (53 + k) 0) (fun k => g (53 + k) 1) (fun m => m % sz) (eS0 (gf (7 + 2)) (fun t => gf (7 + 4 + t))) (m + 1) = e1 (fun k => g (53 + k) 0) (fun k => g (53 + k) 1) (m % sz) (eS (fun k => g (53 + k) 0) (fun k => g (53 + k) 1) (fun m => m % sz) (eS0 (gf (7 + 2)) (fun t => gf (7 + 4 + t))) m) := fun m => eS_s _ _ _ _ _
    have hEz : eS (fun k => g (53 + k) 0) (fun k => g (53 + k) 1) (fun m => m % sz) (eS0 (gf (7 + 2)) (fun t => gf (7 + 4 + t))) 0 = eS0 (gf (7 + 2)) (fun t => gf (7 + 4 + t)) := rfl
    change fX2_playRounds _ _ = some (some (.inl (eS (fun k => g (53 + k) 0) (fun k => g (53 + k) 1) (fun m => m % sz) (eS0 (gf (7 + 2)) (fun t => gf (7 + 4 + t))) (sz * n)).2.2.2.1), _) at e2
    change ∀ j, j < 780 → g2 (7 + 2) j = (eS (fun k => g (53 + k) 0) (fun k => g (53 + k) 1) (fun m => m % sz) (eS0 (gf (7 + 2)) (fun t => gf (7 + 4 + t))) (sz * n)).1 j at c1
    change ∀ t f, t < 4 → f < 6 → g2 (7 + 4 + t) f = (eS (fun k => g (53 + k) 0) (fun k => g (53 + k) 1) (fun m => m % sz) (eS0 (gf (7 + 2)) (fun t => gf (7 + 4 + t))) (sz * n)).2.1 t f at c2
    change 0 < sz * n → ∀ f, 1 ≤ f → f ≤ 7 → g2 25 f = (eS (fun k => g (53 + k) 0) (fun k => g (53 + k) 1) (fun m => m % sz) (eS0 (gf (7 + 2)) (fun t => gf (7 + 4 + t))) (sz * n)).2.2.2.2 f at c4
    generalize hE : eS (fun k => g (53 + k) 0) (fun k => g (53 + k) 1) (fun m => m % sz) (eS0 (gf (7 + 2)) (fun t => gf (7 + 4 + t))) = E at *
    have s2 : ∀ x j, ¬ ((x = 9 ∧ j < 780) ∨ (11 ≤ x ∧ x ≤ 14) ∨ x = 44 ∨ (25 ≤ x ∧ x ≤ 27) ∨ x = 43 ∨ (x = 0 ∧ j = 16)) → g2 x j = g x j := fun x j h => by
      rw [c5 x j (by omega), hgff x j (by omega)]
    have hRf : rRf g2 := by
      have := rRf_I h11
      exact ⟨fun j hj => by rw [s2 _ _ (by omega)]; exact this.1 j hj, fun j hj => by rw [s2 _ _ (by omega)]; exact this.2 j hj⟩
    obtain ⟨g3, x3, x4, x5, e3, r1, r2, ⟨r3, r3'⟩, r4⟩ := v_evenM (G := g2) (t := t) hRf (by rw [s2 _ _ (by omega)]; exact h11.1) hKW (fun k hk => by
      obtain ⟨b1, b2, b3, b4, b5, b6⟩ := h6 k hk
      rw [s2 _ _ (by omega), s2 _ _ (by omega)]; exact ⟨b5, b6⟩) (E := E) (n := n) (sz := sz) (by omega) (by omega) (by rw [s2 _ _ (by omega), t3]; exact hsz) hEs hok ⟨fun j hj => by
        rw [s2 _ _ (by omega), hEz, (h2 j hj).2.2]
        show g 9 j = gf 9 j
        rw [hgff _ _ (by omega)], fun t' f ht hf => by
        rw [s2 _ _ (by omega), hEz]
        show _ = gf (11 + t') f
        have := (t4 t' ht).2 f hf
        rw [Nat.zero_add] at this
        rw [hgff _ _ (by omega)]; exact this, ⟨fun h => absurd h (by omega), fun _ => ⟨fun _ => rfl, rfl⟩⟩, fun _ _ _ => rfl⟩ (by rw [hEz]; rfl)
    unfold evL at e3
    refine ⟨(E (sz * n)).2.2.2.1, g2, t, g3, t, ?_, ?_, ?_⟩
    · clear r1 r2 r3 r3' r4 c1 c2 c3 c4 c4' hEs hok hE
      generalize (E (sz * n)).2.2.2.1 = aa at *
      have q7 : g1 7 2 = (sz : Int) := by rw [f2 _ _ (by omega)]; exact hsz
      by_cases hz : 0 < sz
      · rw [if_pos hz] at hgf
        subst hgf
        simp (disch := (first | with_reducible assumption | omega)) only [x_c, x_fi, x_fr, x_fj, x_vi, x_vr, x_vj, x_fi1, x_fi2, x_fr1, x_fr2, x_fj1, x_fj2, x_ai1, x_ai2, x_ai3, x_ar1, x_ar2, x_ar3, x_t1, x_t2, x_t3, x_t4, x_21, x_22, x_23, x_24, x_n1, x_n2, x_ji1, x_ji2, x_jc, x_j21, x_j22, x_j23, x_js1, x_js2, x_js3, x_ij1, x_ij2, x_ib1, x_ib2, x_c21, x_c22, x_c23, x_cz1, x_cz2, x_an1, x_an2, x_an3, x_or1, x_or2, x_or3, x_nt1, x_nt2, x_anm, x_orm, x_anm0, x_orm0, x_if1, x_if2, x_if3, x_ifm, x_ifm0, x_cf1, x_cf2, x_cf3, x_cfm, x_cfm0, x_a0, x_pi1, x_pi2, x_pr1, x_pr2, x_pj1, x_pj2, x_av, x_cv1, x_cv2, x_cv3, x_cs1, x_cs2, x_cl, x_of1, x_of2, x_so1, x_so2, x_fe1, x_fe2, x_fe3, x_sq1, x_sq2, x_sq3, x_sk, x_st1, x_st2, x_sr1, x_sr2, x_in1, x_in2, x_sf1, x_sf2, x_sf3, x_rt1, x_rt2, x_rz1, x_rz2, x_rj1, x_rj2, x_rv, x_ue, x_pf1, x_pf2, x_pf3, x_pz1, x_pz2, x_pz3, x_as1, x_as2, x_as3, x_as4, x_bs1, x_bs2, x_bs3, x_bs4, x_zs1, x_zs2, x_zs3, x_zs4, x_uf1, x_uf2, x_uf3, x_uf4, x_uf5, x_ua1, x_ua2, x_ua3, x_ua4, x_ua5, x_ua6, x_cp1, x_cp2, x_cp3, x_sw1, x_sw2, x_sw3, b_t, b_f, b_a, b_o, b_n, b_i, pu_e, w_d, ex_0, ex_i, ex_r, ex_j, ol_ent, List.length_cons, List.length_nil, List.replicate, List.cons_append, List.nil_append, rcv_r, ls_0, ls_i, ls_r, ls_j, ol_lt, ol_le, ol_gt, ol_ge, ol_eq, ol_ne, v_in, v_out, v_isBall, v_isHand, v_shotM, v_shotC, ol_min, ol_max, Bool.and_true, Bool.true_and, Bool.and_false, Bool.false_and, Bool.or_true, Bool.true_or, Bool.or_false, Bool.false_or, if_pos, if_neg, not_true_eq_false, not_false_eq_true, decide_true, decide_false, f0_0, f0_1, f0_2, f0_3, f0_4, f0_5, f0_6, f0_7, f0_8, f0_9, f0_10, f0_11, f0_12, f0_13, f0_14, f0_15, p0_15, f0_16, p0_16, f0_17, c0, f7_0, f7_1, f7_2, p7_2, c7, List.getElem?_cons_zero, List.getElem?_cons_succ, e_add, e_sub, e_mul, e_div, e_rem, ↓reduceIte, reduceIte, Int.reduceAdd, Int.reduceMul, Int.reduceSub, Int.reduceNeg, Int.reduceLT, Int.reduceLE, Int.reduceEq, Int.reduceToNat, Nat.reduceAdd, Nat.reduceSub, Nat.reduceMul, Nat.reduceLeDiff, Nat.reduceLT, Nat.reduceEqDiff, ite_true, ite_false, if_true, if_false, Bool.false_eq_true, Bool.not_true, Bool.not_false, Int.toNat_natCast, true_and, and_true, true_or, or_true, and_self, or_self, or_false, false_or, false_and, and_false, Int.neg_neg, Int.neg_zero, Nat.add_zero, Nat.zero_add, Int.zero_add, Int.add_zero, Int.sub_zero, Int.zero_sub, Int.one_ne_zero, fX10_evening, bX10_evening, e1', q7, e2]
      · rw [if_neg hz] at hgf
        subst hgf
        simp (disch := (first | with_reducible assumption | omega)) only [x_c, x_fi, x_fr, x_fj, x_vi, x_vr, x_vj, x_fi1, x_fi2, x_fr1, x_fr2, x_fj1, x_fj2, x_ai1, x_ai2, x_ai3, x_ar1, x_ar2, x_ar3, x_t1, x_t2, x_t3, x_t4, x_21, x_22, x_23, x_24, x_n1, x_n2, x_ji1, x_ji2, x_jc, x_j21, x_j22, x_j23, x_js1, x_js2, x_js3, x_ij1, x_ij2, x_ib1, x_ib2, x_c21, x_c22, x_c23, x_cz1, x_cz2, x_an1, x_an2, x_an3, x_or1, x_or2, x_or3, x_nt1, x_nt2, x_anm, x_orm, x_anm0, x_orm0, x_if1, x_if2, x_if3, x_ifm, x_ifm0, x_cf1, x_cf2, x_cf3, x_cfm, x_cfm0, x_a0, x_pi1, x_pi2, x_pr1, x_pr2, x_pj1, x_pj2, x_av, x_cv1, x_cv2, x_cv3, x_cs1, x_cs2, x_cl, x_of1, x_of2, x_so1, x_so2, x_fe1, x_fe2, x_fe3, x_sq1, x_sq2, x_sq3, x_sk, x_st1, x_st2, x_sr1, x_sr2, x_in1, x_in2, x_sf1, x_sf2, x_sf3, x_rt1, x_rt2, x_rz1, x_rz2, x_rj1, x_rj2, x_rv, x_ue, x_pf1, x_pf2, x_pf3, x_pz1, x_pz2, x_pz3, x_as1, x_as2, x_as3, x_as4, x_bs1, x_bs2, x_bs3, x_bs4, x_zs1, x_zs2, x_zs3, x_zs4, x_uf1, x_uf2, x_uf3, x_uf4, x_uf5, x_ua1, x_ua2, x_ua3, x_ua4, x_ua5, x_ua6, x_cp1, x_cp2, x_cp3, x_sw1, x_sw2, x_sw3, b_t, b_f, b_a, b_o, b_n, b_i, pu_e, w_d, ex_0, ex_i, ex_r, ex_j, ol_ent, List.length_cons, List.length_nil, List.replicate, List.cons_append, List.nil_append, rcv_r, ls_0, ls_i, ls_r, ls_j, ol_lt, ol_le, ol_gt, ol_ge, ol_eq, ol_ne, v_in, v_out, v_isBall, v_isHand, v_shotM, v_shotC, ol_min, ol_max, Bool.and_true, Bool.true_and, Bool.and_false, Bool.false_and, Bool.or_true, Bool.true_or, Bool.or_false, Bool.false_or, if_pos, if_neg, not_true_eq_false, not_false_eq_true, decide_true, decide_false, f0_0, f0_1, f0_2, f0_3, f0_4, f0_5, f0_6, f0_7, f0_8, f0_9, f0_10, f0_11, f0_12, f0_13, f0_14, f0_15, p0_15, f0_16, p0_16, f0_17, c0, f7_0, f7_1, f7_2, p7_2, c7, List.getElem?_cons_zero, List.getElem?_cons_succ, e_add, e_sub, e_mul, e_div, e_rem, ↓reduceIte, reduceIte, Int.reduceAdd, Int.reduceMul, Int.reduceSub, Int.reduceNeg, Int.reduceLT, Int.reduceLE, Int.reduceEq, Int.reduceToNat, Nat.reduceAdd, Nat.reduceSub, Nat.reduceMul, Nat.reduceLeDiff, Nat.reduceLT, Nat.reduceEqDiff, ite_true, ite_false, if_true, if_false, Bool.false_eq_true, Bool.not_true, Bool.not_false, Int.toNat_natCast, true_and, and_true, true_or, or_true, and_self, or_self, or_false, false_or, false_and, and_false, Int.neg_neg, Int.neg_zero, Nat.add_zero, Nat.zero_add, Int.zero_add, Int.add_zero, Int.sub_zero, Int.zero_sub, Int.one_ne_zero, fX10_evening, bX10_evening, e1', q7, e2]
    · clear r1 r2 r3 r3' r4 c1 c2 c3 c4 c4' hEs hok hE
      generalize (E (sz * n)).2.2.2.1 = aa at *
      simp (disch := (first | with_reducible assumption | omega)) only [x_c, x_fi, x_fr, x_fj, x_vi, x_vr, x_vj, x_fi1, x_fi2, x_fr1, x_fr2, x_fj1, x_fj2, x_ai1, x_ai2, x_ai3, x_ar1, x_ar2, x_ar3, x_t1, x_t2, x_t3, x_t4, x_21, x_22, x_23, x_24, x_n1, x_n2, x_ji1, x_ji2, x_jc, x_j21, x_j22, x_j23, x_js1, x_js2, x_js3, x_ij1, x_ij2, x_ib1, x_ib2, x_c21, x_c22, x_c23, x_cz1, x_cz2, x_an1, x_an2, x_an3, x_or1, x_or2, x_or3, x_nt1, x_nt2, x_anm, x_orm, x_anm0, x_orm0, x_if1, x_if2, x_if3, x_ifm, x_ifm0, x_cf1, x_cf2, x_cf3, x_cfm, x_cfm0, x_a0, x_pi1, x_pi2, x_pr1, x_pr2, x_pj1, x_pj2, x_av, x_cv1, x_cv2, x_cv3, x_cs1, x_cs2, x_cl, x_of1, x_of2, x_so1, x_so2, x_fe1, x_fe2, x_fe3, x_sq1, x_sq2, x_sq3, x_sk, x_st1, x_st2, x_sr1, x_sr2, x_in1, x_in2, x_sf1, x_sf2, x_sf3, x_rt1, x_rt2, x_rz1, x_rz2, x_rj1, x_rj2, x_rv, x_ue, x_pf1, x_pf2, x_pf3, x_pz1, x_pz2, x_pz3, x_as1, x_as2, x_as3, x_as4, x_bs1, x_bs2, x_bs3, x_bs4, x_zs1, x_zs2, x_zs3, x_zs4, x_uf1, x_uf2, x_uf3, x_uf4, x_uf5, x_ua1, x_ua2, x_ua3, x_ua4, x_ua5, x_ua6, x_cp1, x_cp2, x_cp3, x_sw1, x_sw2, x_sw3, b_t, b_f, b_a, b_o, b_n, b_i, pu_e, w_d, ex_0, ex_i, ex_r, ex_j, ol_ent, List.length_cons, List.length_nil, List.replicate, List.cons_append, List.nil_append, rcv_r, ls_0, ls_i, ls_r, ls_j, ol_lt, ol_le, ol_gt, ol_ge, ol_eq, ol_ne, v_in, v_out, v_isBall, v_isHand, v_shotM, v_shotC, ol_min, ol_max, Bool.and_true, Bool.true_and, Bool.and_false, Bool.false_and, Bool.or_true, Bool.true_or, Bool.or_false, Bool.false_or, if_pos, if_neg, not_true_eq_false, not_false_eq_true, decide_true, decide_false, f75_0, f75_1, f75_2, p75_2, f75_3, f75_4, p75_4, f75_5, p75_5, f75_6, p75_6, f75_7, p75_7, f75_8, p75_8, f75_9, p75_9, f75_10, f75_11, f75_12, p75_12, f75_13, p75_13, f75_14, p75_14, f75_15, p75_15, f75_16, p75_16, f75_17, p75_17, f75_18, p75_18, f75_19, p75_19, f75_20, f75_21, f75_22, f75_23, p75_23, f75_24, p75_24, f75_25, p75_25, f75_26, f75_27, f75_28, p75_28, f75_29, p75_29, f75_30, p75_30, f75_31, p75_31, f75_32, f75_33, f75_34, p75_34, f75_35, f75_36, f75_37, f75_38, p75_38, f75_39, f75_40, f75_41, c75, List.getElem?_cons_zero, List.getElem?_cons_succ, e_add, e_sub, e_mul, e_div, e_rem, ↓reduceIte, reduceIte, Int.reduceAdd, Int.reduceMul, Int.reduceSub, Int.reduceNeg, Int.reduceLT, Int.reduceLE, Int.reduceEq, Int.reduceToNat, Nat.reduceAdd, Nat.reduceSub, Nat.reduceMul, Nat.reduceLeDiff, Nat.reduceLT, Nat.reduceEqDiff, ite_true, ite_false, if_true, if_false, Bool.false_eq_true, Bool.not_true, Bool.not_false, Int.toNat_natCast, true_and, and_true, true_or, or_true, and_self, or_self, or_false, false_or, false_and, and_false, Int.neg_neg, Int.neg_zero, Nat.add_zero, Nat.zero_add, Int.zero_add, Int.add_zero, Int.sub_zero, Int.zero_sub, Int.one_ne_zero, fX11_evening, eX11_evening, e3]
    · have hF : ∀ x j, ¬ ((x = 9 ∧ j < 780) ∨ (11 ≤ x ∧ x ≤ 14) ∨ x = 44 ∨ (25 ≤ x ∧ x ≤ 27) ∨ x = 43 ∨ (x = 0 ∧ j = 16) ∨ (x = 75 ∧ ((12 ≤ j ∧ j ≤ 18) ∨ j = 23 ∨ j = 24 ∨ j = 25)) ∨ (x = 77 ∧ j < 780) ∨ x = 82 ∨ x = 83 ∨ (x = 87 ∧ j < 24)) → g3 x j = g x j := by
        intro x j hx
        rw [r4 x j (by omega), s2 x j (by omega)]
      have hoE := hok (sz * n) (Nat.le_refl _)
      have hln : I_ln g3 := by
        intro j hj
        have e9 : g3 9 j = (E (sz * n)).1 j := by rw [r4 _ _ (by omega)]; exact c1 j hj
        rw [e9, r1 j hj]
        exact ⟨(hoE.1 j hj).1, (hoE.1 j hj).2, rfl⟩
      have h4' : I_th g3 := by
        have e7 : g3 7 2 = g 7 2 := hF _ _ (by omega)
        have ec : ∀ k f, k < 4 → f < 6 → g3 (11 + k) f = (E (sz * n)).2.1 k f := fun k f hk hf => by rw [r4 _ _ (by omega)]; exact c2 k f hk hf
        refine ⟨by omega, by omega, by rw [e7, hF 75 34 (by omega)]; exact t3, fun k hk => ⟨?_, fun f hf => ?_⟩⟩
        · rw [ec k 0 hk (by decide), ec k 1 hk (by decide), ec k 2 hk (by decide), ec k 3 hk (by decide), ec k 4 hk (by decide), ec k 5 hk (by decide)]
          exact hoE.2.1 k hk
        · rw [ec k f hk hf, Nat.zero_add]
          exact r2 k f hk hf
      have hlt : I_lt g3 := by
        have e0 : g3 0 16 = gf 0 16 := by rw [r4 _ _ (by omega), c5 _ _ (by omega)]
        rw [hg16] at e0
        rcases Nat.eq_zero_or_pos sz with hz | hz
        · rw [hz, if_neg (by omega)] at e0
          have hz0 : sz * n = 0 := by rw [hz, Nat.zero_mul]
          obtain ⟨r5, r6⟩ := r3' hz0
          have c6 := c4' hz0
          refine h7.cg (fun x j q => ?_)
          unfold D_lt at q
          rcases q with ⟨rfl, rfl⟩ | ⟨rfl, rfl⟩ | rfl | rfl
          · exact e0
          · rw [r6, s2 _ _ (by omega)]
          · rw [r4 _ _ (by omega), c6 _ _ (by omega) (by omega), hgff _ _ (by omega)]
          · rw [r5 j, s2 _ _ (by omega)]
        · rw [if_pos hz] at e0
          have hpos : 0 < sz * n := Nat.mul_pos hz (by omega)
          obtain ⟨r5, r6⟩ := r3 hpos
          have c6 := c4 hpos
          have e25 : ∀ f, 1 ≤ f → f ≤ 7 → g3 25 f = (E (sz * n)).2.2.2.2 f := fun f a b => by rw [r4 _ _ (by omega)]; exact c6 f a b
          obtain ⟨m, hm⟩ : ∃ m, sz * n = m + 1 := ⟨sz * n - 1, by omega⟩
          have hb := e1_l hKW (hok m (by omega)) (q := m % sz) (by have := Nat.mod_lt m hz; omega)
          rw [← hEs m, ← hm] at hb
          refine ⟨Or.inr e0, by rw [e0]; exact r6, fun _ => ⟨fun f hf => ?_, ?_⟩⟩
          · rw [r5 f hf, e25 (f + 1) (by omega) (by omega)]
          · rw [e25 7 (by decide) (by decide), e25 4 (by decide) (by decide), e25 5 (by decide) (by decide), e25 6 (by decide) (by decide)]
            exact hb
      exact ⟨h1.cg (fun x j q => hF x j (by unfold D_tx at q; omega)), hln, h3.cg (fun x j q => hF x j (by unfold D_pt at q; omega)), h4', h5.cg (fun x j q => hF x j (by unfold D_im at q; omega)), h6.cg (fun x j q => hF x j (by unfold D_bl at q; omega)), hlt, h8.cg (fun x j q => hF x j (by unfold D_gm at q; omega)), h9.cg (fun x j q => hF x j (by unfold D_hd at q; omega)), h10.cg (fun x j q => hF x j (by unfold D_cl at q; omega)), h11.cg (fun x j q => hF x j (by unfold D_rf at q; omega)), h12⟩
  · refine ⟨-1, g, t, g, t, ?_, ?_, hI⟩
    · simp (disch := (first | with_reducible assumption | omega)) only [x_c, x_fi, x_fr, x_fj, x_vi, x_vr, x_vj, x_fi1, x_fi2, x_fr1, x_fr2, x_fj1, x_fj2, x_ai1, x_ai2, x_ai3, x_ar1, x_ar2, x_ar3, x_t1, x_t2, x_t3, x_t4, x_21, x_22, x_23, x_24, x_n1, x_n2, x_ji1, x_ji2, x_jc, x_j21, x_j22, x_j23, x_js1, x_js2, x_js3, x_ij1, x_ij2, x_ib1, x_ib2, x_c21, x_c22, x_c23, x_cz1, x_cz2, x_an1, x_an2, x_an3, x_or1, x_or2, x_or3, x_nt1, x_nt2, x_anm, x_orm, x_anm0, x_orm0, x_if1, x_if2, x_if3, x_ifm, x_ifm0, x_cf1, x_cf2, x_cf3, x_cfm, x_cfm0, x_a0, x_pi1, x_pi2, x_pr1, x_pr2, x_pj1, x_pj2, x_av, x_cv1, x_cv2, x_cv3, x_cs1, x_cs2, x_cl, x_of1, x_of2, x_so1, x_so2, x_fe1, x_fe2, x_fe3, x_sq1, x_sq2, x_sq3, x_sk, x_st1, x_st2, x_sr1, x_sr2, x_in1, x_in2, x_sf1, x_sf2, x_sf3, x_rt1, x_rt2, x_rz1, x_rz2, x_rj1, x_rj2, x_rv, x_ue, x_pf1, x_pf2, x_pf3, x_pz1, x_pz2, x_pz3, x_as1, x_as2, x_as3, x_as4, x_bs1, x_bs2, x_bs3, x_bs4, x_zs1, x_zs2, x_zs3, x_zs4, x_uf1, x_uf2, x_uf3, x_uf4, x_uf5, x_ua1, x_ua2, x_ua3, x_ua4, x_ua5, x_ua6, x_cp1, x_cp2, x_cp3, x_sw1, x_sw2, x_sw3, b_t, b_f, b_a, b_o, b_n, b_i, pu_e, w_d, ex_0, ex_i, ex_r, ex_j, ol_ent, List.length_cons, List.length_nil, List.replicate, List.cons_append, List.nil_append, rcv_r, ls_0, ls_i, ls_r, ls_j, ol_lt, ol_le, ol_gt, ol_ge, ol_eq, ol_ne, v_in, v_out, v_isBall, v_isHand, v_shotM, v_shotC, ol_min, ol_max, Bool.and_true, Bool.true_and, Bool.and_false, Bool.false_and, Bool.or_true, Bool.true_or, Bool.or_false, Bool.false_or, if_pos, if_neg, not_true_eq_false, not_false_eq_true, decide_true, decide_false, f0_0, f0_1, f0_2, f0_3, f0_4, f0_5, f0_6, f0_7, f0_8, f0_9, f0_10, f0_11, f0_12, f0_13, f0_14, f0_15, p0_15, f0_16, p0_16, f0_17, c0, List.getElem?_cons_zero, List.getElem?_cons_succ, e_add, e_sub, e_mul, e_div, e_rem, ↓reduceIte, reduceIte, Int.reduceAdd, Int.reduceMul, Int.reduceSub, Int.reduceNeg, Int.reduceLT, Int.reduceLE, Int.reduceEq, Int.reduceToNat, Nat.reduceAdd, Nat.reduceSub, Nat.reduceMul, Nat.reduceLeDiff, Nat.reduceLT, Nat.reduceEqDiff, ite_true, ite_false, if_true, if_false, Bool.false_eq_true, Bool.not_true, Bool.not_false, Int.toNat_natCast, true_and, and_true, true_or, or_true, and_self, or_self, or_false, false_or, false_and, and_false, Int.neg_neg, Int.neg_zero, Nat.add_zero, Nat.zero_add, Int.zero_add, Int.add_zero, Int.sub_zero, Int.zero_sub, Int.one_ne_zero, fX10_evening, bX10_evening]
    · simp (disch := (first | with_reducible assumption | omega)) only [x_c, x_fi, x_fr, x_fj, x_vi, x_vr, x_vj, x_fi1, x_fi2, x_fr1, x_fr2, x_fj1, x_fj2, x_ai1, x_ai2, x_ai3, x_ar1, x_ar2, x_ar3, x_t1, x_t2, x_t3, x_t4, x_21, x_22, x_23, x_24, x_n1, x_n2, x_ji1, x_ji2, x_jc, x_j21, x_j22, x_j23, x_js1, x_js2, x_js3, x_ij1, x_ij2, x_ib1, x_ib2, x_c21, x_c22, x_c23, x_cz1, x_cz2, x_an1, x_an2, x_an3, x_or1, x_or2, x_or3, x_nt1, x_nt2, x_anm, x_orm, x_anm0, x_orm0, x_if1, x_if2, x_if3, x_ifm, x_ifm0, x_cf1, x_cf2, x_cf3, x_cfm, x_cfm0, x_a0, x_pi1, x_pi2, x_pr1, x_pr2, x_pj1, x_pj2, x_av, x_cv1, x_cv2, x_cv3, x_cs1, x_cs2, x_cl, x_of1, x_of2, x_so1, x_so2, x_fe1, x_fe2, x_fe3, x_sq1, x_sq2, x_sq3, x_sk, x_st1, x_st2, x_sr1, x_sr2, x_in1, x_in2, x_sf1, x_sf2, x_sf3, x_rt1, x_rt2, x_rz1, x_rz2, x_rj1, x_rj2, x_rv, x_ue, x_pf1, x_pf2, x_pf3, x_pz1, x_pz2, x_pz3, x_as1, x_as2, x_as3, x_as4, x_bs1, x_bs2, x_bs3, x_bs4, x_zs1, x_zs2, x_zs3, x_zs4, x_uf1, x_uf2, x_uf3, x_uf4, x_uf5, x_ua1, x_ua2, x_ua3, x_ua4, x_ua5, x_ua6, x_cp1, x_cp2, x_cp3, x_sw1, x_sw2, x_sw3, b_t, b_f, b_a, b_o, b_n, b_i, pu_e, w_d, ex_0, ex_i, ex_r, ex_j, ol_ent, List.length_cons, List.length_nil, List.replicate, List.cons_append, List.nil_append, rcv_r, ls_0, ls_i, ls_r, ls_j, ol_lt, ol_le, ol_gt, ol_ge, ol_eq, ol_ne, v_in, v_out, v_isBall, v_isHand, v_shotM, v_shotC, ol_min, ol_max, Bool.and_true, Bool.true_and, Bool.and_false, Bool.false_and, Bool.or_true, Bool.true_or, Bool.or_false, Bool.false_or, if_pos, if_neg, not_true_eq_false, not_false_eq_true, decide_true, decide_false, f75_0, f75_1, f75_2, p75_2, f75_3, f75_4, p75_4, f75_5, p75_5, f75_6, p75_6, f75_7, p75_7, f75_8, p75_8, f75_9, p75_9, f75_10, f75_11, f75_12, p75_12, f75_13, p75_13, f75_14, p75_14, f75_15, p75_15, f75_16, p75_16, f75_17, p75_17, f75_18, p75_18, f75_19, p75_19, f75_20, f75_21, f75_22, f75_23, p75_23, f75_24, p75_24, f75_25, p75_25, f75_26, f75_27, f75_28, p75_28, f75_29, p75_29, f75_30, p75_30, f75_31, p75_31, f75_32, f75_33, f75_34, p75_34, f75_35, f75_36, f75_37, f75_38, p75_38, f75_39, f75_40, f75_41, c75, List.getElem?_cons_zero, List.getElem?_cons_succ, e_add, e_sub, e_mul, e_div, e_rem, ↓reduceIte, reduceIte, Int.reduceAdd, Int.reduceMul, Int.reduceSub, Int.reduceNeg, Int.reduceLT, Int.reduceLE, Int.reduceEq, Int.reduceToNat, Nat.reduceAdd, Nat.reduceSub, Nat.reduceMul, Nat.reduceLeDiff, Nat.reduceLT, Nat.reduceEqDiff, ite_true, ite_false, if_true, if_false, Bool.false_eq_true, Bool.not_true, Bool.not_false, Int.toNat_natCast, true_and, and_true, true_or, or_true, and_self, or_self, or_false, false_or, false_and, and_false, Int.neg_neg, Int.neg_zero, Nat.add_zero, Nat.zero_add, Int.zero_add, Int.add_zero, Int.sub_zero, Int.zero_sub, Int.one_ne_zero, fX11_evening, eX11_evening]
