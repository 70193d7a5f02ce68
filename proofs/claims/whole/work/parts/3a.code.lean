/-! by program: what each method does, and that its code does it -/
theorem dX10_keep_0 : decode cX10_keep 0 = .ok (.iload_n 1, 1) := by decide +kernel
theorem dX10_keep_1 : decode cX10_keep 1 = .ok (.iconst 0, 1) := by decide +kernel
theorem dX10_keep_2 : decode cX10_keep 2 = .ok (.iconst 1, 1) := by decide +kernel
theorem dX10_keep_3 : decode cX10_keep 3 = .ok (.invokestatic 98, 3) := by decide +kernel
theorem dX10_keep_6 : decode cX10_keep 6 = .ok (.ifCond .eq 5, 3) := by decide +kernel
theorem dX10_keep_9 : decode cX10_keep 9 = .ok (.iconst (-1), 1) := by decide +kernel
theorem dX10_keep_10 : decode cX10_keep 10 = .ok (.ireturn, 1) := by decide +kernel
theorem dX10_keep_11 : decode cX10_keep 11 = .ok (.aload_n 0, 1) := by decide +kernel
theorem dX10_keep_12 : decode cX10_keep 12 = .ok (.getfield 38, 3) := by decide +kernel
theorem dX10_keep_15 : decode cX10_keep 15 = .ok (.iload_n 1, 1) := by decide +kernel
theorem dX10_keep_16 : decode cX10_keep 16 = .ok (.aaload, 1) := by decide +kernel
theorem dX10_keep_17 : decode cX10_keep 17 = .ok (.aload_n 0, 1) := by decide +kernel
theorem dX10_keep_18 : decode cX10_keep 18 = .ok (.getfield 31, 3) := by decide +kernel
theorem dX10_keep_21 : decode cX10_keep 21 = .ok (.invokevirtual 285, 3) := by decide +kernel
theorem dX10_keep_24 : decode cX10_keep 24 = .ok (.aload_n 0, 1) := by decide +kernel
theorem dX10_keep_25 : decode cX10_keep 25 = .ok (.getfield 42, 3) := by decide +kernel
theorem dX10_keep_28 : decode cX10_keep 28 = .ok (.iload_n 1, 1) := by decide +kernel
theorem dX10_keep_29 : decode cX10_keep 29 = .ok (.iconst 1, 1) := by decide +kernel
theorem dX10_keep_30 : decode cX10_keep 30 = .ok (.bastore, 1) := by decide +kernel
theorem dX10_keep_31 : decode cX10_keep 31 = .ok (.aload_n 0, 1) := by decide +kernel
theorem dX10_keep_32 : decode cX10_keep 32 = .ok (.getfield 31, 3) := by decide +kernel
theorem dX10_keep_35 : decode cX10_keep 35 = .ok (.getfield 121, 3) := by decide +kernel
theorem dX10_keep_38 : decode cX10_keep 38 = .ok (.iconst 0, 1) := by decide +kernel
theorem dX10_keep_39 : decode cX10_keep 39 = .ok (.bipush 19, 2) := by decide +kernel
theorem dX10_keep_41 : decode cX10_keep 41 = .ok (.invokevirtual 129, 3) := by decide +kernel
theorem dX10_keep_44 : decode cX10_keep 44 = .ok (.ireturn, 1) := by decide +kernel
def bX10_keep : ol_SE := es_seq (es_if (ec_z ol_ne (ei_of (ea_cs fX10_outside (ea_i (ei_v 1) (ea_i (ei_c 0) (ea_i (ei_c 1) (ea_0))))))) (es_ret (ei_c (-1))) es_skip) (es_seq (es_of (ea_cv 2 fX2_copyFrom (ea_r (er_a 105 (er_f 10 5 (er_v 0)) (ei_v 1)) (ea_r (er_f 10 3 (er_v 0)) (ea_0))))) (es_seq (es_zs 102 (er_f 10 6 (er_v 0)) (ei_v 1) (ei_c 1)) (es_ret (ei_of (ea_cv 4 fX4_total (ea_r (er_f 2 0 (er_f 10 3 (er_v 0))) (ea_i (ei_c 0) (ea_i (ei_c 19) (ea_0)))))))))
def fX10_keep : ol_FE := ol_fe 2 bX10_keep
set_option maxRecDepth 20000 in
theorem imX10_keep (x : ol_X) (K : ol_K) : IM_S x K mX10_keep 0 0 bX10_keep := rs_seq (p2 := 11) (rs_if (pT := 9) (pF := 11) (pE := 11) (rc_zF (pF := 11) ol_j1_eq_F (ri_k (rk_s (Mc := mX10_outside) (conX10_outside _ K) (ra_i (ri_vn dX10_keep_0 rfl) (ra_i (ri_ic dX10_keep_1 (by unfold ol_inR; omega)) (ra_i (ri_ic dX10_keep_2 (by unfold ol_inR; omega)) (ra_0)))) dX10_keep_3 cwX10_98 tw_417 ⟨rfl, rfl, Nat.le_of_ble_eq_true rfl⟩ (by decide) (by decide) (al_i (al_i (al_i al_0)))) (Or.inr (Or.inl rfl))) dX10_keep_6 (by decide)) (rs_ret (ri_ic dX10_keep_9 (by unfold ol_inR; omega)) rfl dX10_keep_10) rs_skip) (rs_seq (p2 := 24) (rs_k (rk_v (Mc := mX2_copyFrom) (conX2_copyFrom _ K) (ra_r (rr_a (t := 5) (rr_f (rr_vn dX10_keep_11 rfl) gfX10_38 dX10_keep_12) (ri_vn dX10_keep_15 rfl) (by decide) rfl dX10_keep_16) (ra_r (rr_f (rr_vn dX10_keep_17 rfl) gfX10_31 dX10_keep_18) (ra_0))) dX10_keep_21 cwX10_285 tw_742 tw_743 (by decide) rfl rfl ⟨rfl, rfl, Nat.le_of_ble_eq_true rfl⟩ (by decide) (by decide) (al_r (al_r al_0)))) (rs_seq (p2 := 31) (rs_zs (rr_f (rr_vn dX10_keep_24 rfl) gfX10_42 dX10_keep_25) (ri_vn dX10_keep_28 rfl) (ri_ic dX10_keep_29 (by unfold ol_inR; omega)) dX10_keep_30) (rs_ret (ri_k (rk_v (Mc := mX4_total) (conX4_total _ K) (ra_r (rr_f (rr_f (rr_vn dX10_keep_31 rfl) gfX10_31 dX10_keep_32) gfX10_121 dX10_keep_35) (ra_i (ri_ic dX10_keep_38 (by unfold ol_inR; omega)) (ra_i (ri_bi dX10_keep_39 (by unfold ol_inR; omega) (by decide)) (ra_0)))) dX10_keep_41 cwX10_129 tw_543 tw_544 (by decide) rfl rfl ⟨rfl, rfl, Nat.le_of_ble_eq_true rfl⟩ (by decide) (by decide) (al_r (al_i (al_i al_0)))) (Or.inl rfl)) rfl dX10_keep_44)))
theorem conX10_keep (l : Launch) (K : ol_K) : ol_Con l K yX10_keep mX10_keep fX10_keep := ol_con (M := mX10_keep) (by decide) rfl rfl (imX10_keep · K)
theorem dX10_back_0 : decode cX10_back 0 = .ok (.iload_n 1, 1) := by decide +kernel
theorem dX10_back_1 : decode cX10_back 1 = .ok (.iconst 0, 1) := by decide +kernel
theorem dX10_back_2 : decode cX10_back 2 = .ok (.iconst 1, 1) := by decide +kernel
theorem dX10_back_3 : decode cX10_back 3 = .ok (.invokestatic 98, 3) := by decide +kernel
theorem dX10_back_6 : decode cX10_back 6 = .ok (.ifCond .eq 5, 3) := by decide +kernel
theorem dX10_back_9 : decode cX10_back 9 = .ok (.iconst (-1), 1) := by decide +kernel
theorem dX10_back_10 : decode cX10_back 10 = .ok (.ireturn, 1) := by decide +kernel
theorem dX10_back_11 : decode cX10_back 11 = .ok (.aload_n 0, 1) := by decide +kernel
theorem dX10_back_12 : decode cX10_back 12 = .ok (.getfield 42, 3) := by decide +kernel
theorem dX10_back_15 : decode cX10_back 15 = .ok (.iload_n 1, 1) := by decide +kernel
theorem dX10_back_16 : decode cX10_back 16 = .ok (.baload, 1) := by decide +kernel
theorem dX10_back_17 : decode cX10_back 17 = .ok (.ifCond .ne 6, 3) := by decide +kernel
theorem dX10_back_20 : decode cX10_back 20 = .ok (.bipush (-2), 2) := by decide +kernel
theorem dX10_back_22 : decode cX10_back 22 = .ok (.ireturn, 1) := by decide +kernel
theorem dX10_back_23 : decode cX10_back 23 = .ok (.aload_n 0, 1) := by decide +kernel
theorem dX10_back_24 : decode cX10_back 24 = .ok (.getfield 31, 3) := by decide +kernel
theorem dX10_back_27 : decode cX10_back 27 = .ok (.aload_n 0, 1) := by decide +kernel
theorem dX10_back_28 : decode cX10_back 28 = .ok (.getfield 38, 3) := by decide +kernel
theorem dX10_back_31 : decode cX10_back 31 = .ok (.iload_n 1, 1) := by decide +kernel
theorem dX10_back_32 : decode cX10_back 32 = .ok (.aaload, 1) := by decide +kernel
theorem dX10_back_33 : decode cX10_back 33 = .ok (.invokevirtual 285, 3) := by decide +kernel
theorem dX10_back_36 : decode cX10_back 36 = .ok (.aload_n 0, 1) := by decide +kernel
theorem dX10_back_37 : decode cX10_back 37 = .ok (.getfield 31, 3) := by decide +kernel
theorem dX10_back_40 : decode cX10_back 40 = .ok (.getfield 121, 3) := by decide +kernel
theorem dX10_back_43 : decode cX10_back 43 = .ok (.iconst 0, 1) := by decide +kernel
theorem dX10_back_44 : decode cX10_back 44 = .ok (.bipush 19, 2) := by decide +kernel
theorem dX10_back_46 : decode cX10_back 46 = .ok (.invokevirtual 129, 3) := by decide +kernel
theorem dX10_back_49 : decode cX10_back 49 = .ok (.ireturn, 1) := by decide +kernel
def bX10_back : ol_SE := es_seq (es_if (ec_z ol_ne (ei_of (ea_cs fX10_outside (ea_i (ei_v 1) (ea_i (ei_c 0) (ea_i (ei_c 1) (ea_0))))))) (es_ret (ei_c (-1))) es_skip) (es_seq (es_if (ec_not (ec_z ol_ne (ei_a 102 (er_f 10 6 (er_v 0)) (ei_v 1)))) (es_ret (ei_c (-2))) es_skip) (es_seq (es_of (ea_cv 2 fX2_copyFrom (ea_r (er_f 10 3 (er_v 0)) (ea_r (er_a 105 (er_f 10 5 (er_v 0)) (ei_v 1)) (ea_0))))) (es_ret (ei_of (ea_cv 4 fX4_total (ea_r (er_f 2 0 (er_f 10 3 (er_v 0))) (ea_i (ei_c 0) (ea_i (ei_c 19) (ea_0)))))))))
def fX10_back : ol_FE := ol_fe 2 bX10_back
set_option maxRecDepth 20000 in
theorem imX10_back (x : ol_X) (K : ol_K) : IM_S x K mX10_back 0 0 bX10_back := rs_seq (p2 := 11) (rs_if (pT := 9) (pF := 11) (pE := 11) (rc_zF (pF := 11) ol_j1_eq_F (ri_k (rk_s (Mc := mX10_outside) (conX10_outside _ K) (ra_i (ri_vn dX10_back_0 rfl) (ra_i (ri_ic dX10_back_1 (by unfold ol_inR; omega)) (ra_i (ri_ic dX10_back_2 (by unfold ol_inR; omega)) (ra_0)))) dX10_back_3 cwX10_98 tw_417 ⟨rfl, rfl, Nat.le_of_ble_eq_true rfl⟩ (by decide) (by decide) (al_i (al_i (al_i al_0)))) (Or.inr (Or.inl rfl))) dX10_back_6 (by decide)) (rs_ret (ri_ic dX10_back_9 (by unfold ol_inR; omega)) rfl dX10_back_10) rs_skip) (rs_seq (p2 := 23) (rs_if (pT := 20) (pF := 23) (pE := 23) (rc_not (rc_zT (pT := 23) ol_j1_ne_T (ri_za (rr_f (rr_vn dX10_back_11 rfl) gfX10_42 dX10_back_12) (ri_vn dX10_back_15 rfl) rfl dX10_back_16) dX10_back_17 (by decide))) (rs_ret (ri_bi dX10_back_20 (by unfold ol_inR; omega) (by decide)) rfl dX10_back_22) rs_skip) (rs_seq (p2 := 36) (rs_k (rk_v (Mc := mX2_copyFrom) (conX2_copyFrom _ K) (ra_r (rr_f (rr_vn dX10_back_23 rfl) gfX10_31 dX10_back_24) (ra_r (rr_a (t := 5) (rr_f (rr_vn dX10_back_27 rfl) gfX10_38 dX10_back_28) (ri_vn dX10_back_31 rfl) (by decide) rfl dX10_back_32) (ra_0))) dX10_back_33 cwX10_285 tw_742 tw_743 (by decide) rfl rfl ⟨rfl, rfl, Nat.le_of_ble_eq_true rfl⟩ (by decide) (by decide) (al_r (al_r al_0)))) (rs_ret (ri_k (rk_v (Mc := mX4_total) (conX4_total _ K) (ra_r (rr_f (rr_f (rr_vn dX10_back_36 rfl) gfX10_31 dX10_back_37) gfX10_121 dX10_back_40) (ra_i (ri_ic dX10_back_43 (by unfold ol_inR; omega)) (ra_i (ri_bi dX10_back_44 (by unfold ol_inR; omega) (by decide)) (ra_0)))) dX10_back_46 cwX10_129 tw_543 tw_544 (by decide) rfl rfl ⟨rfl, rfl, Nat.le_of_ble_eq_true rfl⟩ (by decide) (by decide) (al_r (al_i (al_i al_0)))) (Or.inl rfl)) rfl dX10_back_49)))
theorem conX10_back (l : Launch) (K : ol_K) : ol_Con l K yX10_back mX10_back fX10_back := ol_con (M := mX10_back) (by decide) rfl rfl (imX10_back · K)
theorem dX11_number_0 : decode cX11_number 0 = .ok (.aload_n 0, 1) := by decide +kernel
theorem dX11_number_1 : decode cX11_number 1 = .ok (.aload_n 0, 1) := by decide +kernel
theorem dX11_number_2 : decode cX11_number 2 = .ok (.getfield 86, 3) := by decide +kernel
theorem dX11_number_5 : decode cX11_number 5 = .ok (.iconst 3, 1) := by decide +kernel
theorem dX11_number_6 : decode cX11_number 6 = .ok (.if_icmp .ne 19, 3) := by decide +kernel
theorem dX11_number_9 : decode cX11_number 9 = .ok (.aload_n 0, 1) := by decide +kernel
theorem dX11_number_10 : decode cX11_number 10 = .ok (.getfield 83, 3) := by decide +kernel
theorem dX11_number_13 : decode cX11_number 13 = .ok (.iload_n 1, 1) := by decide +kernel
theorem dX11_number_14 : decode cX11_number 14 = .ok (.iload_n 2, 1) := by decide +kernel
theorem dX11_number_15 : decode cX11_number 15 = .ok (.invokestatic 63, 3) := by decide +kernel
theorem dX11_number_18 : decode cX11_number 18 = .ok (.ifCond .eq 7, 3) := by decide +kernel
theorem dX11_number_21 : decode cX11_number 21 = .ok (.iconst 1, 1) := by decide +kernel
theorem dX11_number_22 : decode cX11_number 22 = .ok (.goto 4, 3) := by decide +kernel
theorem dX11_number_25 : decode cX11_number 25 = .ok (.iconst 0, 1) := by decide +kernel
theorem dX11_number_26 : decode cX11_number 26 = .ok (.invokevirtual 96, 3) := by decide +kernel
theorem dX11_number_29 : decode cX11_number 29 = .ok (.ireturn, 1) := by decide +kernel
def bX11_number : ol_SE := es_ret (ei_of (ea_cv 11 fX11_due (ea_r (er_v 0) (ea_i (ei_if (ec_and (ec_2 ol_eq (ei_f 11 7 (er_v 0)) (ei_c 3)) (ec_z ol_ne (ei_of (ea_cs fX11_in (ea_i (ei_f 11 8 (er_v 0)) (ea_i (ei_v 1) (ea_i (ei_v 2) (ea_0)))))))) (ei_c 1) (ei_c 0)) (ea_0)))))
def fX11_number : ol_FE := ol_fe 3 bX11_number
set_option maxRecDepth 20000 in
theorem imX11_number (x : ol_X) (K : ol_K) : IM_S x K mX11_number 0 0 bX11_number := rs_ret (ri_k (rk_v (Mc := mX11_due) (conX11_due _ K) (ra_r (rr_vn dX11_number_0 rfl) (ra_i (ri_if (pT := 21) (pF := 25) (p3 := 26) (rc_and (p2 := 9) (pT := 21) (pF := 25) (rc_2F (pF := 25) ol_j2_ne_F (ri_f (rr_vn dX11_number_1 rfl) gfX11_86 dX11_number_2) (ri_ic dX11_number_5 (by unfold ol_inR; omega)) dX11_number_6 (by decide)) (rc_zF (pF := 25) ol_j1_eq_F (ri_k (rk_s (Mc := mX11_in) (conX11_in _ K) (ra_i (ri_f (rr_vn dX11_number_9 rfl) gfX11_83 dX11_number_10) (ra_i (ri_vn dX11_number_13 rfl) (ra_i (ri_vn dX11_number_14 rfl) (ra_0)))) dX11_number_15 cwX11_63 tw_981 ⟨rfl, rfl, Nat.le_of_ble_eq_true rfl⟩ (by decide) (by decide) (al_i (al_i (al_i al_0)))) (Or.inr (Or.inl rfl))) dX11_number_18 (by decide))) (ri_ic dX11_number_21 (by unfold ol_inR; omega)) dX11_number_22 (by decide) (ri_ic dX11_number_25 (by unfold ol_inR; omega))) (ra_0))) dX11_number_26 cwX11_96 tw_1003 tw_27 (by decide) rfl rfl ⟨rfl, rfl, Nat.le_of_ble_eq_true rfl⟩ (by decide) (by decide) (al_r (al_i al_0))) (Or.inl rfl)) rfl dX11_number_29
theorem conX11_number (l : Launch) (K : ol_K) : ol_Con l K yX11_number mX11_number fX11_number := ol_con (M := mX11_number) (by decide) rfl rfl (imX11_number · K)
theorem dX11_goTried_0 : decode cX11_goTried 0 = .ok (.aload_n 0, 1) := by decide +kernel
theorem dX11_goTried_1 : decode cX11_goTried 1 = .ok (.iconst 1, 1) := by decide +kernel
theorem dX11_goTried_2 : decode cX11_goTried 2 = .ok (.putfield 140, 3) := by decide +kernel
theorem dX11_goTried_5 : decode cX11_goTried 5 = .ok (.aload_n 0, 1) := by decide +kernel
theorem dX11_goTried_6 : decode cX11_goTried 6 = .ok (.iload_n 1, 1) := by decide +kernel
theorem dX11_goTried_7 : decode cX11_goTried 7 = .ok (.iload_n 2, 1) := by decide +kernel
theorem dX11_goTried_8 : decode cX11_goTried 8 = .ok (.iload_n 3, 1) := by decide +kernel
theorem dX11_goTried_9 : decode cX11_goTried 9 = .ok (.iload 4, 2) := by decide +kernel
theorem dX11_goTried_11 : decode cX11_goTried 11 = .ok (.iload 5, 2) := by decide +kernel
theorem dX11_goTried_13 : decode cX11_goTried 13 = .ok (.invokevirtual 153, 3) := by decide +kernel
theorem dX11_goTried_16 : decode cX11_goTried 16 = .ok (.aload_n 0, 1) := by decide +kernel
theorem dX11_goTried_17 : decode cX11_goTried 17 = .ok (.iconst 0, 1) := by decide +kernel
theorem dX11_goTried_18 : decode cX11_goTried 18 = .ok (.putfield 140, 3) := by decide +kernel
theorem dX11_goTried_21 : decode cX11_goTried 21 = .ok (.return_, 1) := by decide +kernel
def bX11_goTried : ol_SE := es_seq (es_pz 11 19 (er_v 0) (ei_c 1)) (es_seq (es_of (ea_cv 11 fX11_go (ea_r (er_v 0) (ea_i (ei_v 1) (ea_i (ei_v 2) (ea_i (ei_v 3) (ea_i (ei_v 4) (ea_i (ei_v 5) (ea_0))))))))) (es_seq (es_pz 11 19 (er_v 0) (ei_c 0)) (es_retv)))
def fX11_goTried : ol_FE := ol_fe 6 bX11_goTried
set_option maxRecDepth 20000 in
theorem imX11_goTried (x : ol_X) (K : ol_K) : IM_S x K mX11_goTried 0 0 bX11_goTried := rs_seq (p2 := 5) (rs_pz (rr_vn dX11_goTried_0 rfl) (ri_ic dX11_goTried_1 (by unfold ol_inR; omega)) pfX11_140 rfl dX11_goTried_2) (rs_seq (p2 := 16) (rs_k (rk_v (Mc := mX11_go) (conX11_go _ K) (ra_r (rr_vn dX11_goTried_5 rfl) (ra_i (ri_vn dX11_goTried_6 rfl) (ra_i (ri_vn dX11_goTried_7 rfl) (ra_i (ri_vn dX11_goTried_8 rfl) (ra_i (ri_vi dX11_goTried_9) (ra_i (ri_vi dX11_goTried_11) (ra_0))))))) dX11_goTried_13 cwX11_153 tw_1069 tw_36 (by decide) rfl rfl ⟨rfl, rfl, Nat.le_of_ble_eq_true rfl⟩ (by decide) (by decide) (al_r (al_i (al_i (al_i (al_i (al_i al_0)))))))) (rs_seq (p2 := 21) (rs_pz (rr_vn dX11_goTried_16 rfl) (ri_ic dX11_goTried_17 (by unfold ol_inR; omega)) pfX11_140 rfl dX11_goTried_18) (rs_retv rfl dX11_goTried_21)))
theorem conX11_goTried (l : Launch) (K : ol_K) : ol_Con l K yX11_goTried mX11_goTried fX11_goTried := ol_con (M := mX11_goTried) (by decide) rfl rfl (imX11_goTried · K)
theorem dX11_throwOne_0 : decode cX11_throwOne 0 = .ok (.aload_n 0, 1) := by decide +kernel
theorem dX11_throwOne_1 : decode cX11_throwOne 1 = .ok (.iconst 0, 1) := by decide +kernel
theorem dX11_throwOne_2 : decode cX11_throwOne 2 = .ok (.iload_n 1, 1) := by decide +kernel
theorem dX11_throwOne_3 : decode cX11_throwOne 3 = .ok (.iload_n 2, 1) := by decide +kernel
theorem dX11_throwOne_4 : decode cX11_throwOne 4 = .ok (.iload_n 3, 1) := by decide +kernel
theorem dX11_throwOne_5 : decode cX11_throwOne 5 = .ok (.iload 4, 2) := by decide +kernel
theorem dX11_throwOne_7 : decode cX11_throwOne 7 = .ok (.invokevirtual 153, 3) := by decide +kernel
theorem dX11_throwOne_10 : decode cX11_throwOne 10 = .ok (.aload_n 0, 1) := by decide +kernel
theorem dX11_throwOne_11 : decode cX11_throwOne 11 = .ok (.iload 4, 2) := by decide +kernel
theorem dX11_throwOne_13 : decode cX11_throwOne 13 = .ok (.sipush 1023, 3) := by decide +kernel
theorem dX11_throwOne_16 : decode cX11_throwOne 16 = .ok (.invokevirtual 170, 3) := by decide +kernel
theorem dX11_throwOne_19 : decode cX11_throwOne 19 = .ok (.istore 5, 2) := by decide +kernel
theorem dX11_throwOne_21 : decode cX11_throwOne 21 = .ok (.aload_n 0, 1) := by decide +kernel
theorem dX11_throwOne_22 : decode cX11_throwOne 22 = .ok (.iconst 1, 1) := by decide +kernel
theorem dX11_throwOne_23 : decode cX11_throwOne 23 = .ok (.putfield 173, 3) := by decide +kernel
theorem dX11_throwOne_26 : decode cX11_throwOne 26 = .ok (.aload_n 0, 1) := by decide +kernel
theorem dX11_throwOne_27 : decode cX11_throwOne 27 = .ok (.getfield 32, 3) := by decide +kernel
theorem dX11_throwOne_30 : decode cX11_throwOne 30 = .ok (.iconst 0, 1) := by decide +kernel
theorem dX11_throwOne_31 : decode cX11_throwOne 31 = .ok (.aload_n 0, 1) := by decide +kernel
theorem dX11_throwOne_32 : decode cX11_throwOne 32 = .ok (.getfield 147, 3) := by decide +kernel
theorem dX11_throwOne_35 : decode cX11_throwOne 35 = .ok (.ifCond .eq 7, 3) := by decide +kernel
theorem dX11_throwOne_38 : decode cX11_throwOne 38 = .ok (.iconst (-1), 1) := by decide +kernel
theorem dX11_throwOne_39 : decode cX11_throwOne 39 = .ok (.goto 7, 3) := by decide +kernel
theorem dX11_throwOne_42 : decode cX11_throwOne 42 = .ok (.aload_n 0, 1) := by decide +kernel
theorem dX11_throwOne_43 : decode cX11_throwOne 43 = .ok (.getfield 144, 3) := by decide +kernel
theorem dX11_throwOne_46 : decode cX11_throwOne 46 = .ok (.iastore, 1) := by decide +kernel
theorem dX11_throwOne_47 : decode cX11_throwOne 47 = .ok (.aload_n 0, 1) := by decide +kernel
theorem dX11_throwOne_48 : decode cX11_throwOne 48 = .ok (.getfield 32, 3) := by decide +kernel
theorem dX11_throwOne_51 : decode cX11_throwOne 51 = .ok (.iconst 1, 1) := by decide +kernel
theorem dX11_throwOne_52 : decode cX11_throwOne 52 = .ok (.aload_n 0, 1) := by decide +kernel
theorem dX11_throwOne_53 : decode cX11_throwOne 53 = .ok (.getfield 125, 3) := by decide +kernel
theorem dX11_throwOne_56 : decode cX11_throwOne 56 = .ok (.iastore, 1) := by decide +kernel
theorem dX11_throwOne_57 : decode cX11_throwOne 57 = .ok (.aload_n 0, 1) := by decide +kernel
theorem dX11_throwOne_58 : decode cX11_throwOne 58 = .ok (.getfield 32, 3) := by decide +kernel
theorem dX11_throwOne_61 : decode cX11_throwOne 61 = .ok (.iconst 2, 1) := by decide +kernel
theorem dX11_throwOne_62 : decode cX11_throwOne 62 = .ok (.aload_n 0, 1) := by decide +kernel
theorem dX11_throwOne_63 : decode cX11_throwOne 63 = .ok (.getfield 128, 3) := by decide +kernel
theorem dX11_throwOne_66 : decode cX11_throwOne 66 = .ok (.iastore, 1) := by decide +kernel
theorem dX11_throwOne_67 : decode cX11_throwOne 67 = .ok (.aload_n 0, 1) := by decide +kernel
theorem dX11_throwOne_68 : decode cX11_throwOne 68 = .ok (.getfield 32, 3) := by decide +kernel
theorem dX11_throwOne_71 : decode cX11_throwOne 71 = .ok (.iconst 3, 1) := by decide +kernel
theorem dX11_throwOne_72 : decode cX11_throwOne 72 = .ok (.aload_n 0, 1) := by decide +kernel
theorem dX11_throwOne_73 : decode cX11_throwOne 73 = .ok (.getfield 137, 3) := by decide +kernel
theorem dX11_throwOne_76 : decode cX11_throwOne 76 = .ok (.iastore, 1) := by decide +kernel
theorem dX11_throwOne_77 : decode cX11_throwOne 77 = .ok (.aload_n 0, 1) := by decide +kernel
theorem dX11_throwOne_78 : decode cX11_throwOne 78 = .ok (.getfield 32, 3) := by decide +kernel
theorem dX11_throwOne_81 : decode cX11_throwOne 81 = .ok (.iconst 4, 1) := by decide +kernel
theorem dX11_throwOne_82 : decode cX11_throwOne 82 = .ok (.aload_n 0, 1) := by decide +kernel
theorem dX11_throwOne_83 : decode cX11_throwOne 83 = .ok (.getfield 131, 3) := by decide +kernel
theorem dX11_throwOne_86 : decode cX11_throwOne 86 = .ok (.iastore, 1) := by decide +kernel
theorem dX11_throwOne_87 : decode cX11_throwOne 87 = .ok (.aload_n 0, 1) := by decide +kernel
theorem dX11_throwOne_88 : decode cX11_throwOne 88 = .ok (.getfield 32, 3) := by decide +kernel
theorem dX11_throwOne_91 : decode cX11_throwOne 91 = .ok (.iconst 5, 1) := by decide +kernel
theorem dX11_throwOne_92 : decode cX11_throwOne 92 = .ok (.aload_n 0, 1) := by decide +kernel
theorem dX11_throwOne_93 : decode cX11_throwOne 93 = .ok (.getfield 134, 3) := by decide +kernel
theorem dX11_throwOne_96 : decode cX11_throwOne 96 = .ok (.iastore, 1) := by decide +kernel
theorem dX11_throwOne_97 : decode cX11_throwOne 97 = .ok (.aload_n 0, 1) := by decide +kernel
theorem dX11_throwOne_98 : decode cX11_throwOne 98 = .ok (.getfield 32, 3) := by decide +kernel
theorem dX11_throwOne_101 : decode cX11_throwOne 101 = .ok (.bipush 6, 2) := by decide +kernel
theorem dX11_throwOne_103 : decode cX11_throwOne 103 = .ok (.iload 5, 2) := by decide +kernel
theorem dX11_throwOne_105 : decode cX11_throwOne 105 = .ok (.iastore, 1) := by decide +kernel
theorem dX11_throwOne_106 : decode cX11_throwOne 106 = .ok (.iload 5, 2) := by decide +kernel
theorem dX11_throwOne_108 : decode cX11_throwOne 108 = .ok (.ireturn, 1) := by decide +kernel
def bX11_throwOne : ol_SE := es_seq (es_of (ea_cv 11 fX11_go (ea_r (er_v 0) (ea_i (ei_c 0) (ea_i (ei_v 1) (ea_i (ei_v 2) (ea_i (ei_v 3) (ea_i (ei_v 4) (ea_0))))))))) (es_seq (es_set 5 (ei_of (ea_cv 11 fX11_pinsOf (ea_r (er_v 0) (ea_i (ei_v 4) (ea_i (ei_c 1023) (ea_0))))))) (es_seq (es_pz 11 25 (er_v 0) (ei_c 1)) (es_seq (es_as 100 (er_f 11 26 (er_v 0)) (ei_c 0) (ei_if (ec_z ol_ne (ei_f 11 18 (er_v 0))) (ei_c (-1)) (ei_f 11 12 (er_v 0)))) (es_seq (es_as 100 (er_f 11 26 (er_v 0)) (ei_c 1) (ei_f 11 13 (er_v 0))) (es_seq (es_as 100 (er_f 11 26 (er_v 0)) (ei_c 2) (ei_f 11 14 (er_v 0))) (es_seq (es_as 100 (er_f 11 26 (er_v 0)) (ei_c 3) (ei_f 11 15 (er_v 0))) (es_seq (es_as 100 (er_f 11 26 (er_v 0)) (ei_c 4) (ei_f 11 16 (er_v 0))) (es_seq (es_as 100 (er_f 11 26 (er_v 0)) (ei_c 5) (ei_f 11 17 (er_v 0))) (es_seq (es_as 100 (er_f 11 26 (er_v 0)) (ei_c 6) (ei_v 5)) (es_ret (ei_v 5)))))))))))
def fX11_throwOne : ol_FE := ol_fe 6 bX11_throwOne
set_option maxRecDepth 20000 in
theorem imX11_throwOne (x : ol_X) (K : ol_K) : IM_S x K mX11_throwOne 0 0 bX11_throwOne := rs_seq (p2 := 10) (rs_k (rk_v (Mc := mX11_go) (conX11_go _ K) (ra_r (rr_vn dX11_throwOne_0 rfl) (ra_i (ri_ic dX11_throwOne_1 (by unfold ol_inR; omega)) (ra_i (ri_vn dX11_throwOne_2 rfl) (ra_i (ri_vn dX11_throwOne_3 rfl) (ra_i (ri_vn dX11_throwOne_4 rfl) (ra_i (ri_vi dX11_throwOne_5) (ra_0))))))) dX11_throwOne_7 cwX11_153 tw_1069 tw_36 (by decide) rfl rfl ⟨rfl, rfl, Nat.le_of_ble_eq_true rfl⟩ (by decide) (by decide) (al_r (al_i (al_i (al_i (al_i (al_i al_0)))))))) (rs_seq (p2 := 21) (rs_set (ri_k (rk_v (Mc := mX11_pinsOf) (conX11_pinsOf _ K) (ra_r (rr_vn dX11_throwOne_10 rfl) (ra_i (ri_vi dX11_throwOne_11) (ra_i (ri_si dX11_throwOne_13 (by unfold ol_inR; omega) (by decide)) (ra_0)))) dX11_throwOne_16 cwX11_170 tw_1077 tw_38 (by decide) rfl rfl ⟨rfl, rfl, Nat.le_of_ble_eq_true rfl⟩ (by decide) (by decide) (al_r (al_i (al_i al_0)))) (Or.inl rfl)) dX11_throwOne_19 (ol_ltn rfl)) (rs_seq (p2 := 26) (rs_pz (rr_vn dX11_throwOne_21 rfl) (ri_ic dX11_throwOne_22 (by unfold ol_inR; omega)) pfX11_173 rfl dX11_throwOne_23) (rs_seq (p2 := 47) (rs_as (rr_f (rr_vn dX11_throwOne_26 rfl) gfX11_32 dX11_throwOne_27) (ri_ic dX11_throwOne_30 (by unfold ol_inR; omega)) (ri_if (pT := 38) (pF := 42) (p3 := 46) (rc_zF (pF := 42) ol_j1_eq_F (ri_f (rr_vn dX11_throwOne_31 rfl) gfX11_147 dX11_throwOne_32) dX11_throwOne_35 (by decide)) (ri_ic dX11_throwOne_38 (by unfold ol_inR; omega)) dX11_throwOne_39 (by decide) (ri_f (rr_vn dX11_throwOne_42 rfl) gfX11_144 dX11_throwOne_43)) dX11_throwOne_46) (rs_seq (p2 := 57) (rs_as (rr_f (rr_vn dX11_throwOne_47 rfl) gfX11_32 dX11_throwOne_48) (ri_ic dX11_throwOne_51 (by unfold ol_inR; omega)) (ri_f (rr_vn dX11_throwOne_52 rfl) gfX11_125 dX11_throwOne_53) dX11_throwOne_56) (rs_seq (p2 := 67) (rs_as (rr_f (rr_vn dX11_throwOne_57 rfl) gfX11_32 dX11_throwOne_58) (ri_ic dX11_throwOne_61 (by unfold ol_inR; omega)) (ri_f (rr_vn dX11_throwOne_62 rfl) gfX11_128 dX11_throwOne_63) dX11_throwOne_66) (rs_seq (p2 := 77) (rs_as (rr_f (rr_vn dX11_throwOne_67 rfl) gfX11_32 dX11_throwOne_68) (ri_ic dX11_throwOne_71 (by unfold ol_inR; omega)) (ri_f (rr_vn dX11_throwOne_72 rfl) gfX11_137 dX11_throwOne_73) dX11_throwOne_76) (rs_seq (p2 := 87) (rs_as (rr_f (rr_vn dX11_throwOne_77 rfl) gfX11_32 dX11_throwOne_78) (ri_ic dX11_throwOne_81 (by unfold ol_inR; omega)) (ri_f (rr_vn dX11_throwOne_82 rfl) gfX11_131 dX11_throwOne_83) dX11_throwOne_86) (rs_seq (p2 := 97) (rs_as (rr_f (rr_vn dX11_throwOne_87 rfl) gfX11_32 dX11_throwOne_88) (ri_ic dX11_throwOne_91 (by unfold ol_inR; omega)) (ri_f (rr_vn dX11_throwOne_92 rfl) gfX11_134 dX11_throwOne_93) dX11_throwOne_96) (rs_seq (p2 := 106) (rs_as (rr_f (rr_vn dX11_throwOne_97 rfl) gfX11_32 dX11_throwOne_98) (ri_bi dX11_throwOne_101 (by unfold ol_inR; omega) (by decide)) (ri_vi dX11_throwOne_103) dX11_throwOne_105) (rs_ret (ri_vi dX11_throwOne_106) rfl dX11_throwOne_108))))))))))
theorem conX11_throwOne (l : Launch) (K : ol_K) : ol_Con l K yX11_throwOne mX11_throwOne fX11_throwOne := ol_con (M := mX11_throwOne) (by decide) rfl rfl (imX11_throwOne · K)
theorem dX11_thrower_0 : decode cX11_thrower 0 = .ok (.iload_n 1, 1) := by decide +kernel
theorem dX11_thrower_1 : decode cX11_thrower 1 = .ok (.iload_n 2, 1) := by decide +kernel
theorem dX11_thrower_2 : decode cX11_thrower 2 = .ok (.iload_n 3, 1) := by decide +kernel
theorem dX11_thrower_3 : decode cX11_thrower 3 = .ok (.iload 4, 2) := by decide +kernel
theorem dX11_thrower_5 : decode cX11_thrower 5 = .ok (.invokestatic 176, 3) := by decide +kernel
theorem dX11_thrower_8 : decode cX11_thrower 8 = .ok (.ifCond .eq 13, 3) := by decide +kernel
theorem dX11_thrower_11 : decode cX11_thrower 11 = .ok (.iload 5, 2) := by decide +kernel
theorem dX11_thrower_13 : decode cX11_thrower 13 = .ok (.iconst 0, 1) := by decide +kernel
theorem dX11_thrower_14 : decode cX11_thrower 14 = .ok (.iconst 2, 1) := by decide +kernel
theorem dX11_thrower_15 : decode cX11_thrower 15 = .ok (.invokestatic 63, 3) := by decide +kernel
theorem dX11_thrower_18 : decode cX11_thrower 18 = .ok (.ifCond .ne 5, 3) := by decide +kernel
theorem dX11_thrower_21 : decode cX11_thrower 21 = .ok (.iconst (-1), 1) := by decide +kernel
theorem dX11_thrower_22 : decode cX11_thrower 22 = .ok (.ireturn, 1) := by decide +kernel
theorem dX11_thrower_23 : decode cX11_thrower 23 = .ok (.aload_n 0, 1) := by decide +kernel
theorem dX11_thrower_24 : decode cX11_thrower 24 = .ok (.getfield 219, 3) := by decide +kernel
theorem dX11_thrower_27 : decode cX11_thrower 27 = .ok (.iconst 4, 1) := by decide +kernel
theorem dX11_thrower_28 : decode cX11_thrower 28 = .ok (.if_icmp .ne 6, 3) := by decide +kernel
theorem dX11_thrower_31 : decode cX11_thrower 31 = .ok (.bipush (-3), 2) := by decide +kernel
theorem dX11_thrower_33 : decode cX11_thrower 33 = .ok (.ireturn, 1) := by decide +kernel
theorem dX11_thrower_34 : decode cX11_thrower 34 = .ok (.bipush 6, 2) := by decide +kernel
theorem dX11_thrower_36 : decode cX11_thrower 36 = .ok (.aload_n 0, 1) := by decide +kernel
theorem dX11_thrower_37 : decode cX11_thrower 37 = .ok (.getfield 219, 3) := by decide +kernel
theorem dX11_thrower_40 : decode cX11_thrower 40 = .ok (.imul, 1) := by decide +kernel
theorem dX11_thrower_41 : decode cX11_thrower 41 = .ok (.istore 6, 2) := by decide +kernel
theorem dX11_thrower_43 : decode cX11_thrower 43 = .ok (.aload_n 0, 1) := by decide +kernel
theorem dX11_thrower_44 : decode cX11_thrower 44 = .ok (.getfield 44, 3) := by decide +kernel
theorem dX11_thrower_47 : decode cX11_thrower 47 = .ok (.iload 6, 2) := by decide +kernel
theorem dX11_thrower_49 : decode cX11_thrower 49 = .ok (.iload_n 1, 1) := by decide +kernel
theorem dX11_thrower_50 : decode cX11_thrower 50 = .ok (.iastore, 1) := by decide +kernel
theorem dX11_thrower_51 : decode cX11_thrower 51 = .ok (.aload_n 0, 1) := by decide +kernel
theorem dX11_thrower_52 : decode cX11_thrower 52 = .ok (.getfield 44, 3) := by decide +kernel
theorem dX11_thrower_55 : decode cX11_thrower 55 = .ok (.iload 6, 2) := by decide +kernel
theorem dX11_thrower_57 : decode cX11_thrower 57 = .ok (.iconst 1, 1) := by decide +kernel
theorem dX11_thrower_58 : decode cX11_thrower 58 = .ok (.iadd, 1) := by decide +kernel
theorem dX11_thrower_59 : decode cX11_thrower 59 = .ok (.iload_n 2, 1) := by decide +kernel
theorem dX11_thrower_60 : decode cX11_thrower 60 = .ok (.iastore, 1) := by decide +kernel
theorem dX11_thrower_61 : decode cX11_thrower 61 = .ok (.aload_n 0, 1) := by decide +kernel
theorem dX11_thrower_62 : decode cX11_thrower 62 = .ok (.getfield 44, 3) := by decide +kernel
theorem dX11_thrower_65 : decode cX11_thrower 65 = .ok (.iload 6, 2) := by decide +kernel
theorem dX11_thrower_67 : decode cX11_thrower 67 = .ok (.iconst 2, 1) := by decide +kernel
theorem dX11_thrower_68 : decode cX11_thrower 68 = .ok (.iadd, 1) := by decide +kernel
theorem dX11_thrower_69 : decode cX11_thrower 69 = .ok (.iload_n 3, 1) := by decide +kernel
theorem dX11_thrower_70 : decode cX11_thrower 70 = .ok (.iastore, 1) := by decide +kernel
theorem dX11_thrower_71 : decode cX11_thrower 71 = .ok (.aload_n 0, 1) := by decide +kernel
theorem dX11_thrower_72 : decode cX11_thrower 72 = .ok (.getfield 44, 3) := by decide +kernel
theorem dX11_thrower_75 : decode cX11_thrower 75 = .ok (.iload 6, 2) := by decide +kernel
theorem dX11_thrower_77 : decode cX11_thrower 77 = .ok (.iconst 3, 1) := by decide +kernel
theorem dX11_thrower_78 : decode cX11_thrower 78 = .ok (.iadd, 1) := by decide +kernel
theorem dX11_thrower_79 : decode cX11_thrower 79 = .ok (.iload 4, 2) := by decide +kernel
theorem dX11_thrower_81 : decode cX11_thrower 81 = .ok (.iastore, 1) := by decide +kernel
theorem dX11_thrower_82 : decode cX11_thrower 82 = .ok (.aload_n 0, 1) := by decide +kernel
theorem dX11_thrower_83 : decode cX11_thrower 83 = .ok (.getfield 44, 3) := by decide +kernel
theorem dX11_thrower_86 : decode cX11_thrower 86 = .ok (.iload 6, 2) := by decide +kernel
theorem dX11_thrower_88 : decode cX11_thrower 88 = .ok (.iconst 4, 1) := by decide +kernel
theorem dX11_thrower_89 : decode cX11_thrower 89 = .ok (.iadd, 1) := by decide +kernel
theorem dX11_thrower_90 : decode cX11_thrower 90 = .ok (.iload 5, 2) := by decide +kernel
theorem dX11_thrower_92 : decode cX11_thrower 92 = .ok (.iastore, 1) := by decide +kernel
theorem dX11_thrower_93 : decode cX11_thrower 93 = .ok (.aload_n 0, 1) := by decide +kernel
theorem dX11_thrower_94 : decode cX11_thrower 94 = .ok (.getfield 44, 3) := by decide +kernel
theorem dX11_thrower_97 : decode cX11_thrower 97 = .ok (.iload 6, 2) := by decide +kernel
theorem dX11_thrower_99 : decode cX11_thrower 99 = .ok (.iconst 5, 1) := by decide +kernel
theorem dX11_thrower_100 : decode cX11_thrower 100 = .ok (.iadd, 1) := by decide +kernel
theorem dX11_thrower_101 : decode cX11_thrower 101 = .ok (.iconst 0, 1) := by decide +kernel
theorem dX11_thrower_102 : decode cX11_thrower 102 = .ok (.iastore, 1) := by decide +kernel
theorem dX11_thrower_103 : decode cX11_thrower 103 = .ok (.aload_n 0, 1) := by decide +kernel
theorem dX11_thrower_104 : decode cX11_thrower 104 = .ok (.dup, 1) := by decide +kernel
theorem dX11_thrower_105 : decode cX11_thrower 105 = .ok (.getfield 219, 3) := by decide +kernel
theorem dX11_thrower_108 : decode cX11_thrower 108 = .ok (.iconst 1, 1) := by decide +kernel
theorem dX11_thrower_109 : decode cX11_thrower 109 = .ok (.iadd, 1) := by decide +kernel
theorem dX11_thrower_110 : decode cX11_thrower 110 = .ok (.putfield 219, 3) := by decide +kernel
theorem dX11_thrower_113 : decode cX11_thrower 113 = .ok (.aload_n 0, 1) := by decide +kernel
theorem dX11_thrower_114 : decode cX11_thrower 114 = .ok (.getfield 219, 3) := by decide +kernel
theorem dX11_thrower_117 : decode cX11_thrower 117 = .ok (.iconst 1, 1) := by decide +kernel
theorem dX11_thrower_118 : decode cX11_thrower 118 = .ok (.isub, 1) := by decide +kernel
theorem dX11_thrower_119 : decode cX11_thrower 119 = .ok (.ireturn, 1) := by decide +kernel
def bX11_thrower : ol_SE := es_seq (es_if (ec_or (ec_not (ec_z ol_ne (ei_of (ea_cs fX11_isShot (ea_i (ei_v 1) (ea_i (ei_v 2) (ea_i (ei_v 3) (ea_i (ei_v 4) (ea_0))))))))) (ec_not (ec_z ol_ne (ei_of (ea_cs fX11_in (ea_i (ei_v 5) (ea_i (ei_c 0) (ea_i (ei_c 2) (ea_0))))))))) (es_ret (ei_c (-1))) es_skip) (es_seq (es_if (ec_2 ol_eq (ei_f 11 34 (er_v 0)) (ei_c 4)) (es_ret (ei_c (-3))) es_skip) (es_seq (es_set 6 (ei_2 ol_mul (ei_c 6) (ei_f 11 34 (er_v 0)))) (es_seq (es_as 100 (er_f 11 35 (er_v 0)) (ei_v 6) (ei_v 1)) (es_seq (es_as 100 (er_f 11 35 (er_v 0)) (ei_2 ol_add (ei_v 6) (ei_c 1)) (ei_v 2)) (es_seq (es_as 100 (er_f 11 35 (er_v 0)) (ei_2 ol_add (ei_v 6) (ei_c 2)) (ei_v 3)) (es_seq (es_as 100 (er_f 11 35 (er_v 0)) (ei_2 ol_add (ei_v 6) (ei_c 3)) (ei_v 4)) (es_seq (es_as 100 (er_f 11 35 (er_v 0)) (ei_2 ol_add (ei_v 6) (ei_c 4)) (ei_v 5)) (es_seq (es_as 100 (er_f 11 35 (er_v 0)) (ei_2 ol_add (ei_v 6) (ei_c 5)) (ei_c 0)) (es_seq (es_uf 11 34 (er_v 0) ol_add (ei_c 1)) (es_ret (ei_2 ol_sub (ei_f 11 34 (er_v 0)) (ei_c 1))))))))))))
def fX11_thrower : ol_FE := ol_fe 7 bX11_thrower
set_option maxRecDepth 20000 in
theorem imX11_thrower (x : ol_X) (K : ol_K) : IM_S x K mX11_thrower 0 0 bX11_thrower := rs_seq (p2 := 23) (rs_if (pT := 21) (pF := 23) (pE := 23) (rc_or (p2 := 11) (pT := 21) (pF := 23) (rc_not (rc_zF (pF := 21) ol_j1_eq_F (ri_k (rk_s (Mc := mX11_isShot) (conX11_isShot _ K) (ra_i (ri_vn dX11_thrower_0 rfl) (ra_i (ri_vn dX11_thrower_1 rfl) (ra_i (ri_vn dX11_thrower_2 rfl) (ra_i (ri_vi dX11_thrower_3) (ra_0))))) dX11_thrower_5 cwX11_176 tw_1061 ⟨rfl, rfl, Nat.le_of_ble_eq_true rfl⟩ (by decide) (by decide) (al_i (al_i (al_i (al_i al_0))))) (Or.inr (Or.inl rfl))) dX11_thrower_8 (by decide))) (rc_not (rc_zT (pT := 23) ol_j1_ne_T (ri_k (rk_s (Mc := mX11_in) (conX11_in _ K) (ra_i (ri_vi dX11_thrower_11) (ra_i (ri_ic dX11_thrower_13 (by unfold ol_inR; omega)) (ra_i (ri_ic dX11_thrower_14 (by unfold ol_inR; omega)) (ra_0)))) dX11_thrower_15 cwX11_63 tw_981 ⟨rfl, rfl, Nat.le_of_ble_eq_true rfl⟩ (by decide) (by decide) (al_i (al_i (al_i al_0)))) (Or.inr (Or.inl rfl))) dX11_thrower_18 (by decide)))) (rs_ret (ri_ic dX11_thrower_21 (by unfold ol_inR; omega)) rfl dX11_thrower_22) rs_skip) (rs_seq (p2 := 34) (rs_if (pT := 31) (pF := 34) (pE := 34) (rc_2F (pF := 34) ol_j2_ne_F (ri_f (rr_vn dX11_thrower_23 rfl) gfX11_219 dX11_thrower_24) (ri_ic dX11_thrower_27 (by unfold ol_inR; omega)) dX11_thrower_28 (by decide)) (rs_ret (ri_bi dX11_thrower_31 (by unfold ol_inR; omega) (by decide)) rfl dX11_thrower_33) rs_skip) (rs_seq (p2 := 43) (rs_set (ri_2 ol_op_mul (ri_bi dX11_thrower_34 (by unfold ol_inR; omega) (by decide)) (ri_f (rr_vn dX11_thrower_36 rfl) gfX11_219 dX11_thrower_37) dX11_thrower_40) dX11_thrower_41 (ol_ltn rfl)) (rs_seq (p2 := 51) (rs_as (rr_f (rr_vn dX11_thrower_43 rfl) gfX11_44 dX11_thrower_44) (ri_vi dX11_thrower_47) (ri_vn dX11_thrower_49 rfl) dX11_thrower_50) (rs_seq (p2 := 61) (rs_as (rr_f (rr_vn dX11_thrower_51 rfl) gfX11_44 dX11_thrower_52) (ri_2 ol_op_add (ri_vi dX11_thrower_55) (ri_ic dX11_thrower_57 (by unfold ol_inR; omega)) dX11_thrower_58) (ri_vn dX11_thrower_59 rfl) dX11_thrower_60) (rs_seq (p2 := 71) (rs_as (rr_f (rr_vn dX11_thrower_61 rfl) gfX11_44 dX11_thrower_62) (ri_2 ol_op_add (ri_vi dX11_thrower_65) (ri_ic dX11_thrower_67 (by unfold ol_inR; omega)) dX11_thrower_68) (ri_vn dX11_thrower_69 rfl) dX11_thrower_70) (rs_seq (p2 := 82) (rs_as (rr_f (rr_vn dX11_thrower_71 rfl) gfX11_44 dX11_thrower_72) (ri_2 ol_op_add (ri_vi dX11_thrower_75) (ri_ic dX11_thrower_77 (by unfold ol_inR; omega)) dX11_thrower_78) (ri_vi dX11_thrower_79) dX11_thrower_81) (rs_seq (p2 := 93) (rs_as (rr_f (rr_vn dX11_thrower_82 rfl) gfX11_44 dX11_thrower_83) (ri_2 ol_op_add (ri_vi dX11_thrower_86) (ri_ic dX11_thrower_88 (by unfold ol_inR; omega)) dX11_thrower_89) (ri_vi dX11_thrower_90) dX11_thrower_92) (rs_seq (p2 := 103) (rs_as (rr_f (rr_vn dX11_thrower_93 rfl) gfX11_44 dX11_thrower_94) (ri_2 ol_op_add (ri_vi dX11_thrower_97) (ri_ic dX11_thrower_99 (by unfold ol_inR; omega)) dX11_thrower_100) (ri_ic dX11_thrower_101 (by unfold ol_inR; omega)) dX11_thrower_102) (rs_seq (p2 := 113) (rs_uf ol_op_add (rr_vn dX11_thrower_103 rfl) dX11_thrower_104 dX11_thrower_105 (ri_ic dX11_thrower_108 (by unfold ol_inR; omega)) dX11_thrower_109 gfX11_219 pfX11_219 rfl dX11_thrower_110) (rs_ret (ri_2 ol_op_sub (ri_f (rr_vn dX11_thrower_113 rfl) gfX11_219 dX11_thrower_114) (ri_ic dX11_thrower_117 (by unfold ol_inR; omega)) dX11_thrower_118) rfl dX11_thrower_119))))))))))
theorem conX11_thrower (l : Launch) (K : ol_K) : ol_Con l K yX11_thrower mX11_thrower fX11_thrower := ol_con (M := mX11_thrower) (by decide) rfl rfl (imX11_thrower · K)
theorem dX11_tryRounds_0 : decode cX11_tryRounds 0 = .ok (.aload_n 0, 1) := by decide +kernel
theorem dX11_tryRounds_1 : decode cX11_tryRounds 1 = .ok (.iconst 0, 1) := by decide +kernel
theorem dX11_tryRounds_2 : decode cX11_tryRounds 2 = .ok (.sipush 780, 3) := by decide +kernel
theorem dX11_tryRounds_5 : decode cX11_tryRounds 5 = .ok (.invokevirtual 108, 3) := by decide +kernel
theorem dX11_tryRounds_8 : decode cX11_tryRounds 8 = .ok (.aload_n 0, 1) := by decide +kernel
theorem dX11_tryRounds_9 : decode cX11_tryRounds 9 = .ok (.iconst 0, 1) := by decide +kernel
theorem dX11_tryRounds_10 : decode cX11_tryRounds 10 = .ok (.iconst 1, 1) := by decide +kernel
theorem dX11_tryRounds_11 : decode cX11_tryRounds 11 = .ok (.invokevirtual 222, 3) := by decide +kernel
theorem dX11_tryRounds_14 : decode cX11_tryRounds 14 = .ok (.iconst 0, 1) := by decide +kernel
theorem dX11_tryRounds_15 : decode cX11_tryRounds 15 = .ok (.istore_n 3, 1) := by decide +kernel
theorem dX11_tryRounds_16 : decode cX11_tryRounds 16 = .ok (.iconst 0, 1) := by decide +kernel
theorem dX11_tryRounds_17 : decode cX11_tryRounds 17 = .ok (.istore 4, 2) := by decide +kernel
theorem dX11_tryRounds_19 : decode cX11_tryRounds 19 = .ok (.iload 4, 2) := by decide +kernel
theorem dX11_tryRounds_21 : decode cX11_tryRounds 21 = .ok (.iconst 4, 1) := by decide +kernel
theorem dX11_tryRounds_22 : decode cX11_tryRounds 22 = .ok (.if_icmp .ge 17, 3) := by decide +kernel
theorem dX11_tryRounds_25 : decode cX11_tryRounds 25 = .ok (.aload_n 0, 1) := by decide +kernel
theorem dX11_tryRounds_26 : decode cX11_tryRounds 26 = .ok (.getfield 50, 3) := by decide +kernel
theorem dX11_tryRounds_29 : decode cX11_tryRounds 29 = .ok (.iload 4, 2) := by decide +kernel
theorem dX11_tryRounds_31 : decode cX11_tryRounds 31 = .ok (.iconst 0, 1) := by decide +kernel
theorem dX11_tryRounds_32 : decode cX11_tryRounds 32 = .ok (.iastore, 1) := by decide +kernel
theorem dX11_tryRounds_33 : decode cX11_tryRounds 33 = .ok (.iinc 4 1, 3) := by decide +kernel
theorem dX11_tryRounds_36 : decode cX11_tryRounds 36 = .ok (.goto (-17), 3) := by decide +kernel
theorem dX11_tryRounds_39 : decode cX11_tryRounds 39 = .ok (.iconst 0, 1) := by decide +kernel
theorem dX11_tryRounds_40 : decode cX11_tryRounds 40 = .ok (.istore 4, 2) := by decide +kernel
theorem dX11_tryRounds_42 : decode cX11_tryRounds 42 = .ok (.iload 4, 2) := by decide +kernel
theorem dX11_tryRounds_44 : decode cX11_tryRounds 44 = .ok (.iload_n 1, 1) := by decide +kernel
theorem dX11_tryRounds_45 : decode cX11_tryRounds 45 = .ok (.if_icmp .ge 170, 3) := by decide +kernel
theorem dX11_tryRounds_48 : decode cX11_tryRounds 48 = .ok (.iconst 1, 1) := by decide +kernel
theorem dX11_tryRounds_49 : decode cX11_tryRounds 49 = .ok (.istore 5, 2) := by decide +kernel
theorem dX11_tryRounds_51 : decode cX11_tryRounds 51 = .ok (.iconst 1, 1) := by decide +kernel
theorem dX11_tryRounds_52 : decode cX11_tryRounds 52 = .ok (.istore 6, 2) := by decide +kernel
theorem dX11_tryRounds_54 : decode cX11_tryRounds 54 = .ok (.iload 6, 2) := by decide +kernel
theorem dX11_tryRounds_56 : decode cX11_tryRounds 56 = .ok (.aload_n 0, 1) := by decide +kernel
theorem dX11_tryRounds_57 : decode cX11_tryRounds 57 = .ok (.getfield 219, 3) := by decide +kernel
theorem dX11_tryRounds_60 : decode cX11_tryRounds 60 = .ok (.if_icmp .ge 16, 3) := by decide +kernel
theorem dX11_tryRounds_63 : decode cX11_tryRounds 63 = .ok (.iload 5, 2) := by decide +kernel
theorem dX11_tryRounds_65 : decode cX11_tryRounds 65 = .ok (.bipush 10, 2) := by decide +kernel
theorem dX11_tryRounds_67 : decode cX11_tryRounds 67 = .ok (.imul, 1) := by decide +kernel
theorem dX11_tryRounds_68 : decode cX11_tryRounds 68 = .ok (.istore 5, 2) := by decide +kernel
theorem dX11_tryRounds_70 : decode cX11_tryRounds 70 = .ok (.iinc 6 1, 3) := by decide +kernel
theorem dX11_tryRounds_73 : decode cX11_tryRounds 73 = .ok (.goto (-19), 3) := by decide +kernel
theorem dX11_tryRounds_76 : decode cX11_tryRounds 76 = .ok (.iconst 0, 1) := by decide +kernel
theorem dX11_tryRounds_77 : decode cX11_tryRounds 77 = .ok (.istore 6, 2) := by decide +kernel
theorem dX11_tryRounds_79 : decode cX11_tryRounds 79 = .ok (.iload 6, 2) := by decide +kernel
theorem dX11_tryRounds_81 : decode cX11_tryRounds 81 = .ok (.aload_n 0, 1) := by decide +kernel
theorem dX11_tryRounds_82 : decode cX11_tryRounds 82 = .ok (.getfield 219, 3) := by decide +kernel
theorem dX11_tryRounds_85 : decode cX11_tryRounds 85 = .ok (.if_icmp .ge 124, 3) := by decide +kernel
theorem dX11_tryRounds_88 : decode cX11_tryRounds 88 = .ok (.iload_n 2, 1) := by decide +kernel
theorem dX11_tryRounds_89 : decode cX11_tryRounds 89 = .ok (.iload 5, 2) := by decide +kernel
theorem dX11_tryRounds_91 : decode cX11_tryRounds 91 = .ok (.idiv, 1) := by decide +kernel
theorem dX11_tryRounds_92 : decode cX11_tryRounds 92 = .ok (.bipush 10, 2) := by decide +kernel
theorem dX11_tryRounds_94 : decode cX11_tryRounds 94 = .ok (.irem, 1) := by decide +kernel
theorem dX11_tryRounds_95 : decode cX11_tryRounds 95 = .ok (.istore 7, 2) := by decide +kernel
theorem dX11_tryRounds_97 : decode cX11_tryRounds 97 = .ok (.bipush 24, 2) := by decide +kernel
theorem dX11_tryRounds_99 : decode cX11_tryRounds 99 = .ok (.bipush 6, 2) := by decide +kernel
theorem dX11_tryRounds_101 : decode cX11_tryRounds 101 = .ok (.iload 7, 2) := by decide +kernel
theorem dX11_tryRounds_103 : decode cX11_tryRounds 103 = .ok (.imul, 1) := by decide +kernel
theorem dX11_tryRounds_104 : decode cX11_tryRounds 104 = .ok (.iadd, 1) := by decide +kernel
theorem dX11_tryRounds_105 : decode cX11_tryRounds 105 = .ok (.istore 8, 2) := by decide +kernel
theorem dX11_tryRounds_107 : decode cX11_tryRounds 107 = .ok (.aload_n 0, 1) := by decide +kernel
theorem dX11_tryRounds_108 : decode cX11_tryRounds 108 = .ok (.sipush 780, 3) := by decide +kernel
theorem dX11_tryRounds_111 : decode cX11_tryRounds 111 = .ok (.aload_n 0, 1) := by decide +kernel
theorem dX11_tryRounds_112 : decode cX11_tryRounds 112 = .ok (.getfield 44, 3) := by decide +kernel
theorem dX11_tryRounds_115 : decode cX11_tryRounds 115 = .ok (.iload 8, 2) := by decide +kernel
theorem dX11_tryRounds_117 : decode cX11_tryRounds 117 = .ok (.iaload, 1) := by decide +kernel
theorem dX11_tryRounds_118 : decode cX11_tryRounds 118 = .ok (.aload_n 0, 1) := by decide +kernel
theorem dX11_tryRounds_119 : decode cX11_tryRounds 119 = .ok (.getfield 44, 3) := by decide +kernel
theorem dX11_tryRounds_122 : decode cX11_tryRounds 122 = .ok (.iload 8, 2) := by decide +kernel
theorem dX11_tryRounds_124 : decode cX11_tryRounds 124 = .ok (.iconst 1, 1) := by decide +kernel
theorem dX11_tryRounds_125 : decode cX11_tryRounds 125 = .ok (.iadd, 1) := by decide +kernel
theorem dX11_tryRounds_126 : decode cX11_tryRounds 126 = .ok (.iaload, 1) := by decide +kernel
theorem dX11_tryRounds_127 : decode cX11_tryRounds 127 = .ok (.aload_n 0, 1) := by decide +kernel
theorem dX11_tryRounds_128 : decode cX11_tryRounds 128 = .ok (.getfield 44, 3) := by decide +kernel
theorem dX11_tryRounds_131 : decode cX11_tryRounds 131 = .ok (.iload 8, 2) := by decide +kernel
theorem dX11_tryRounds_133 : decode cX11_tryRounds 133 = .ok (.iconst 2, 1) := by decide +kernel
theorem dX11_tryRounds_134 : decode cX11_tryRounds 134 = .ok (.iadd, 1) := by decide +kernel
theorem dX11_tryRounds_135 : decode cX11_tryRounds 135 = .ok (.iaload, 1) := by decide +kernel
theorem dX11_tryRounds_136 : decode cX11_tryRounds 136 = .ok (.aload_n 0, 1) := by decide +kernel
theorem dX11_tryRounds_137 : decode cX11_tryRounds 137 = .ok (.getfield 44, 3) := by decide +kernel
theorem dX11_tryRounds_140 : decode cX11_tryRounds 140 = .ok (.iload 8, 2) := by decide +kernel
theorem dX11_tryRounds_142 : decode cX11_tryRounds 142 = .ok (.iconst 3, 1) := by decide +kernel
theorem dX11_tryRounds_143 : decode cX11_tryRounds 143 = .ok (.iadd, 1) := by decide +kernel
theorem dX11_tryRounds_144 : decode cX11_tryRounds 144 = .ok (.iaload, 1) := by decide +kernel
theorem dX11_tryRounds_145 : decode cX11_tryRounds 145 = .ok (.invokevirtual 153, 3) := by decide +kernel
theorem dX11_tryRounds_148 : decode cX11_tryRounds 148 = .ok (.aload_n 0, 1) := by decide +kernel
theorem dX11_tryRounds_149 : decode cX11_tryRounds 149 = .ok (.aload_n 0, 1) := by decide +kernel
theorem dX11_tryRounds_150 : decode cX11_tryRounds 150 = .ok (.getfield 44, 3) := by decide +kernel
theorem dX11_tryRounds_153 : decode cX11_tryRounds 153 = .ok (.iload 8, 2) := by decide +kernel
theorem dX11_tryRounds_155 : decode cX11_tryRounds 155 = .ok (.iconst 3, 1) := by decide +kernel
theorem dX11_tryRounds_156 : decode cX11_tryRounds 156 = .ok (.iadd, 1) := by decide +kernel
theorem dX11_tryRounds_157 : decode cX11_tryRounds 157 = .ok (.iaload, 1) := by decide +kernel
theorem dX11_tryRounds_158 : decode cX11_tryRounds 158 = .ok (.sipush 1023, 3) := by decide +kernel
theorem dX11_tryRounds_161 : decode cX11_tryRounds 161 = .ok (.invokevirtual 170, 3) := by decide +kernel
theorem dX11_tryRounds_164 : decode cX11_tryRounds 164 = .ok (.invokestatic 183, 3) := by decide +kernel
theorem dX11_tryRounds_167 : decode cX11_tryRounds 167 = .ok (.istore 9, 2) := by decide +kernel
theorem dX11_tryRounds_169 : decode cX11_tryRounds 169 = .ok (.aload_n 0, 1) := by decide +kernel
theorem dX11_tryRounds_170 : decode cX11_tryRounds 170 = .ok (.getfield 50, 3) := by decide +kernel
theorem dX11_tryRounds_173 : decode cX11_tryRounds 173 = .ok (.iload 7, 2) := by decide +kernel
theorem dX11_tryRounds_175 : decode cX11_tryRounds 175 = .ok (.dup2, 1) := by decide +kernel
theorem dX11_tryRounds_176 : decode cX11_tryRounds 176 = .ok (.iaload, 1) := by decide +kernel
theorem dX11_tryRounds_177 : decode cX11_tryRounds 177 = .ok (.iload 9, 2) := by decide +kernel
theorem dX11_tryRounds_179 : decode cX11_tryRounds 179 = .ok (.iadd, 1) := by decide +kernel
theorem dX11_tryRounds_180 : decode cX11_tryRounds 180 = .ok (.iastore, 1) := by decide +kernel
theorem dX11_tryRounds_181 : decode cX11_tryRounds 181 = .ok (.iload_n 3, 1) := by decide +kernel
theorem dX11_tryRounds_182 : decode cX11_tryRounds 182 = .ok (.iload 9, 2) := by decide +kernel
theorem dX11_tryRounds_184 : decode cX11_tryRounds 184 = .ok (.iadd, 1) := by decide +kernel
theorem dX11_tryRounds_185 : decode cX11_tryRounds 185 = .ok (.istore_n 3, 1) := by decide +kernel
theorem dX11_tryRounds_186 : decode cX11_tryRounds 186 = .ok (.aload_n 0, 1) := by decide +kernel
theorem dX11_tryRounds_187 : decode cX11_tryRounds 187 = .ok (.iload 8, 2) := by decide +kernel
theorem dX11_tryRounds_189 : decode cX11_tryRounds 189 = .ok (.aload_n 0, 1) := by decide +kernel
theorem dX11_tryRounds_190 : decode cX11_tryRounds 190 = .ok (.invokevirtual 225, 3) := by decide +kernel
theorem dX11_tryRounds_193 : decode cX11_tryRounds 193 = .ok (.invokevirtual 228, 3) := by decide +kernel
theorem dX11_tryRounds_196 : decode cX11_tryRounds 196 = .ok (.iload 5, 2) := by decide +kernel
theorem dX11_tryRounds_198 : decode cX11_tryRounds 198 = .ok (.bipush 10, 2) := by decide +kernel
theorem dX11_tryRounds_200 : decode cX11_tryRounds 200 = .ok (.idiv, 1) := by decide +kernel
theorem dX11_tryRounds_201 : decode cX11_tryRounds 201 = .ok (.istore 5, 2) := by decide +kernel
theorem dX11_tryRounds_203 : decode cX11_tryRounds 203 = .ok (.iinc 6 1, 3) := by decide +kernel
theorem dX11_tryRounds_206 : decode cX11_tryRounds 206 = .ok (.goto (-127), 3) := by decide +kernel
theorem dX11_tryRounds_209 : decode cX11_tryRounds 209 = .ok (.iinc 4 1, 3) := by decide +kernel
theorem dX11_tryRounds_212 : decode cX11_tryRounds 212 = .ok (.goto (-170), 3) := by decide +kernel
theorem dX11_tryRounds_215 : decode cX11_tryRounds 215 = .ok (.iload_n 3, 1) := by decide +kernel
theorem dX11_tryRounds_216 : decode cX11_tryRounds 216 = .ok (.ireturn, 1) := by decide +kernel
def bX11_tryRounds : ol_SE := es_seq (es_of (ea_cv 11 fX11_copy (ea_r (er_v 0) (ea_i (ei_c 0) (ea_i (ei_c 780) (ea_0)))))) (es_seq (es_of (ea_cv 11 fX11_copyThrowers (ea_r (er_v 0) (ea_i (ei_c 0) (ea_i (ei_c 1) (ea_0)))))) (es_seq (es_set 3 (ei_c 0)) (es_seq (es_seq (es_set 4 (ei_c 0)) (es_wh (ec_2 ol_lt (ei_v 4) (ei_c 4)) (es_seq (es_as 100 (er_f 11 37 (er_v 0)) (ei_v 4) (ei_c 0)) (es_inc 4 1)))) (es_seq (es_seq (es_set 4 (ei_c 0)) (es_wh (ec_2 ol_lt (ei_v 4) (ei_v 1)) (es_seq (es_seq (es_set 5 (ei_c 1)) (es_seq (es_seq (es_set 6 (ei_c 1)) (es_wh (ec_2 ol_lt (ei_v 6) (ei_f 11 34 (er_v 0))) (es_seq (es_set 5 (ei_2 ol_mul (ei_v 5) (ei_c 10))) (es_inc 6 1)))) (es_seq (es_set 6 (ei_c 0)) (es_wh (ec_2 ol_lt (ei_v 6) (ei_f 11 34 (er_v 0))) (es_seq (es_seq (es_set 7 (ei_2 ol_rem (ei_2 ol_div (ei_v 2) (ei_v 5)) (ei_c 10))) (es_seq (es_set 8 (ei_2 ol_add (ei_c 24) (ei_2 ol_mul (ei_c 6) (ei_v 7)))) (es_seq (es_of (ea_cv 11 fX11_go (ea_r (er_v 0) (ea_i (ei_c 780) (ea_i (ei_a 100 (er_f 11 35 (er_v 0)) (ei_v 8)) (ea_i (ei_a 100 (er_f 11 35 (er_v 0)) (ei_2 ol_add (ei_v 8) (ei_c 1))) (ea_i (ei_a 100 (er_f 11 35 (er_v 0)) (ei_2 ol_add (ei_v 8) (ei_c 2))) (ea_i (ei_a 100 (er_f 11 35 (er_v 0)) (ei_2 ol_add (ei_v 8) (ei_c 3))) (ea_0))))))))) (es_seq (es_set 9 (ei_of (ea_cs fX11_bitsIn (ea_i (ei_of (ea_cv 11 fX11_pinsOf (ea_r (er_v 0) (ea_i (ei_a 100 (er_f 11 35 (er_v 0)) (ei_2 ol_add (ei_v 8) (ei_c 3))) (ea_i (ei_c 1023) (ea_0)))))) (ea_0))))) (es_seq (es_ua 100 (er_f 11 37 (er_v 0)) (ei_v 7) ol_add (ei_v 9)) (es_seq (es_set 3 (ei_2 ol_add (ei_v 3) (ei_v 9))) (es_seq (es_of (ea_cv 11 fX11_move (ea_r (er_v 0) (ea_i (ei_v 8) (ea_i (ei_of (ea_cv 11 fX11_cameHow (ea_r (er_v 0) (ea_0)))) (ea_0)))))) (es_set 5 (ei_2 ol_div (ei_v 5) (ei_c 10)))))))))) (es_inc 6 1)))))) (es_inc 4 1)))) (es_ret (ei_v 3))))))
def fX11_tryRounds : ol_FE := ol_fe 10 bX11_tryRounds
set_option maxRecDepth 20000 in
theorem imX11_tryRounds (x : ol_X) (K : ol_K) : IM_S x K mX11_tryRounds 0 0 bX11_tryRounds := rs_seq (p2 := 8) (rs_k (rk_v (Mc := mX11_copy) (conX11_copy _ K) (ra_r (rr_vn dX11_tryRounds_0 rfl) (ra_i (ri_ic dX11_tryRounds_1 (by unfold ol_inR; omega)) (ra_i (ri_si dX11_tryRounds_2 (by unfold ol_inR; omega) (by decide)) (ra_0)))) dX11_tryRounds_5 cwX11_108 tw_1015 tw_30 (by decide) rfl rfl ⟨rfl, rfl, Nat.le_of_ble_eq_true rfl⟩ (by decide) (by decide) (al_r (al_i (al_i al_0))))) (rs_seq (p2 := 14) (rs_k (rk_v (Mc := mX11_copyThrowers) (conX11_copyThrowers _ K) (ra_r (rr_vn dX11_tryRounds_8 rfl) (ra_i (ri_ic dX11_tryRounds_9 (by unfold ol_inR; omega)) (ra_i (ri_ic dX11_tryRounds_10 (by unfold ol_inR; omega)) (ra_0)))) dX11_tryRounds_11 cwX11_222 tw_1172 tw_48 (by decide) rfl rfl ⟨rfl, rfl, Nat.le_of_ble_eq_true rfl⟩ (by decide) (by decide) (al_r (al_i (al_i al_0))))) (rs_seq (p2 := 16) (rs_setn (ri_ic dX11_tryRounds_14 (by unfold ol_inR; omega)) dX11_tryRounds_15 rfl (ol_ltn rfl)) (rs_seq (p2 := 39) (rs_seq (p2 := 19) (rs_set (ri_ic dX11_tryRounds_16 (by unfold ol_inR; omega)) dX11_tryRounds_17 (ol_ltn rfl)) (rs_wh (pH := 19) (pB := 25) (pE := 39) (pG := 36) (rc_2F (pF := 39) ol_j2_ge_F (ri_vi dX11_tryRounds_19) (ri_ic dX11_tryRounds_21 (by unfold ol_inR; omega)) dX11_tryRounds_22 (by decide)) (rs_seq (p2 := 33) (rs_as (rr_f (rr_vn dX11_tryRounds_25 rfl) gfX11_50 dX11_tryRounds_26) (ri_vi dX11_tryRounds_29) (ri_ic dX11_tryRounds_31 (by unfold ol_inR; omega)) dX11_tryRounds_32) (rs_inc dX11_tryRounds_33 (ol_ltn rfl))) dX11_tryRounds_36 (by decide))) (rs_seq (p2 := 215) (rs_seq (p2 := 42) (rs_set (ri_ic dX11_tryRounds_39 (by unfold ol_inR; omega)) dX11_tryRounds_40 (ol_ltn rfl)) (rs_wh (pH := 42) (pB := 48) (pE := 215) (pG := 212) (rc_2F (pF := 215) ol_j2_ge_F (ri_vi dX11_tryRounds_42) (ri_vn dX11_tryRounds_44 rfl) dX11_tryRounds_45 (by decide)) (rs_seq (p2 := 209) (rs_seq (p2 := 51) (rs_set (ri_ic dX11_tryRounds_48 (by unfold ol_inR; omega)) dX11_tryRounds_49 (ol_ltn rfl)) (rs_seq (p2 := 76) (rs_seq (p2 := 54) (rs_set (ri_ic dX11_tryRounds_51 (by unfold ol_inR; omega)) dX11_tryRounds_52 (ol_ltn rfl)) (rs_wh (pH := 54) (pB := 63) (pE := 76) (pG := 73) (rc_2F (pF := 76) ol_j2_ge_F (ri_vi dX11_tryRounds_54) (ri_f (rr_vn dX11_tryRounds_56 rfl) gfX11_219 dX11_tryRounds_57) dX11_tryRounds_60 (by decide)) (rs_seq (p2 := 70) (rs_set (ri_2 ol_op_mul (ri_vi dX11_tryRounds_63) (ri_bi dX11_tryRounds_65 (by unfold ol_inR; omega) (by decide)) dX11_tryRounds_67) dX11_tryRounds_68 (ol_ltn rfl)) (rs_inc dX11_tryRounds_70 (ol_ltn rfl))) dX11_tryRounds_73 (by decide))) (rs_seq (p2 := 79) (rs_set (ri_ic dX11_tryRounds_76 (by unfold ol_inR; omega)) dX11_tryRounds_77 (ol_ltn rfl)) (rs_wh (pH := 79) (pB := 88) (pE := 209) (pG := 206) (rc_2F (pF := 209) ol_j2_ge_F (ri_vi dX11_tryRounds_79) (ri_f (rr_vn dX11_tryRounds_81 rfl) gfX11_219 dX11_tryRounds_82) dX11_tryRounds_85 (by decide)) (rs_seq (p2 := 203) (rs_seq (p2 := 97) (rs_set (ri_2 ol_op_rem (ri_2 ol_op_div (ri_vn dX11_tryRounds_88 rfl) (ri_vi dX11_tryRounds_89) dX11_tryRounds_91) (ri_bi dX11_tryRounds_92 (by unfold ol_inR; omega) (by decide)) dX11_tryRounds_94) dX11_tryRounds_95 (ol_ltn rfl)) (rs_seq (p2 := 107) (rs_set (ri_2 ol_op_add (ri_bi dX11_tryRounds_97 (by unfold ol_inR; omega) (by decide)) (ri_2 ol_op_mul (ri_bi dX11_tryRounds_99 (by unfold ol_inR; omega) (by decide)) (ri_vi dX11_tryRounds_101) dX11_tryRounds_103) dX11_tryRounds_104) dX11_tryRounds_105 (ol_ltn rfl)) (rs_seq (p2 := 148) (rs_k (rk_v (Mc := mX11_go) (conX11_go _ K) (ra_r (rr_vn dX11_tryRounds_107 rfl) (ra_i (ri_si dX11_tryRounds_108 (by unfold ol_inR; omega) (by decide)) (ra_i (ri_a (rr_f (rr_vn dX11_tryRounds_111 rfl) gfX11_44 dX11_tryRounds_112) (ri_vi dX11_tryRounds_115) rfl dX11_tryRounds_117) (ra_i (ri_a (rr_f (rr_vn dX11_tryRounds_118 rfl) gfX11_44 dX11_tryRounds_119) (ri_2 ol_op_add (ri_vi dX11_tryRounds_122) (ri_ic dX11_tryRounds_124 (by unfold ol_inR; omega)) dX11_tryRounds_125) rfl dX11_tryRounds_126) (ra_i (ri_a (rr_f (rr_vn dX11_tryRounds_127 rfl) gfX11_44 dX11_tryRounds_128) (ri_2 ol_op_add (ri_vi dX11_tryRounds_131) (ri_ic dX11_tryRounds_133 (by unfold ol_inR; omega)) dX11_tryRounds_134) rfl dX11_tryRounds_135) (ra_i (ri_a (rr_f (rr_vn dX11_tryRounds_136 rfl) gfX11_44 dX11_tryRounds_137) (ri_2 ol_op_add (ri_vi dX11_tryRounds_140) (ri_ic dX11_tryRounds_142 (by unfold ol_inR; omega)) dX11_tryRounds_143) rfl dX11_tryRounds_144) (ra_0))))))) dX11_tryRounds_145 cwX11_153 tw_1069 tw_36 (by decide) rfl rfl ⟨rfl, rfl, Nat.le_of_ble_eq_true rfl⟩ (by decide) (by decide) (al_r (al_i (al_i (al_i (al_i (al_i al_0)))))))) (rs_seq (p2 := 169) (rs_set (ri_k (rk_s (Mc := mX11_bitsIn) (conX11_bitsIn _ K) (ra_i (ri_k (rk_v (Mc := mX11_pinsOf) (conX11_pinsOf _ K) (ra_r (rr_vn dX11_tryRounds_148 rfl) (ra_i (ri_a (rr_f (rr_vn dX11_tryRounds_149 rfl) gfX11_44 dX11_tryRounds_150) (ri_2 ol_op_add (ri_vi dX11_tryRounds_153) (ri_ic dX11_tryRounds_155 (by unfold ol_inR; omega)) dX11_tryRounds_156) rfl dX11_tryRounds_157) (ra_i (ri_si dX11_tryRounds_158 (by unfold ol_inR; omega) (by decide)) (ra_0)))) dX11_tryRounds_161 cwX11_170 tw_1077 tw_38 (by decide) rfl rfl ⟨rfl, rfl, Nat.le_of_ble_eq_true rfl⟩ (by decide) (by decide) (al_r (al_i (al_i al_0)))) (Or.inl rfl)) (ra_0)) dX11_tryRounds_164 cwX11_183 tw_1080 ⟨rfl, rfl, Nat.le_of_ble_eq_true rfl⟩ (by decide) (by decide) (al_i al_0)) (Or.inl rfl)) dX11_tryRounds_167 (ol_ltn rfl)) (rs_seq (p2 := 181) (rs_ua ol_op_add (rr_f (rr_vn dX11_tryRounds_169 rfl) gfX11_50 dX11_tryRounds_170) (ri_vi dX11_tryRounds_173) dX11_tryRounds_175 dX11_tryRounds_176 (ri_vi dX11_tryRounds_177) dX11_tryRounds_179 dX11_tryRounds_180) (rs_seq (p2 := 186) (rs_setn (ri_2 ol_op_add (ri_vn dX11_tryRounds_181 rfl) (ri_vi dX11_tryRounds_182) dX11_tryRounds_184) dX11_tryRounds_185 rfl (ol_ltn rfl)) (rs_seq (p2 := 196) (rs_k (rk_v (Mc := mX11_move) (conX11_move _ K) (ra_r (rr_vn dX11_tryRounds_186 rfl) (ra_i (ri_vi dX11_tryRounds_187) (ra_i (ri_k (rk_v (Mc := mX11_cameHow) (conX11_cameHow _ K) (ra_r (rr_vn dX11_tryRounds_189 rfl) (ra_0)) dX11_tryRounds_190 cwX11_225 tw_1152 tw_44 (by decide) rfl rfl ⟨rfl, rfl, Nat.le_of_ble_eq_true rfl⟩ (by decide) (by decide) (al_r al_0)) (Or.inl rfl)) (ra_0)))) dX11_tryRounds_193 cwX11_228 tw_1156 tw_45 (by decide) rfl rfl ⟨rfl, rfl, Nat.le_of_ble_eq_true rfl⟩ (by decide) (by decide) (al_r (al_i (al_i al_0))))) (rs_set (ri_2 ol_op_div (ri_vi dX11_tryRounds_196) (ri_bi dX11_tryRounds_198 (by unfold ol_inR; omega) (by decide)) dX11_tryRounds_200) dX11_tryRounds_201 (ol_ltn rfl))))))))) (rs_inc dX11_tryRounds_203 (ol_ltn rfl))) dX11_tryRounds_206 (by decide))))) (rs_inc dX11_tryRounds_209 (ol_ltn rfl))) dX11_tryRounds_212 (by decide))) (rs_ret (ri_vn dX11_tryRounds_215 rfl) rfl dX11_tryRounds_216)))))
theorem conX11_tryRounds (l : Launch) (K : ol_K) : ol_Con l K yX11_tryRounds mX11_tryRounds fX11_tryRounds := ol_con (M := mX11_tryRounds) (by decide) rfl rfl (imX11_tryRounds · K)
theorem dX11_clue_0 : decode cX11_clue 0 = .ok (.iload_n 1, 1) := by decide +kernel
theorem dX11_clue_1 : decode cX11_clue 1 = .ok (.iload_n 2, 1) := by decide +kernel
theorem dX11_clue_2 : decode cX11_clue 2 = .ok (.iload_n 3, 1) := by decide +kernel
theorem dX11_clue_3 : decode cX11_clue 3 = .ok (.iload 4, 2) := by decide +kernel
theorem dX11_clue_5 : decode cX11_clue 5 = .ok (.invokestatic 176, 3) := by decide +kernel
theorem dX11_clue_8 : decode cX11_clue 8 = .ok (.ifCond .eq 15, 3) := by decide +kernel
theorem dX11_clue_11 : decode cX11_clue 11 = .ok (.iload 5, 2) := by decide +kernel
theorem dX11_clue_13 : decode cX11_clue 13 = .ok (.iconst (-1), 1) := by decide +kernel
theorem dX11_clue_14 : decode cX11_clue 14 = .ok (.sipush 389, 3) := by decide +kernel
theorem dX11_clue_17 : decode cX11_clue 17 = .ok (.invokestatic 63, 3) := by decide +kernel
theorem dX11_clue_20 : decode cX11_clue 20 = .ok (.ifCond .ne 5, 3) := by decide +kernel
theorem dX11_clue_23 : decode cX11_clue 23 = .ok (.iconst (-1), 1) := by decide +kernel
theorem dX11_clue_24 : decode cX11_clue 24 = .ok (.ireturn, 1) := by decide +kernel
theorem dX11_clue_25 : decode cX11_clue 25 = .ok (.aload_n 0, 1) := by decide +kernel
theorem dX11_clue_26 : decode cX11_clue 26 = .ok (.getfield 240, 3) := by decide +kernel
theorem dX11_clue_29 : decode cX11_clue 29 = .ok (.bipush 6, 2) := by decide +kernel
theorem dX11_clue_31 : decode cX11_clue 31 = .ok (.if_icmp .ne 6, 3) := by decide +kernel
theorem dX11_clue_34 : decode cX11_clue 34 = .ok (.bipush (-3), 2) := by decide +kernel
theorem dX11_clue_36 : decode cX11_clue 36 = .ok (.ireturn, 1) := by decide +kernel
theorem dX11_clue_37 : decode cX11_clue 37 = .ok (.iconst 5, 1) := by decide +kernel
theorem dX11_clue_38 : decode cX11_clue 38 = .ok (.aload_n 0, 1) := by decide +kernel
theorem dX11_clue_39 : decode cX11_clue 39 = .ok (.getfield 240, 3) := by decide +kernel
theorem dX11_clue_42 : decode cX11_clue 42 = .ok (.imul, 1) := by decide +kernel
theorem dX11_clue_43 : decode cX11_clue 43 = .ok (.istore 6, 2) := by decide +kernel
theorem dX11_clue_45 : decode cX11_clue 45 = .ok (.aload_n 0, 1) := by decide +kernel
theorem dX11_clue_46 : decode cX11_clue 46 = .ok (.getfield 53, 3) := by decide +kernel
theorem dX11_clue_49 : decode cX11_clue 49 = .ok (.iload 6, 2) := by decide +kernel
theorem dX11_clue_51 : decode cX11_clue 51 = .ok (.iload_n 1, 1) := by decide +kernel
theorem dX11_clue_52 : decode cX11_clue 52 = .ok (.iastore, 1) := by decide +kernel
theorem dX11_clue_53 : decode cX11_clue 53 = .ok (.aload_n 0, 1) := by decide +kernel
theorem dX11_clue_54 : decode cX11_clue 54 = .ok (.getfield 53, 3) := by decide +kernel
theorem dX11_clue_57 : decode cX11_clue 57 = .ok (.iload 6, 2) := by decide +kernel
theorem dX11_clue_59 : decode cX11_clue 59 = .ok (.iconst 1, 1) := by decide +kernel
theorem dX11_clue_60 : decode cX11_clue 60 = .ok (.iadd, 1) := by decide +kernel
theorem dX11_clue_61 : decode cX11_clue 61 = .ok (.iload_n 2, 1) := by decide +kernel
theorem dX11_clue_62 : decode cX11_clue 62 = .ok (.iastore, 1) := by decide +kernel
theorem dX11_clue_63 : decode cX11_clue 63 = .ok (.aload_n 0, 1) := by decide +kernel
theorem dX11_clue_64 : decode cX11_clue 64 = .ok (.getfield 53, 3) := by decide +kernel
theorem dX11_clue_67 : decode cX11_clue 67 = .ok (.iload 6, 2) := by decide +kernel
theorem dX11_clue_69 : decode cX11_clue 69 = .ok (.iconst 2, 1) := by decide +kernel
theorem dX11_clue_70 : decode cX11_clue 70 = .ok (.iadd, 1) := by decide +kernel
theorem dX11_clue_71 : decode cX11_clue 71 = .ok (.iload_n 3, 1) := by decide +kernel
theorem dX11_clue_72 : decode cX11_clue 72 = .ok (.iastore, 1) := by decide +kernel
theorem dX11_clue_73 : decode cX11_clue 73 = .ok (.aload_n 0, 1) := by decide +kernel
theorem dX11_clue_74 : decode cX11_clue 74 = .ok (.getfield 53, 3) := by decide +kernel
theorem dX11_clue_77 : decode cX11_clue 77 = .ok (.iload 6, 2) := by decide +kernel
theorem dX11_clue_79 : decode cX11_clue 79 = .ok (.iconst 3, 1) := by decide +kernel
theorem dX11_clue_80 : decode cX11_clue 80 = .ok (.iadd, 1) := by decide +kernel
theorem dX11_clue_81 : decode cX11_clue 81 = .ok (.iload 4, 2) := by decide +kernel
theorem dX11_clue_83 : decode cX11_clue 83 = .ok (.iastore, 1) := by decide +kernel
theorem dX11_clue_84 : decode cX11_clue 84 = .ok (.aload_n 0, 1) := by decide +kernel
theorem dX11_clue_85 : decode cX11_clue 85 = .ok (.getfield 53, 3) := by decide +kernel
theorem dX11_clue_88 : decode cX11_clue 88 = .ok (.iload 6, 2) := by decide +kernel
theorem dX11_clue_90 : decode cX11_clue 90 = .ok (.iconst 4, 1) := by decide +kernel
theorem dX11_clue_91 : decode cX11_clue 91 = .ok (.iadd, 1) := by decide +kernel
theorem dX11_clue_92 : decode cX11_clue 92 = .ok (.iload 5, 2) := by decide +kernel
theorem dX11_clue_94 : decode cX11_clue 94 = .ok (.iastore, 1) := by decide +kernel
theorem dX11_clue_95 : decode cX11_clue 95 = .ok (.aload_n 0, 1) := by decide +kernel
theorem dX11_clue_96 : decode cX11_clue 96 = .ok (.dup, 1) := by decide +kernel
theorem dX11_clue_97 : decode cX11_clue 97 = .ok (.getfield 240, 3) := by decide +kernel
theorem dX11_clue_100 : decode cX11_clue 100 = .ok (.iconst 1, 1) := by decide +kernel
theorem dX11_clue_101 : decode cX11_clue 101 = .ok (.iadd, 1) := by decide +kernel
theorem dX11_clue_102 : decode cX11_clue 102 = .ok (.putfield 240, 3) := by decide +kernel
theorem dX11_clue_105 : decode cX11_clue 105 = .ok (.aload_n 0, 1) := by decide +kernel
theorem dX11_clue_106 : decode cX11_clue 106 = .ok (.getfield 240, 3) := by decide +kernel
theorem dX11_clue_109 : decode cX11_clue 109 = .ok (.ireturn, 1) := by decide +kernel
def bX11_clue : ol_SE := es_seq (es_if (ec_or (ec_not (ec_z ol_ne (ei_of (ea_cs fX11_isShot (ea_i (ei_v 1) (ea_i (ei_v 2) (ea_i (ei_v 3) (ea_i (ei_v 4) (ea_0))))))))) (ec_not (ec_z ol_ne (ei_of (ea_cs fX11_in (ea_i (ei_v 5) (ea_i (ei_c (-1)) (ea_i (ei_c 389) (ea_0))))))))) (es_ret (ei_c (-1))) es_skip) (es_seq (es_if (ec_2 ol_eq (ei_f 11 38 (er_v 0)) (ei_c 6)) (es_ret (ei_c (-3))) es_skip) (es_seq (es_set 6 (ei_2 ol_mul (ei_c 5) (ei_f 11 38 (er_v 0)))) (es_seq (es_as 100 (er_f 11 39 (er_v 0)) (ei_v 6) (ei_v 1)) (es_seq (es_as 100 (er_f 11 39 (er_v 0)) (ei_2 ol_add (ei_v 6) (ei_c 1)) (ei_v 2)) (es_seq (es_as 100 (er_f 11 39 (er_v 0)) (ei_2 ol_add (ei_v 6) (ei_c 2)) (ei_v 3)) (es_seq (es_as 100 (er_f 11 39 (er_v 0)) (ei_2 ol_add (ei_v 6) (ei_c 3)) (ei_v 4)) (es_seq (es_as 100 (er_f 11 39 (er_v 0)) (ei_2 ol_add (ei_v 6) (ei_c 4)) (ei_v 5)) (es_seq (es_uf 11 38 (er_v 0) ol_add (ei_c 1)) (es_ret (ei_f 11 38 (er_v 0)))))))))))
def fX11_clue : ol_FE := ol_fe 7 bX11_clue
set_option maxRecDepth 20000 in
theorem imX11_clue (x : ol_X) (K : ol_K) : IM_S x K mX11_clue 0 0 bX11_clue := rs_seq (p2 := 25) (rs_if (pT := 23) (pF := 25) (pE := 25) (rc_or (p2 := 11) (pT := 23) (pF := 25) (rc_not (rc_zF (pF := 23) ol_j1_eq_F (ri_k (rk_s (Mc := mX11_isShot) (conX11_isShot _ K) (ra_i (ri_vn dX11_clue_0 rfl) (ra_i (ri_vn dX11_clue_1 rfl) (ra_i (ri_vn dX11_clue_2 rfl) (ra_i (ri_vi dX11_clue_3) (ra_0))))) dX11_clue_5 cwX11_176 tw_1061 ⟨rfl, rfl, Nat.le_of_ble_eq_true rfl⟩ (by decide) (by decide) (al_i (al_i (al_i (al_i al_0))))) (Or.inr (Or.inl rfl))) dX11_clue_8 (by decide))) (rc_not (rc_zT (pT := 25) ol_j1_ne_T (ri_k (rk_s (Mc := mX11_in) (conX11_in _ K) (ra_i (ri_vi dX11_clue_11) (ra_i (ri_ic dX11_clue_13 (by unfold ol_inR; omega)) (ra_i (ri_si dX11_clue_14 (by unfold ol_inR; omega) (by decide)) (ra_0)))) dX11_clue_17 cwX11_63 tw_981 ⟨rfl, rfl, Nat.le_of_ble_eq_true rfl⟩ (by decide) (by decide) (al_i (al_i (al_i al_0)))) (Or.inr (Or.inl rfl))) dX11_clue_20 (by decide)))) (rs_ret (ri_ic dX11_clue_23 (by unfold ol_inR; omega)) rfl dX11_clue_24) rs_skip) (rs_seq (p2 := 37) (rs_if (pT := 34) (pF := 37) (pE := 37) (rc_2F (pF := 37) ol_j2_ne_F (ri_f (rr_vn dX11_clue_25 rfl) gfX11_240 dX11_clue_26) (ri_bi dX11_clue_29 (by unfold ol_inR; omega) (by decide)) dX11_clue_31 (by decide)) (rs_ret (ri_bi dX11_clue_34 (by unfold ol_inR; omega) (by decide)) rfl dX11_clue_36) rs_skip) (rs_seq (p2 := 45) (rs_set (ri_2 ol_op_mul (ri_ic dX11_clue_37 (by unfold ol_inR; omega)) (ri_f (rr_vn dX11_clue_38 rfl) gfX11_240 dX11_clue_39) dX11_clue_42) dX11_clue_43 (ol_ltn rfl)) (rs_seq (p2 := 53) (rs_as (rr_f (rr_vn dX11_clue_45 rfl) gfX11_53 dX11_clue_46) (ri_vi dX11_clue_49) (ri_vn dX11_clue_51 rfl) dX11_clue_52) (rs_seq (p2 := 63) (rs_as (rr_f (rr_vn dX11_clue_53 rfl) gfX11_53 dX11_clue_54) (ri_2 ol_op_add (ri_vi dX11_clue_57) (ri_ic dX11_clue_59 (by unfold ol_inR; omega)) dX11_clue_60) (ri_vn dX11_clue_61 rfl) dX11_clue_62) (rs_seq (p2 := 73) (rs_as (rr_f (rr_vn dX11_clue_63 rfl) gfX11_53 dX11_clue_64) (ri_2 ol_op_add (ri_vi dX11_clue_67) (ri_ic dX11_clue_69 (by unfold ol_inR; omega)) dX11_clue_70) (ri_vn dX11_clue_71 rfl) dX11_clue_72) (rs_seq (p2 := 84) (rs_as (rr_f (rr_vn dX11_clue_73 rfl) gfX11_53 dX11_clue_74) (ri_2 ol_op_add (ri_vi dX11_clue_77) (ri_ic dX11_clue_79 (by unfold ol_inR; omega)) dX11_clue_80) (ri_vi dX11_clue_81) dX11_clue_83) (rs_seq (p2 := 95) (rs_as (rr_f (rr_vn dX11_clue_84 rfl) gfX11_53 dX11_clue_85) (ri_2 ol_op_add (ri_vi dX11_clue_88) (ri_ic dX11_clue_90 (by unfold ol_inR; omega)) dX11_clue_91) (ri_vi dX11_clue_92) dX11_clue_94) (rs_seq (p2 := 105) (rs_uf ol_op_add (rr_vn dX11_clue_95 rfl) dX11_clue_96 dX11_clue_97 (ri_ic dX11_clue_100 (by unfold ol_inR; omega)) dX11_clue_101 gfX11_240 pfX11_240 rfl dX11_clue_102) (rs_ret (ri_f (rr_vn dX11_clue_105 rfl) gfX11_240 dX11_clue_106) rfl dX11_clue_109)))))))))
theorem conX11_clue (l : Launch) (K : ol_K) : ol_Con l K yX11_clue mX11_clue fX11_clue := ol_con (M := mX11_clue) (by decide) rfl rfl (imX11_clue · K)
theorem dX11_fits_0 : decode cX11_fits 0 = .ok (.iconst 0, 1) := by decide +kernel
theorem dX11_fits_1 : decode cX11_fits 1 = .ok (.istore_n 1, 1) := by decide +kernel
theorem dX11_fits_2 : decode cX11_fits 2 = .ok (.iconst 0, 1) := by decide +kernel
theorem dX11_fits_3 : decode cX11_fits 3 = .ok (.istore_n 2, 1) := by decide +kernel
theorem dX11_fits_4 : decode cX11_fits 4 = .ok (.iload_n 2, 1) := by decide +kernel
theorem dX11_fits_5 : decode cX11_fits 5 = .ok (.iconst 4, 1) := by decide +kernel
theorem dX11_fits_6 : decode cX11_fits 6 = .ok (.if_icmp .ge 147, 3) := by decide +kernel
theorem dX11_fits_9 : decode cX11_fits 9 = .ok (.aload_n 0, 1) := by decide +kernel
theorem dX11_fits_10 : decode cX11_fits 10 = .ok (.iload_n 2, 1) := by decide +kernel
theorem dX11_fits_11 : decode cX11_fits 11 = .ok (.invokevirtual 115, 3) := by decide +kernel
theorem dX11_fits_14 : decode cX11_fits 14 = .ok (.istore_n 3, 1) := by decide +kernel
theorem dX11_fits_15 : decode cX11_fits 15 = .ok (.aload_n 0, 1) := by decide +kernel
theorem dX11_fits_16 : decode cX11_fits 16 = .ok (.sipush 1560, 3) := by decide +kernel
theorem dX11_fits_19 : decode cX11_fits 19 = .ok (.sipush 780, 3) := by decide +kernel
theorem dX11_fits_22 : decode cX11_fits 22 = .ok (.iload_n 2, 1) := by decide +kernel
theorem dX11_fits_23 : decode cX11_fits 23 = .ok (.imul, 1) := by decide +kernel
theorem dX11_fits_24 : decode cX11_fits 24 = .ok (.iadd, 1) := by decide +kernel
theorem dX11_fits_25 : decode cX11_fits 25 = .ok (.sipush 780, 3) := by decide +kernel
theorem dX11_fits_28 : decode cX11_fits 28 = .ok (.invokevirtual 108, 3) := by decide +kernel
theorem dX11_fits_31 : decode cX11_fits 31 = .ok (.iconst 0, 1) := by decide +kernel
theorem dX11_fits_32 : decode cX11_fits 32 = .ok (.istore 4, 2) := by decide +kernel
theorem dX11_fits_34 : decode cX11_fits 34 = .ok (.iload 4, 2) := by decide +kernel
theorem dX11_fits_36 : decode cX11_fits 36 = .ok (.aload_n 0, 1) := by decide +kernel
theorem dX11_fits_37 : decode cX11_fits 37 = .ok (.getfield 240, 3) := by decide +kernel
theorem dX11_fits_40 : decode cX11_fits 40 = .ok (.if_icmp .ge 93, 3) := by decide +kernel
theorem dX11_fits_43 : decode cX11_fits 43 = .ok (.iload_n 3, 1) := by decide +kernel
theorem dX11_fits_44 : decode cX11_fits 44 = .ok (.ifCond .eq 89, 3) := by decide +kernel
theorem dX11_fits_47 : decode cX11_fits 47 = .ok (.iconst 5, 1) := by decide +kernel
theorem dX11_fits_48 : decode cX11_fits 48 = .ok (.iload 4, 2) := by decide +kernel
theorem dX11_fits_50 : decode cX11_fits 50 = .ok (.imul, 1) := by decide +kernel
theorem dX11_fits_51 : decode cX11_fits 51 = .ok (.istore 5, 2) := by decide +kernel
theorem dX11_fits_53 : decode cX11_fits 53 = .ok (.aload_n 0, 1) := by decide +kernel
theorem dX11_fits_54 : decode cX11_fits 54 = .ok (.sipush 780, 3) := by decide +kernel
theorem dX11_fits_57 : decode cX11_fits 57 = .ok (.aload_n 0, 1) := by decide +kernel
theorem dX11_fits_58 : decode cX11_fits 58 = .ok (.getfield 53, 3) := by decide +kernel
theorem dX11_fits_61 : decode cX11_fits 61 = .ok (.iload 5, 2) := by decide +kernel
theorem dX11_fits_63 : decode cX11_fits 63 = .ok (.iaload, 1) := by decide +kernel
theorem dX11_fits_64 : decode cX11_fits 64 = .ok (.aload_n 0, 1) := by decide +kernel
theorem dX11_fits_65 : decode cX11_fits 65 = .ok (.getfield 53, 3) := by decide +kernel
theorem dX11_fits_68 : decode cX11_fits 68 = .ok (.iload 5, 2) := by decide +kernel
theorem dX11_fits_70 : decode cX11_fits 70 = .ok (.iconst 1, 1) := by decide +kernel
theorem dX11_fits_71 : decode cX11_fits 71 = .ok (.iadd, 1) := by decide +kernel
theorem dX11_fits_72 : decode cX11_fits 72 = .ok (.iaload, 1) := by decide +kernel
theorem dX11_fits_73 : decode cX11_fits 73 = .ok (.aload_n 0, 1) := by decide +kernel
theorem dX11_fits_74 : decode cX11_fits 74 = .ok (.getfield 53, 3) := by decide +kernel
theorem dX11_fits_77 : decode cX11_fits 77 = .ok (.iload 5, 2) := by decide +kernel
theorem dX11_fits_79 : decode cX11_fits 79 = .ok (.iconst 2, 1) := by decide +kernel
theorem dX11_fits_80 : decode cX11_fits 80 = .ok (.iadd, 1) := by decide +kernel
theorem dX11_fits_81 : decode cX11_fits 81 = .ok (.iaload, 1) := by decide +kernel
theorem dX11_fits_82 : decode cX11_fits 82 = .ok (.aload_n 0, 1) := by decide +kernel
theorem dX11_fits_83 : decode cX11_fits 83 = .ok (.getfield 53, 3) := by decide +kernel
theorem dX11_fits_86 : decode cX11_fits 86 = .ok (.iload 5, 2) := by decide +kernel
theorem dX11_fits_88 : decode cX11_fits 88 = .ok (.iconst 3, 1) := by decide +kernel
theorem dX11_fits_89 : decode cX11_fits 89 = .ok (.iadd, 1) := by decide +kernel
theorem dX11_fits_90 : decode cX11_fits 90 = .ok (.iaload, 1) := by decide +kernel
theorem dX11_fits_91 : decode cX11_fits 91 = .ok (.invokevirtual 153, 3) := by decide +kernel
theorem dX11_fits_94 : decode cX11_fits 94 = .ok (.aload_n 0, 1) := by decide +kernel
theorem dX11_fits_95 : decode cX11_fits 95 = .ok (.getfield 53, 3) := by decide +kernel
theorem dX11_fits_98 : decode cX11_fits 98 = .ok (.iload 5, 2) := by decide +kernel
theorem dX11_fits_100 : decode cX11_fits 100 = .ok (.iconst 4, 1) := by decide +kernel
theorem dX11_fits_101 : decode cX11_fits 101 = .ok (.iadd, 1) := by decide +kernel
theorem dX11_fits_102 : decode cX11_fits 102 = .ok (.iaload, 1) := by decide +kernel
theorem dX11_fits_103 : decode cX11_fits 103 = .ok (.aload_n 0, 1) := by decide +kernel
theorem dX11_fits_104 : decode cX11_fits 104 = .ok (.getfield 147, 3) := by decide +kernel
theorem dX11_fits_107 : decode cX11_fits 107 = .ok (.ifCond .eq 7, 3) := by decide +kernel
theorem dX11_fits_110 : decode cX11_fits 110 = .ok (.iconst (-1), 1) := by decide +kernel
theorem dX11_fits_111 : decode cX11_fits 111 = .ok (.goto 7, 3) := by decide +kernel
theorem dX11_fits_114 : decode cX11_fits 114 = .ok (.aload_n 0, 1) := by decide +kernel
theorem dX11_fits_115 : decode cX11_fits 115 = .ok (.getfield 144, 3) := by decide +kernel
theorem dX11_fits_118 : decode cX11_fits 118 = .ok (.if_icmp .ne 7, 3) := by decide +kernel
theorem dX11_fits_121 : decode cX11_fits 121 = .ok (.iconst 1, 1) := by decide +kernel
theorem dX11_fits_122 : decode cX11_fits 122 = .ok (.goto 4, 3) := by decide +kernel
theorem dX11_fits_125 : decode cX11_fits 125 = .ok (.iconst 0, 1) := by decide +kernel
theorem dX11_fits_126 : decode cX11_fits 126 = .ok (.istore_n 3, 1) := by decide +kernel
theorem dX11_fits_127 : decode cX11_fits 127 = .ok (.iinc 4 1, 3) := by decide +kernel
theorem dX11_fits_130 : decode cX11_fits 130 = .ok (.goto (-96), 3) := by decide +kernel
theorem dX11_fits_133 : decode cX11_fits 133 = .ok (.iload_n 1, 1) := by decide +kernel
theorem dX11_fits_134 : decode cX11_fits 134 = .ok (.iload_n 3, 1) := by decide +kernel
theorem dX11_fits_135 : decode cX11_fits 135 = .ok (.ifCond .eq 9, 3) := by decide +kernel
theorem dX11_fits_138 : decode cX11_fits 138 = .ok (.iconst 1, 1) := by decide +kernel
theorem dX11_fits_139 : decode cX11_fits 139 = .ok (.iload_n 2, 1) := by decide +kernel
theorem dX11_fits_140 : decode cX11_fits 140 = .ok (.ishl, 1) := by decide +kernel
theorem dX11_fits_141 : decode cX11_fits 141 = .ok (.goto 4, 3) := by decide +kernel
theorem dX11_fits_144 : decode cX11_fits 144 = .ok (.iconst 0, 1) := by decide +kernel
theorem dX11_fits_145 : decode cX11_fits 145 = .ok (.ior, 1) := by decide +kernel
theorem dX11_fits_146 : decode cX11_fits 146 = .ok (.istore_n 1, 1) := by decide +kernel
theorem dX11_fits_147 : decode cX11_fits 147 = .ok (.iinc 2 1, 3) := by decide +kernel
theorem dX11_fits_150 : decode cX11_fits 150 = .ok (.goto (-146), 3) := by decide +kernel
theorem dX11_fits_153 : decode cX11_fits 153 = .ok (.iload_n 1, 1) := by decide +kernel
theorem dX11_fits_154 : decode cX11_fits 154 = .ok (.ireturn, 1) := by decide +kernel
def bX11_fits : ol_SE := es_seq (es_set 1 (ei_c 0)) (es_seq (es_seq (es_set 2 (ei_c 0)) (es_wh (ec_2 ol_lt (ei_v 2) (ei_c 4)) (es_seq (es_seq (es_set 3 (ei_of (ea_cv 11 fX11_isTold (ea_r (er_v 0) (ea_i (ei_v 2) (ea_0)))))) (es_seq (es_of (ea_cv 11 fX11_copy (ea_r (er_v 0) (ea_i (ei_2 ol_add (ei_c 1560) (ei_2 ol_mul (ei_c 780) (ei_v 2))) (ea_i (ei_c 780) (ea_0)))))) (es_seq (es_seq (es_set 4 (ei_c 0)) (es_wh (ec_and (ec_2 ol_lt (ei_v 4) (ei_f 11 38 (er_v 0))) (ec_z ol_ne (ei_v 3))) (es_seq (es_seq (es_set 5 (ei_2 ol_mul (ei_c 5) (ei_v 4))) (es_seq (es_of (ea_cv 11 fX11_go (ea_r (er_v 0) (ea_i (ei_c 780) (ea_i (ei_a 100 (er_f 11 39 (er_v 0)) (ei_v 5)) (ea_i (ei_a 100 (er_f 11 39 (er_v 0)) (ei_2 ol_add (ei_v 5) (ei_c 1))) (ea_i (ei_a 100 (er_f 11 39 (er_v 0)) (ei_2 ol_add (ei_v 5) (ei_c 2))) (ea_i (ei_a 100 (er_f 11 39 (er_v 0)) (ei_2 ol_add (ei_v 5) (ei_c 3))) (ea_0))))))))) (es_set 3 (ei_if (ec_2 ol_eq (ei_a 100 (er_f 11 39 (er_v 0)) (ei_2 ol_add (ei_v 5) (ei_c 4))) (ei_if (ec_z ol_ne (ei_f 11 18 (er_v 0))) (ei_c (-1)) (ei_f 11 12 (er_v 0)))) (ei_c 1) (ei_c 0))))) (es_inc 4 1)))) (es_set 1 (ei_2 ol_or (ei_v 1) (ei_if (ec_z ol_ne (ei_v 3)) (ei_2 ol_shl (ei_c 1) (ei_v 2)) (ei_c 0))))))) (es_inc 2 1)))) (es_ret (ei_v 1)))
def fX11_fits : ol_FE := ol_fe 6 bX11_fits
set_option maxRecDepth 20000 in
theorem imX11_fits (x : ol_X) (K : ol_K) : IM_S x K mX11_fits 0 0 bX11_fits := rs_seq (p2 := 2) (rs_setn (ri_ic dX11_fits_0 (by unfold ol_inR; omega)) dX11_fits_1 rfl (ol_ltn rfl)) (rs_seq (p2 := 153) (rs_seq (p2 := 4) (rs_setn (ri_ic dX11_fits_2 (by unfold ol_inR; omega)) dX11_fits_3 rfl (ol_ltn rfl)) (rs_wh (pH := 4) (pB := 9) (pE := 153) (pG := 150) (rc_2F (pF := 153) ol_j2_ge_F (ri_vn dX11_fits_4 rfl) (ri_ic dX11_fits_5 (by unfold ol_inR; omega)) dX11_fits_6 (by decide)) (rs_seq (p2 := 147) (rs_seq (p2 := 15) (rs_setn (ri_k (rk_v (Mc := mX11_isTold) (conX11_isTold _ K) (ra_r (rr_vn dX11_fits_9 rfl) (ra_i (ri_vn dX11_fits_10 rfl) (ra_0))) dX11_fits_11 cwX11_115 tw_1023 tw_31 (by decide) rfl rfl ⟨rfl, rfl, Nat.le_of_ble_eq_true rfl⟩ (by decide) (by decide) (al_r (al_i al_0))) (Or.inr (Or.inl rfl))) dX11_fits_14 rfl (ol_ltn rfl)) (rs_seq (p2 := 31) (rs_k (rk_v (Mc := mX11_copy) (conX11_copy _ K) (ra_r (rr_vn dX11_fits_15 rfl) (ra_i (ri_2 ol_op_add (ri_si dX11_fits_16 (by unfold ol_inR; omega) (by decide)) (ri_2 ol_op_mul (ri_si dX11_fits_19 (by unfold ol_inR; omega) (by decide)) (ri_vn dX11_fits_22 rfl) dX11_fits_23) dX11_fits_24) (ra_i (ri_si dX11_fits_25 (by unfold ol_inR; omega) (by decide)) (ra_0)))) dX11_fits_28 cwX11_108 tw_1015 tw_30 (by decide) rfl rfl ⟨rfl, rfl, Nat.le_of_ble_eq_true rfl⟩ (by decide) (by decide) (al_r (al_i (al_i al_0))))) (rs_seq (p2 := 133) (rs_seq (p2 := 34) (rs_set (ri_ic dX11_fits_31 (by unfold ol_inR; omega)) dX11_fits_32 (ol_ltn rfl)) (rs_wh (pH := 34) (pB := 47) (pE := 133) (pG := 130) (rc_and (p2 := 43) (pT := 47) (pF := 133) (rc_2F (pF := 133) ol_j2_ge_F (ri_vi dX11_fits_34) (ri_f (rr_vn dX11_fits_36 rfl) gfX11_240 dX11_fits_37) dX11_fits_40 (by decide)) (rc_zF (pF := 133) ol_j1_eq_F (ri_vn dX11_fits_43 rfl) dX11_fits_44 (by decide))) (rs_seq (p2 := 127) (rs_seq (p2 := 53) (rs_set (ri_2 ol_op_mul (ri_ic dX11_fits_47 (by unfold ol_inR; omega)) (ri_vi dX11_fits_48) dX11_fits_50) dX11_fits_51 (ol_ltn rfl)) (rs_seq (p2 := 94) (rs_k (rk_v (Mc := mX11_go) (conX11_go _ K) (ra_r (rr_vn dX11_fits_53 rfl) (ra_i (ri_si dX11_fits_54 (by unfold ol_inR; omega) (by decide)) (ra_i (ri_a (rr_f (rr_vn dX11_fits_57 rfl) gfX11_53 dX11_fits_58) (ri_vi dX11_fits_61) rfl dX11_fits_63) (ra_i (ri_a (rr_f (rr_vn dX11_fits_64 rfl) gfX11_53 dX11_fits_65) (ri_2 ol_op_add (ri_vi dX11_fits_68) (ri_ic dX11_fits_70 (by unfold ol_inR; omega)) dX11_fits_71) rfl dX11_fits_72) (ra_i (ri_a (rr_f (rr_vn dX11_fits_73 rfl) gfX11_53 dX11_fits_74) (ri_2 ol_op_add (ri_vi dX11_fits_77) (ri_ic dX11_fits_79 (by unfold ol_inR; omega)) dX11_fits_80) rfl dX11_fits_81) (ra_i (ri_a (rr_f (rr_vn dX11_fits_82 rfl) gfX11_53 dX11_fits_83) (ri_2 ol_op_add (ri_vi dX11_fits_86) (ri_ic dX11_fits_88 (by unfold ol_inR; omega)) dX11_fits_89) rfl dX11_fits_90) (ra_0))))))) dX11_fits_91 cwX11_153 tw_1069 tw_36 (by decide) rfl rfl ⟨rfl, rfl, Nat.le_of_ble_eq_true rfl⟩ (by decide) (by decide) (al_r (al_i (al_i (al_i (al_i (al_i al_0)))))))) (rs_setn (ri_if (pT := 121) (pF := 125) (p3 := 126) (rc_2F (pF := 125) ol_j2_ne_F (ri_a (rr_f (rr_vn dX11_fits_94 rfl) gfX11_53 dX11_fits_95) (ri_2 ol_op_add (ri_vi dX11_fits_98) (ri_ic dX11_fits_100 (by unfold ol_inR; omega)) dX11_fits_101) rfl dX11_fits_102) (ri_if (pT := 110) (pF := 114) (p3 := 118) (rc_zF (pF := 114) ol_j1_eq_F (ri_f (rr_vn dX11_fits_103 rfl) gfX11_147 dX11_fits_104) dX11_fits_107 (by decide)) (ri_ic dX11_fits_110 (by unfold ol_inR; omega)) dX11_fits_111 (by decide) (ri_f (rr_vn dX11_fits_114 rfl) gfX11_144 dX11_fits_115)) dX11_fits_118 (by decide)) (ri_ic dX11_fits_121 (by unfold ol_inR; omega)) dX11_fits_122 (by decide) (ri_ic dX11_fits_125 (by unfold ol_inR; omega))) dX11_fits_126 rfl (ol_ltn rfl)))) (rs_inc dX11_fits_127 (ol_ltn rfl))) dX11_fits_130 (by decide))) (rs_setn (ri_2 ol_op_or (ri_vn dX11_fits_133 rfl) (ri_if (pT := 138) (pF := 144) (p3 := 145) (rc_zF (pF := 144) ol_j1_eq_F (ri_vn dX11_fits_134 rfl) dX11_fits_135 (by decide)) (ri_2 ol_op_shl (ri_ic dX11_fits_138 (by unfold ol_inR; omega)) (ri_vn dX11_fits_139 rfl) dX11_fits_140) dX11_fits_141 (by decide) (ri_ic dX11_fits_144 (by unfold ol_inR; omega))) dX11_fits_145) dX11_fits_146 rfl (ol_ltn rfl))))) (rs_inc dX11_fits_147 (ol_ltn rfl))) dX11_fits_150 (by decide))) (rs_ret (ri_vn dX11_fits_153 rfl) rfl dX11_fits_154))
theorem conX11_fits (l : Launch) (K : ol_K) : ol_Con l K yX11_fits mX11_fits fX11_fits := ol_con (M := mX11_fits) (by decide) rfl rfl (imX11_fits · K)
