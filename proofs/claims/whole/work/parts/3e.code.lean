/-! by program: what each method does, and that its code does it -/
theorem dX7_findFault_0 : decode cX7_findFault 0 = .ok (.aload_n 0, 1) := by decide +kernel
theorem dX7_findFault_1 : decode cX7_findFault 1 = .ok (.getfield 18, 3) := by decide +kernel
theorem dX7_findFault_4 : decode cX7_findFault 4 = .ok (.iconst 0, 1) := by decide +kernel
theorem dX7_findFault_5 : decode cX7_findFault 5 = .ok (.putfield 26, 3) := by decide +kernel
theorem dX7_findFault_8 : decode cX7_findFault 8 = .ok (.aload_n 0, 1) := by decide +kernel
theorem dX7_findFault_9 : decode cX7_findFault 9 = .ok (.iconst 0, 1) := by decide +kernel
theorem dX7_findFault_10 : decode cX7_findFault 10 = .ok (.putfield 29, 3) := by decide +kernel
theorem dX7_findFault_13 : decode cX7_findFault 13 = .ok (.iconst 0, 1) := by decide +kernel
theorem dX7_findFault_14 : decode cX7_findFault 14 = .ok (.istore_n 1, 1) := by decide +kernel
theorem dX7_findFault_15 : decode cX7_findFault 15 = .ok (.iload_n 1, 1) := by decide +kernel
theorem dX7_findFault_16 : decode cX7_findFault 16 = .ok (.bipush 12, 2) := by decide +kernel
theorem dX7_findFault_18 : decode cX7_findFault 18 = .ok (.if_icmp .gt 95, 3) := by decide +kernel
theorem dX7_findFault_21 : decode cX7_findFault 21 = .ok (.aload_n 0, 1) := by decide +kernel
theorem dX7_findFault_22 : decode cX7_findFault 22 = .ok (.invokevirtual 32, 3) := by decide +kernel
theorem dX7_findFault_25 : decode cX7_findFault 25 = .ok (.aload_n 0, 1) := by decide +kernel
theorem dX7_findFault_26 : decode cX7_findFault 26 = .ok (.getfield 35, 3) := by decide +kernel
theorem dX7_findFault_29 : decode cX7_findFault 29 = .ok (.ifCond .ne 5, 3) := by decide +kernel
theorem dX7_findFault_32 : decode cX7_findFault 32 = .ok (.iconst (-1), 1) := by decide +kernel
theorem dX7_findFault_33 : decode cX7_findFault 33 = .ok (.ireturn, 1) := by decide +kernel
theorem dX7_findFault_34 : decode cX7_findFault 34 = .ok (.iload_n 1, 1) := by decide +kernel
theorem dX7_findFault_35 : decode cX7_findFault 35 = .ok (.bipush 12, 2) := by decide +kernel
theorem dX7_findFault_37 : decode cX7_findFault 37 = .ok (.if_icmp .eq 19, 3) := by decide +kernel
theorem dX7_findFault_40 : decode cX7_findFault 40 = .ok (.aload_n 0, 1) := by decide +kernel
theorem dX7_findFault_41 : decode cX7_findFault 41 = .ok (.getfield 35, 3) := by decide +kernel
theorem dX7_findFault_44 : decode cX7_findFault 44 = .ok (.iconst 1, 1) := by decide +kernel
theorem dX7_findFault_45 : decode cX7_findFault 45 = .ok (.if_icmp .eq 16, 3) := by decide +kernel
theorem dX7_findFault_48 : decode cX7_findFault 48 = .ok (.aload_n 0, 1) := by decide +kernel
theorem dX7_findFault_49 : decode cX7_findFault 49 = .ok (.getfield 35, 3) := by decide +kernel
theorem dX7_findFault_52 : decode cX7_findFault 52 = .ok (.iconst 2, 1) := by decide +kernel
theorem dX7_findFault_53 : decode cX7_findFault 53 = .ok (.if_icmp .eq 8, 3) := by decide +kernel
theorem dX7_findFault_56 : decode cX7_findFault 56 = .ok (.aload_n 0, 1) := by decide +kernel
theorem dX7_findFault_57 : decode cX7_findFault 57 = .ok (.getfield 38, 3) := by decide +kernel
theorem dX7_findFault_60 : decode cX7_findFault 60 = .ok (.ireturn, 1) := by decide +kernel
theorem dX7_findFault_61 : decode cX7_findFault 61 = .ok (.aload_n 0, 1) := by decide +kernel
theorem dX7_findFault_62 : decode cX7_findFault 62 = .ok (.getfield 35, 3) := by decide +kernel
theorem dX7_findFault_65 : decode cX7_findFault 65 = .ok (.iconst 1, 1) := by decide +kernel
theorem dX7_findFault_66 : decode cX7_findFault 66 = .ok (.if_icmp .ne 10, 3) := by decide +kernel
theorem dX7_findFault_69 : decode cX7_findFault 69 = .ok (.aload_n 0, 1) := by decide +kernel
theorem dX7_findFault_70 : decode cX7_findFault 70 = .ok (.invokevirtual 41, 3) := by decide +kernel
theorem dX7_findFault_73 : decode cX7_findFault 73 = .ok (.goto 7, 3) := by decide +kernel
theorem dX7_findFault_76 : decode cX7_findFault 76 = .ok (.aload_n 0, 1) := by decide +kernel
theorem dX7_findFault_77 : decode cX7_findFault 77 = .ok (.invokevirtual 45, 3) := by decide +kernel
theorem dX7_findFault_80 : decode cX7_findFault 80 = .ok (.istore_n 2, 1) := by decide +kernel
theorem dX7_findFault_81 : decode cX7_findFault 81 = .ok (.iload_n 2, 1) := by decide +kernel
theorem dX7_findFault_82 : decode cX7_findFault 82 = .ok (.ifCond .ne 8, 3) := by decide +kernel
theorem dX7_findFault_85 : decode cX7_findFault 85 = .ok (.aload_n 0, 1) := by decide +kernel
theorem dX7_findFault_86 : decode cX7_findFault 86 = .ok (.getfield 38, 3) := by decide +kernel
theorem dX7_findFault_89 : decode cX7_findFault 89 = .ok (.ireturn, 1) := by decide +kernel
theorem dX7_findFault_90 : decode cX7_findFault 90 = .ok (.aload_n 0, 1) := by decide +kernel
theorem dX7_findFault_91 : decode cX7_findFault 91 = .ok (.invokevirtual 32, 3) := by decide +kernel
theorem dX7_findFault_94 : decode cX7_findFault 94 = .ok (.aload_n 0, 1) := by decide +kernel
theorem dX7_findFault_95 : decode cX7_findFault 95 = .ok (.getfield 35, 3) := by decide +kernel
theorem dX7_findFault_98 : decode cX7_findFault 98 = .ok (.iconst 4, 1) := by decide +kernel
theorem dX7_findFault_99 : decode cX7_findFault 99 = .ok (.if_icmp .eq 8, 3) := by decide +kernel
theorem dX7_findFault_102 : decode cX7_findFault 102 = .ok (.aload_n 0, 1) := by decide +kernel
theorem dX7_findFault_103 : decode cX7_findFault 103 = .ok (.getfield 38, 3) := by decide +kernel
theorem dX7_findFault_106 : decode cX7_findFault 106 = .ok (.ireturn, 1) := by decide +kernel
theorem dX7_findFault_107 : decode cX7_findFault 107 = .ok (.iinc 1 1, 3) := by decide +kernel
theorem dX7_findFault_110 : decode cX7_findFault 110 = .ok (.goto (-95), 3) := by decide +kernel
theorem dX7_findFault_113 : decode cX7_findFault 113 = .ok (.aload_n 0, 1) := by decide +kernel
theorem dX7_findFault_114 : decode cX7_findFault 114 = .ok (.getfield 38, 3) := by decide +kernel
theorem dX7_findFault_117 : decode cX7_findFault 117 = .ok (.ireturn, 1) := by decide +kernel
def bX7_findFault : ol_SE := es_seq (es_pf 5 1 (er_f 7 1 (er_v 0)) (ei_c 0)) (es_seq (es_pf 7 3 (er_v 0) (ei_c 0)) (es_seq (es_seq (es_set 1 (ei_c 0)) (es_wh (ec_2 ol_le (ei_v 1) (ei_c 12)) (es_seq (es_seq (es_of (ea_cv 7 fX7_readToken (ea_r (er_v 0) (ea_0)))) (es_seq (es_if (ec_z ol_eq (ei_f 7 5 (er_v 0))) (es_ret (ei_c (-1))) es_skip) (es_seq (es_if (ec_or (ec_2 ol_eq (ei_v 1) (ei_c 12)) (ec_and (ec_2 ol_ne (ei_f 7 5 (er_v 0)) (ei_c 1)) (ec_2 ol_ne (ei_f 7 5 (er_v 0)) (ei_c 2)))) (es_ret (ei_f 7 4 (er_v 0))) es_skip) (es_seq (es_set 2 (ei_if (ec_2 ol_eq (ei_f 7 5 (er_v 0)) (ei_c 1)) (ei_of (ea_cv 7 fX7_readLay (ea_r (er_v 0) (ea_0)))) (ei_of (ea_cv 7 fX7_readStrip (ea_r (er_v 0) (ea_0)))))) (es_seq (es_if (ec_not (ec_z ol_ne (ei_v 2))) (es_ret (ei_f 7 4 (er_v 0))) es_skip) (es_seq (es_of (ea_cv 7 fX7_readToken (ea_r (er_v 0) (ea_0)))) (es_if (ec_2 ol_ne (ei_f 7 5 (er_v 0)) (ei_c 4)) (es_ret (ei_f 7 4 (er_v 0))) es_skip))))))) (es_inc 1 1)))) (es_ret (ei_f 7 4 (er_v 0)))))
def fX7_findFault : ol_FE := ol_fe 3 bX7_findFault
set_option maxRecDepth 20000 in
theorem imX7_findFault (x : ol_X) (K : ol_K) : IM_S x K mX7_findFault 0 0 bX7_findFault := rs_seq (p2 := 8) (rs_pf (rr_f (rr_vn dX7_findFault_0 rfl) gfX7_18 dX7_findFault_1) (ri_ic dX7_findFault_4 (by unfold ol_inR; omega)) pfX7_26 rfl dX7_findFault_5) (rs_seq (p2 := 13) (rs_pf (rr_vn dX7_findFault_8 rfl) (ri_ic dX7_findFault_9 (by unfold ol_inR; omega)) pfX7_29 rfl dX7_findFault_10) (rs_seq (p2 := 113) (rs_seq (p2 := 15) (rs_setn (ri_ic dX7_findFault_13 (by unfold ol_inR; omega)) dX7_findFault_14 rfl (ol_ltn rfl)) (rs_wh (pH := 15) (pB := 21) (pE := 113) (pG := 110) (rc_2F (pF := 113) ol_j2_gt_F (ri_vn dX7_findFault_15 rfl) (ri_bi dX7_findFault_16 (by unfold ol_inR; omega) (by decide)) dX7_findFault_18 (by decide)) (rs_seq (p2 := 107) (rs_seq (p2 := 25) (rs_k (rk_v (Mc := mX7_readToken) (conX7_readToken _ K) (ra_r (rr_vn dX7_findFault_21 rfl) (ra_0)) dX7_findFault_22 cwX7_32 tw_425 tw_0 (by decide) rfl rfl ⟨rfl, rfl, Nat.le_of_ble_eq_true rfl⟩ (by decide) (by decide) (al_r al_0))) (rs_seq (p2 := 34) (rs_if (pT := 32) (pF := 34) (pE := 34) (rc_zF (pF := 34) ol_j1_ne_F (ri_f (rr_vn dX7_findFault_25 rfl) gfX7_35 dX7_findFault_26) dX7_findFault_29 (by decide)) (rs_ret (ri_ic dX7_findFault_32 (by unfold ol_inR; omega)) rfl dX7_findFault_33) rs_skip) (rs_seq (p2 := 61) (rs_if (pT := 56) (pF := 61) (pE := 61) (rc_or (p2 := 40) (pT := 56) (pF := 61) (rc_2T (pT := 56) ol_j2_eq_T (ri_vn dX7_findFault_34 rfl) (ri_bi dX7_findFault_35 (by unfold ol_inR; omega) (by decide)) dX7_findFault_37 (by decide)) (rc_and (p2 := 48) (pT := 56) (pF := 61) (rc_2F (pF := 61) ol_j2_eq_F (ri_f (rr_vn dX7_findFault_40 rfl) gfX7_35 dX7_findFault_41) (ri_ic dX7_findFault_44 (by unfold ol_inR; omega)) dX7_findFault_45 (by decide)) (rc_2F (pF := 61) ol_j2_eq_F (ri_f (rr_vn dX7_findFault_48 rfl) gfX7_35 dX7_findFault_49) (ri_ic dX7_findFault_52 (by unfold ol_inR; omega)) dX7_findFault_53 (by decide)))) (rs_ret (ri_f (rr_vn dX7_findFault_56 rfl) gfX7_38 dX7_findFault_57) rfl dX7_findFault_60) rs_skip) (rs_seq (p2 := 81) (rs_setn (ri_if (pT := 69) (pF := 76) (p3 := 80) (rc_2F (pF := 76) ol_j2_ne_F (ri_f (rr_vn dX7_findFault_61 rfl) gfX7_35 dX7_findFault_62) (ri_ic dX7_findFault_65 (by unfold ol_inR; omega)) dX7_findFault_66 (by decide)) (ri_k (rk_v (Mc := mX7_readLay) (conX7_readLay _ K) (ra_r (rr_vn dX7_findFault_69 rfl) (ra_0)) dX7_findFault_70 cwX7_41 tw_497 tw_4 (by decide) rfl rfl ⟨rfl, rfl, Nat.le_of_ble_eq_true rfl⟩ (by decide) (by decide) (al_r al_0)) (Or.inr (Or.inl rfl))) dX7_findFault_73 (by decide) (ri_k (rk_v (Mc := mX7_readStrip) (conX7_readStrip _ K) (ra_r (rr_vn dX7_findFault_76 rfl) (ra_0)) dX7_findFault_77 cwX7_45 tw_509 tw_6 (by decide) rfl rfl ⟨rfl, rfl, Nat.le_of_ble_eq_true rfl⟩ (by decide) (by decide) (al_r al_0)) (Or.inr (Or.inl rfl)))) dX7_findFault_80 rfl (ol_ltn rfl)) (rs_seq (p2 := 90) (rs_if (pT := 85) (pF := 90) (pE := 90) (rc_not (rc_zT (pT := 90) ol_j1_ne_T (ri_vn dX7_findFault_81 rfl) dX7_findFault_82 (by decide))) (rs_ret (ri_f (rr_vn dX7_findFault_85 rfl) gfX7_38 dX7_findFault_86) rfl dX7_findFault_89) rs_skip) (rs_seq (p2 := 94) (rs_k (rk_v (Mc := mX7_readToken) (conX7_readToken _ K) (ra_r (rr_vn dX7_findFault_90 rfl) (ra_0)) dX7_findFault_91 cwX7_32 tw_425 tw_0 (by decide) rfl rfl ⟨rfl, rfl, Nat.le_of_ble_eq_true rfl⟩ (by decide) (by decide) (al_r al_0))) (rs_if (pT := 102) (pF := 107) (pE := 107) (rc_2F (pF := 107) ol_j2_eq_F (ri_f (rr_vn dX7_findFault_94 rfl) gfX7_35 dX7_findFault_95) (ri_ic dX7_findFault_98 (by unfold ol_inR; omega)) dX7_findFault_99 (by decide)) (rs_ret (ri_f (rr_vn dX7_findFault_102 rfl) gfX7_38 dX7_findFault_103) rfl dX7_findFault_106) rs_skip))))))) (rs_inc dX7_findFault_107 (ol_ltn rfl))) dX7_findFault_110 (by decide))) (rs_ret (ri_f (rr_vn dX7_findFault_113 rfl) gfX7_38 dX7_findFault_114) rfl dX7_findFault_117)))
theorem conX7_findFault (l : Launch) (K : ol_K) : ol_Con l K yX7_findFault mX7_findFault fX7_findFault := ol_con (M := mX7_findFault) (by decide) rfl rfl (imX7_findFault · K)
theorem dX10_pattern_0 : decode cX10_pattern 0 = .ok (.iload_n 1, 1) := by decide +kernel
theorem dX10_pattern_1 : decode cX10_pattern 1 = .ok (.iconst 0, 1) := by decide +kernel
theorem dX10_pattern_2 : decode cX10_pattern 2 = .ok (.iconst 3, 1) := by decide +kernel
theorem dX10_pattern_3 : decode cX10_pattern 3 = .ok (.invokestatic 98, 3) := by decide +kernel
theorem dX10_pattern_6 : decode cX10_pattern 6 = .ok (.ifCond .eq 5, 3) := by decide +kernel
theorem dX10_pattern_9 : decode cX10_pattern 9 = .ok (.iconst (-1), 1) := by decide +kernel
theorem dX10_pattern_10 : decode cX10_pattern 10 = .ok (.ireturn, 1) := by decide +kernel
theorem dX10_pattern_11 : decode cX10_pattern 11 = .ok (.aload_n 0, 1) := by decide +kernel
theorem dX10_pattern_12 : decode cX10_pattern 12 = .ok (.getfield 10, 3) := by decide +kernel
theorem dX10_pattern_15 : decode cX10_pattern 15 = .ok (.invokevirtual 102, 3) := by decide +kernel
theorem dX10_pattern_18 : decode cX10_pattern 18 = .ok (.istore_n 2, 1) := by decide +kernel
theorem dX10_pattern_19 : decode cX10_pattern 19 = .ok (.iload_n 2, 1) := by decide +kernel
theorem dX10_pattern_20 : decode cX10_pattern 20 = .ok (.ifCond .lt 8, 3) := by decide +kernel
theorem dX10_pattern_23 : decode cX10_pattern 23 = .ok (.bipush (-10), 2) := by decide +kernel
theorem dX10_pattern_25 : decode cX10_pattern 25 = .ok (.iload_n 2, 1) := by decide +kernel
theorem dX10_pattern_26 : decode cX10_pattern 26 = .ok (.isub, 1) := by decide +kernel
theorem dX10_pattern_27 : decode cX10_pattern 27 = .ok (.ireturn, 1) := by decide +kernel
theorem dX10_pattern_28 : decode cX10_pattern 28 = .ok (.aload_n 0, 1) := by decide +kernel
theorem dX10_pattern_29 : decode cX10_pattern 29 = .ok (.getfield 18, 3) := by decide +kernel
theorem dX10_pattern_32 : decode cX10_pattern 32 = .ok (.iload_n 1, 1) := by decide +kernel
theorem dX10_pattern_33 : decode cX10_pattern 33 = .ok (.aaload, 1) := by decide +kernel
theorem dX10_pattern_34 : decode cX10_pattern 34 = .ok (.aload_n 0, 1) := by decide +kernel
theorem dX10_pattern_35 : decode cX10_pattern 35 = .ok (.getfield 10, 3) := by decide +kernel
theorem dX10_pattern_38 : decode cX10_pattern 38 = .ok (.getfield 106, 3) := by decide +kernel
theorem dX10_pattern_41 : decode cX10_pattern 41 = .ok (.invokevirtual 110, 3) := by decide +kernel
theorem dX10_pattern_44 : decode cX10_pattern 44 = .ok (.aload_n 0, 1) := by decide +kernel
theorem dX10_pattern_45 : decode cX10_pattern 45 = .ok (.getfield 18, 3) := by decide +kernel
theorem dX10_pattern_48 : decode cX10_pattern 48 = .ok (.iload_n 1, 1) := by decide +kernel
theorem dX10_pattern_49 : decode cX10_pattern 49 = .ok (.aaload, 1) := by decide +kernel
theorem dX10_pattern_50 : decode cX10_pattern 50 = .ok (.iconst 1, 1) := by decide +kernel
theorem dX10_pattern_51 : decode cX10_pattern 51 = .ok (.putfield 114, 3) := by decide +kernel
theorem dX10_pattern_54 : decode cX10_pattern 54 = .ok (.aload_n 0, 1) := by decide +kernel
theorem dX10_pattern_55 : decode cX10_pattern 55 = .ok (.getfield 10, 3) := by decide +kernel
theorem dX10_pattern_58 : decode cX10_pattern 58 = .ok (.iconst 0, 1) := by decide +kernel
theorem dX10_pattern_59 : decode cX10_pattern 59 = .ok (.putfield 91, 3) := by decide +kernel
theorem dX10_pattern_62 : decode cX10_pattern 62 = .ok (.aload_n 0, 1) := by decide +kernel
theorem dX10_pattern_63 : decode cX10_pattern 63 = .ok (.getfield 18, 3) := by decide +kernel
theorem dX10_pattern_66 : decode cX10_pattern 66 = .ok (.iload_n 1, 1) := by decide +kernel
theorem dX10_pattern_67 : decode cX10_pattern 67 = .ok (.aaload, 1) := by decide +kernel
theorem dX10_pattern_68 : decode cX10_pattern 68 = .ok (.getfield 118, 3) := by decide +kernel
theorem dX10_pattern_71 : decode cX10_pattern 71 = .ok (.ireturn, 1) := by decide +kernel
def bX10_pattern : ol_SE := es_seq (es_if (ec_z ol_ne (ei_of (ea_cs fX10_outside (ea_i (ei_v 1) (ea_i (ei_c 0) (ea_i (ei_c 3) (ea_0))))))) (es_ret (ei_c (-1))) es_skip) (es_seq (es_set 2 (ei_of (ea_cv 7 fX7_findFault (ea_r (er_f 10 0 (er_v 0)) (ea_0))))) (es_seq (es_if (ec_z ol_ge (ei_v 2)) (es_ret (ei_2 ol_sub (ei_c (-10)) (ei_v 2))) es_skip) (es_seq (es_of (ea_cv 5 fX5_copyFrom (ea_r (er_a 103 (er_f 10 1 (er_v 0)) (ei_v 1)) (ea_r (er_f 7 1 (er_f 10 0 (er_v 0))) (ea_0))))) (es_seq (es_pz 5 2 (er_a 103 (er_f 10 1 (er_v 0)) (ei_v 1)) (ei_c 1)) (es_seq (es_pf 7 2 (er_f 10 0 (er_v 0)) (ei_c 0)) (es_ret (ei_f 5 1 (er_a 103 (er_f 10 1 (er_v 0)) (ei_v 1)))))))))
def fX10_pattern : ol_FE := ol_fe 3 bX10_pattern
set_option maxRecDepth 20000 in
theorem imX10_pattern (x : ol_X) (K : ol_K) : IM_S x K mX10_pattern 0 0 bX10_pattern := rs_seq (p2 := 11) (rs_if (pT := 9) (pF := 11) (pE := 11) (rc_zF (pF := 11) ol_j1_eq_F (ri_k (rk_s (Mc := mX10_outside) (conX10_outside _ K) (ra_i (ri_vn dX10_pattern_0 rfl) (ra_i (ri_ic dX10_pattern_1 (by unfold ol_inR; omega)) (ra_i (ri_ic dX10_pattern_2 (by unfold ol_inR; omega)) (ra_0)))) dX10_pattern_3 cwX10_98 tw_417 ⟨rfl, rfl, Nat.le_of_ble_eq_true rfl⟩ (by decide) (by decide) (al_i (al_i (al_i al_0)))) (Or.inr (Or.inl rfl))) dX10_pattern_6 (by decide)) (rs_ret (ri_ic dX10_pattern_9 (by unfold ol_inR; omega)) rfl dX10_pattern_10) rs_skip) (rs_seq (p2 := 19) (rs_setn (ri_k (rk_v (Mc := mX7_findFault) (conX7_findFault _ K) (ra_r (rr_f (rr_vn dX10_pattern_11 rfl) gfX10_10 dX10_pattern_12) (ra_0)) dX10_pattern_15 cwX10_102 tw_420 tw_421 (by decide) rfl rfl ⟨rfl, rfl, Nat.le_of_ble_eq_true rfl⟩ (by decide) (by decide) (al_r al_0)) (Or.inl rfl)) dX10_pattern_18 rfl (ol_ltn rfl)) (rs_seq (p2 := 28) (rs_if (pT := 23) (pF := 28) (pE := 28) (rc_zF (pF := 28) ol_j1_lt_F (ri_vn dX10_pattern_19 rfl) dX10_pattern_20 (by decide)) (rs_ret (ri_2 ol_op_sub (ri_bi dX10_pattern_23 (by unfold ol_inR; omega) (by decide)) (ri_vn dX10_pattern_25 rfl) dX10_pattern_26) rfl dX10_pattern_27) rs_skip) (rs_seq (p2 := 44) (rs_k (rk_v (Mc := mX5_copyFrom) (conX5_copyFrom _ K) (ra_r (rr_a (t := 3) (rr_f (rr_vn dX10_pattern_28 rfl) gfX10_18 dX10_pattern_29) (ri_vn dX10_pattern_32 rfl) (by decide) rfl dX10_pattern_33) (ra_r (rr_f (rr_f (rr_vn dX10_pattern_34 rfl) gfX10_10 dX10_pattern_35) gfX10_106 dX10_pattern_38) (ra_0))) dX10_pattern_41 cwX10_110 tw_512 tw_513 (by decide) rfl rfl ⟨rfl, rfl, Nat.le_of_ble_eq_true rfl⟩ (by decide) (by decide) (al_r (al_r al_0)))) (rs_seq (p2 := 54) (rs_pz (rr_a (t := 3) (rr_f (rr_vn dX10_pattern_44 rfl) gfX10_18 dX10_pattern_45) (ri_vn dX10_pattern_48 rfl) (by decide) rfl dX10_pattern_49) (ri_ic dX10_pattern_50 (by unfold ol_inR; omega)) pfX10_114 rfl dX10_pattern_51) (rs_seq (p2 := 62) (rs_pf (rr_f (rr_vn dX10_pattern_54 rfl) gfX10_10 dX10_pattern_55) (ri_ic dX10_pattern_58 (by unfold ol_inR; omega)) pfX10_91 rfl dX10_pattern_59) (rs_ret (ri_f (rr_a (t := 3) (rr_f (rr_vn dX10_pattern_62 rfl) gfX10_18 dX10_pattern_63) (ri_vn dX10_pattern_66 rfl) (by decide) rfl dX10_pattern_67) gfX10_118 dX10_pattern_68) rfl dX10_pattern_71))))))
theorem conX10_pattern (l : Launch) (K : ol_K) : ol_Con l K yX10_pattern mX10_pattern fX10_pattern := ol_con (M := mX10_pattern) (by decide) rfl rfl (imX10_pattern · K)
theorem dX10_worth_0 : decode cX10_worth 0 = .ok (.iload_n 1, 1) := by decide +kernel
theorem dX10_worth_1 : decode cX10_worth 1 = .ok (.iconst 0, 1) := by decide +kernel
theorem dX10_worth_2 : decode cX10_worth 2 = .ok (.iconst 5, 1) := by decide +kernel
theorem dX10_worth_3 : decode cX10_worth 3 = .ok (.invokestatic 98, 3) := by decide +kernel
theorem dX10_worth_6 : decode cX10_worth 6 = .ok (.ifCond .ne 10, 3) := by decide +kernel
theorem dX10_worth_9 : decode cX10_worth 9 = .ok (.aload_n 0, 1) := by decide +kernel
theorem dX10_worth_10 : decode cX10_worth 10 = .ok (.getfield 159, 3) := by decide +kernel
theorem dX10_worth_13 : decode cX10_worth 13 = .ok (.ifCond .ne 6, 3) := by decide +kernel
theorem dX10_worth_16 : decode cX10_worth 16 = .ok (.ldc 165, 2) := by decide +kernel
theorem dX10_worth_18 : decode cX10_worth 18 = .ok (.ireturn, 1) := by decide +kernel
theorem dX10_worth_19 : decode cX10_worth 19 = .ok (.aload_n 0, 1) := by decide +kernel
theorem dX10_worth_20 : decode cX10_worth 20 = .ok (.iload_n 1, 1) := by decide +kernel
theorem dX10_worth_21 : decode cX10_worth 21 = .ok (.iconst 0, 1) := by decide +kernel
theorem dX10_worth_22 : decode cX10_worth 22 = .ok (.invokevirtual 316, 3) := by decide +kernel
theorem dX10_worth_25 : decode cX10_worth 25 = .ok (.ireturn, 1) := by decide +kernel
def bX10_worth : ol_SE := es_seq (es_if (ec_or (ec_z ol_ne (ei_of (ea_cs fX10_outside (ea_i (ei_v 1) (ea_i (ei_c 0) (ea_i (ei_c 5) (ea_0))))))) (ec_not (ec_z ol_ne (ei_f 10 16 (er_v 0))))) (es_ret (ei_c (-1000000))) es_skip) (es_ret (ei_of (ea_cv 10 (fX10_askKind 7) (ea_r (er_v 0) (ea_i (ei_v 1) (ea_i (ei_c 0) (ea_0)))))))
def fX10_worth : ol_FE := ol_fe 2 bX10_worth
set_option maxRecDepth 20000 in
theorem imX10_worth (x : ol_X) (K : ol_K) : IM_S x K mX10_worth 0 0 bX10_worth := rs_seq (p2 := 19) (rs_if (pT := 16) (pF := 19) (pE := 19) (rc_or (p2 := 9) (pT := 16) (pF := 19) (rc_zT (pT := 16) ol_j1_ne_T (ri_k (rk_s (Mc := mX10_outside) (conX10_outside _ K) (ra_i (ri_vn dX10_worth_0 rfl) (ra_i (ri_ic dX10_worth_1 (by unfold ol_inR; omega)) (ra_i (ri_ic dX10_worth_2 (by unfold ol_inR; omega)) (ra_0)))) dX10_worth_3 cwX10_98 tw_417 ⟨rfl, rfl, Nat.le_of_ble_eq_true rfl⟩ (by decide) (by decide) (al_i (al_i (al_i al_0)))) (Or.inr (Or.inl rfl))) dX10_worth_6 (by decide)) (rc_not (rc_zT (pT := 19) ol_j1_ne_T (ri_f (rr_vn dX10_worth_9 rfl) gfX10_159 dX10_worth_10) dX10_worth_13 (by decide)))) (rs_ret (ri_ldc dX10_worth_16 (by unfold ol_inR; omega) tw_615) rfl dX10_worth_18) rs_skip) (rs_ret (ri_k (rk_v (Mc := mX10_askKind 7) (conX10_askKind 7 _ K) (ra_r (rr_vn dX10_worth_19 rfl) (ra_i (ri_vn dX10_worth_20 rfl) (ra_i (ri_ic dX10_worth_21 (by unfold ol_inR; omega)) (ra_0)))) dX10_worth_22 (cwX10_316 _) tw_817 tw_23 (by decide) rfl rfl ⟨rfl, rfl, Nat.le_of_ble_eq_true rfl⟩ (by decide) (by decide) (al_r (al_i (al_i al_0)))) (Or.inl rfl)) rfl dX10_worth_25)
theorem conX10_worth (l : Launch) (K : ol_K) : ol_Con l K yX10_worth mX10_worth fX10_worth := ol_con (M := mX10_worth) (by decide) rfl rfl (imX10_worth · K)
