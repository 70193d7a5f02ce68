/-! by program: what each method does, and that its code does it -/
theorem dX2_copyFrom_0 : decode cX2_copyFrom 0 = .ok (.aload_n 0, 1) := by decide +kernel
theorem dX2_copyFrom_1 : decode cX2_copyFrom 1 = .ok (.getfield 12, 3) := by decide +kernel
theorem dX2_copyFrom_4 : decode cX2_copyFrom 4 = .ok (.aload_n 1, 1) := by decide +kernel
theorem dX2_copyFrom_5 : decode cX2_copyFrom 5 = .ok (.getfield 12, 3) := by decide +kernel
theorem dX2_copyFrom_8 : decode cX2_copyFrom 8 = .ok (.invokevirtual 25, 3) := by decide +kernel
theorem dX2_copyFrom_11 : decode cX2_copyFrom 11 = .ok (.iconst 0, 1) := by decide +kernel
theorem dX2_copyFrom_12 : decode cX2_copyFrom 12 = .ok (.istore_n 2, 1) := by decide +kernel
theorem dX2_copyFrom_13 : decode cX2_copyFrom 13 = .ok (.iload_n 2, 1) := by decide +kernel
theorem dX2_copyFrom_14 : decode cX2_copyFrom 14 = .ok (.iconst 4, 1) := by decide +kernel
theorem dX2_copyFrom_15 : decode cX2_copyFrom 15 = .ok (.if_icmp .ge 24, 3) := by decide +kernel
theorem dX2_copyFrom_18 : decode cX2_copyFrom 18 = .ok (.aload_n 0, 1) := by decide +kernel
theorem dX2_copyFrom_19 : decode cX2_copyFrom 19 = .ok (.getfield 20, 3) := by decide +kernel
theorem dX2_copyFrom_22 : decode cX2_copyFrom 22 = .ok (.iload_n 2, 1) := by decide +kernel
theorem dX2_copyFrom_23 : decode cX2_copyFrom 23 = .ok (.aaload, 1) := by decide +kernel
theorem dX2_copyFrom_24 : decode cX2_copyFrom 24 = .ok (.aload_n 1, 1) := by decide +kernel
theorem dX2_copyFrom_25 : decode cX2_copyFrom 25 = .ok (.getfield 20, 3) := by decide +kernel
theorem dX2_copyFrom_28 : decode cX2_copyFrom 28 = .ok (.iload_n 2, 1) := by decide +kernel
theorem dX2_copyFrom_29 : decode cX2_copyFrom 29 = .ok (.aaload, 1) := by decide +kernel
theorem dX2_copyFrom_30 : decode cX2_copyFrom 30 = .ok (.invokevirtual 29, 3) := by decide +kernel
theorem dX2_copyFrom_33 : decode cX2_copyFrom 33 = .ok (.iinc 2 1, 3) := by decide +kernel
theorem dX2_copyFrom_36 : decode cX2_copyFrom 36 = .ok (.goto (-23), 3) := by decide +kernel
theorem dX2_copyFrom_39 : decode cX2_copyFrom 39 = .ok (.aload_n 0, 1) := by decide +kernel
theorem dX2_copyFrom_40 : decode cX2_copyFrom 40 = .ok (.aload_n 1, 1) := by decide +kernel
theorem dX2_copyFrom_41 : decode cX2_copyFrom 41 = .ok (.getfield 32, 3) := by decide +kernel
theorem dX2_copyFrom_44 : decode cX2_copyFrom 44 = .ok (.putfield 32, 3) := by decide +kernel
theorem dX2_copyFrom_47 : decode cX2_copyFrom 47 = .ok (.return_, 1) := by decide +kernel
def bX2_copyFrom : ol_SE := es_seq (es_of (ea_cv 4 fX4_copyFrom (ea_r (er_f 2 0 (er_v 0)) (ea_r (er_f 2 0 (er_v 1)) (ea_0))))) (es_seq (es_seq (es_set 2 (ei_c 0)) (es_wh (ec_2 ol_lt (ei_v 2) (ei_c 4)) (es_seq (es_of (ea_cv 9 fX9_copyFrom (ea_r (er_a 106 (er_f 2 1 (er_v 0)) (ei_v 2)) (ea_r (er_a 106 (er_f 2 1 (er_v 1)) (ei_v 2)) (ea_0))))) (es_inc 2 1)))) (es_seq (es_pf 2 2 (er_v 0) (ei_f 2 2 (er_v 1))) (es_retv)))
def fX2_copyFrom : ol_FE := ol_fe 3 bX2_copyFrom
set_option maxRecDepth 20000 in
theorem imX2_copyFrom (x : ol_X) (K : ol_K) : IM_S x K mX2_copyFrom 0 0 bX2_copyFrom := rs_seq (p2 := 11) (rs_k (rk_v (Mc := mX4_copyFrom) (conX4_copyFrom _ K) (ra_r (rr_f (rr_vn dX2_copyFrom_0 rfl) gfX2_12 dX2_copyFrom_1) (ra_r (rr_f (rr_vn dX2_copyFrom_4 rfl) gfX2_12 dX2_copyFrom_5) (ra_0))) dX2_copyFrom_8 cwX2_25 tw_746 tw_747 (by decide) rfl rfl ⟨rfl, rfl, Nat.le_of_ble_eq_true rfl⟩ (by decide) (by decide) (al_r (al_r al_0)))) (rs_seq (p2 := 39) (rs_seq (p2 := 13) (rs_setn (ri_ic dX2_copyFrom_11 (by unfold ol_inR; omega)) dX2_copyFrom_12 rfl (ol_ltn rfl)) (rs_wh (pH := 13) (pB := 18) (pE := 39) (pG := 36) (rc_2F (pF := 39) ol_j2_ge_F (ri_vn dX2_copyFrom_13 rfl) (ri_ic dX2_copyFrom_14 (by unfold ol_inR; omega)) dX2_copyFrom_15 (by decide)) (rs_seq (p2 := 33) (rs_k (rk_v (Mc := mX9_copyFrom) (conX9_copyFrom _ K) (ra_r (rr_a (t := 6) (rr_f (rr_vn dX2_copyFrom_18 rfl) gfX2_20 dX2_copyFrom_19) (ri_vn dX2_copyFrom_22 rfl) (by decide) rfl dX2_copyFrom_23) (ra_r (rr_a (t := 6) (rr_f (rr_vn dX2_copyFrom_24 rfl) gfX2_20 dX2_copyFrom_25) (ri_vn dX2_copyFrom_28 rfl) (by decide) rfl dX2_copyFrom_29) (ra_0))) dX2_copyFrom_30 cwX2_29 tw_751 tw_752 (by decide) rfl rfl ⟨rfl, rfl, Nat.le_of_ble_eq_true rfl⟩ (by decide) (by decide) (al_r (al_r al_0)))) (rs_inc dX2_copyFrom_33 (ol_ltn rfl))) dX2_copyFrom_36 (by decide))) (rs_seq (p2 := 47) (rs_pf (rr_vn dX2_copyFrom_39 rfl) (ri_f (rr_vn dX2_copyFrom_40 rfl) gfX2_32 dX2_copyFrom_41) pfX2_32 rfl dX2_copyFrom_44) (rs_retv rfl dX2_copyFrom_47)))
theorem conX2_copyFrom (l : Launch) (K : ol_K) : ol_Con l K yX2_copyFrom mX2_copyFrom fX2_copyFrom := ol_con (M := mX2_copyFrom) (by decide) rfl rfl (imX2_copyFrom · K)
theorem dX10_clue_0 : decode cX10_clue 0 = .ok (.iload_n 1, 1) := by decide +kernel
theorem dX10_clue_1 : decode cX10_clue 1 = .ok (.iload_n 2, 1) := by decide +kernel
theorem dX10_clue_2 : decode cX10_clue 2 = .ok (.iload_n 3, 1) := by decide +kernel
theorem dX10_clue_3 : decode cX10_clue 3 = .ok (.iload 4, 2) := by decide +kernel
theorem dX10_clue_5 : decode cX10_clue 5 = .ok (.invokestatic 151, 3) := by decide +kernel
theorem dX10_clue_8 : decode cX10_clue 8 = .ok (.ifCond .ne 15, 3) := by decide +kernel
theorem dX10_clue_11 : decode cX10_clue 11 = .ok (.iload 5, 2) := by decide +kernel
theorem dX10_clue_13 : decode cX10_clue 13 = .ok (.iconst (-1), 1) := by decide +kernel
theorem dX10_clue_14 : decode cX10_clue 14 = .ok (.sipush 389, 3) := by decide +kernel
theorem dX10_clue_17 : decode cX10_clue 17 = .ok (.invokestatic 98, 3) := by decide +kernel
theorem dX10_clue_20 : decode cX10_clue 20 = .ok (.ifCond .eq 5, 3) := by decide +kernel
theorem dX10_clue_23 : decode cX10_clue 23 = .ok (.iconst (-1), 1) := by decide +kernel
theorem dX10_clue_24 : decode cX10_clue 24 = .ok (.ireturn, 1) := by decide +kernel
theorem dX10_clue_25 : decode cX10_clue 25 = .ok (.aload_n 0, 1) := by decide +kernel
theorem dX10_clue_26 : decode cX10_clue 26 = .ok (.getfield 292, 3) := by decide +kernel
theorem dX10_clue_29 : decode cX10_clue 29 = .ok (.bipush 6, 2) := by decide +kernel
theorem dX10_clue_31 : decode cX10_clue 31 = .ok (.if_icmp .lt 6, 3) := by decide +kernel
theorem dX10_clue_34 : decode cX10_clue 34 = .ok (.bipush (-3), 2) := by decide +kernel
theorem dX10_clue_36 : decode cX10_clue 36 = .ok (.ireturn, 1) := by decide +kernel
theorem dX10_clue_37 : decode cX10_clue 37 = .ok (.aload_n 0, 1) := by decide +kernel
theorem dX10_clue_38 : decode cX10_clue 38 = .ok (.getfield 292, 3) := by decide +kernel
theorem dX10_clue_41 : decode cX10_clue 41 = .ok (.iconst 5, 1) := by decide +kernel
theorem dX10_clue_42 : decode cX10_clue 42 = .ok (.imul, 1) := by decide +kernel
theorem dX10_clue_43 : decode cX10_clue 43 = .ok (.istore 6, 2) := by decide +kernel
theorem dX10_clue_45 : decode cX10_clue 45 = .ok (.aload_n 0, 1) := by decide +kernel
theorem dX10_clue_46 : decode cX10_clue 46 = .ok (.getfield 77, 3) := by decide +kernel
theorem dX10_clue_49 : decode cX10_clue 49 = .ok (.iload 6, 2) := by decide +kernel
theorem dX10_clue_51 : decode cX10_clue 51 = .ok (.iload_n 1, 1) := by decide +kernel
theorem dX10_clue_52 : decode cX10_clue 52 = .ok (.iastore, 1) := by decide +kernel
theorem dX10_clue_53 : decode cX10_clue 53 = .ok (.aload_n 0, 1) := by decide +kernel
theorem dX10_clue_54 : decode cX10_clue 54 = .ok (.getfield 77, 3) := by decide +kernel
theorem dX10_clue_57 : decode cX10_clue 57 = .ok (.iload 6, 2) := by decide +kernel
theorem dX10_clue_59 : decode cX10_clue 59 = .ok (.iconst 1, 1) := by decide +kernel
theorem dX10_clue_60 : decode cX10_clue 60 = .ok (.iadd, 1) := by decide +kernel
theorem dX10_clue_61 : decode cX10_clue 61 = .ok (.iload_n 2, 1) := by decide +kernel
theorem dX10_clue_62 : decode cX10_clue 62 = .ok (.iastore, 1) := by decide +kernel
theorem dX10_clue_63 : decode cX10_clue 63 = .ok (.aload_n 0, 1) := by decide +kernel
theorem dX10_clue_64 : decode cX10_clue 64 = .ok (.getfield 77, 3) := by decide +kernel
theorem dX10_clue_67 : decode cX10_clue 67 = .ok (.iload 6, 2) := by decide +kernel
theorem dX10_clue_69 : decode cX10_clue 69 = .ok (.iconst 2, 1) := by decide +kernel
theorem dX10_clue_70 : decode cX10_clue 70 = .ok (.iadd, 1) := by decide +kernel
theorem dX10_clue_71 : decode cX10_clue 71 = .ok (.iload_n 3, 1) := by decide +kernel
theorem dX10_clue_72 : decode cX10_clue 72 = .ok (.iastore, 1) := by decide +kernel
theorem dX10_clue_73 : decode cX10_clue 73 = .ok (.aload_n 0, 1) := by decide +kernel
theorem dX10_clue_74 : decode cX10_clue 74 = .ok (.getfield 77, 3) := by decide +kernel
theorem dX10_clue_77 : decode cX10_clue 77 = .ok (.iload 6, 2) := by decide +kernel
theorem dX10_clue_79 : decode cX10_clue 79 = .ok (.iconst 3, 1) := by decide +kernel
theorem dX10_clue_80 : decode cX10_clue 80 = .ok (.iadd, 1) := by decide +kernel
theorem dX10_clue_81 : decode cX10_clue 81 = .ok (.iload 4, 2) := by decide +kernel
theorem dX10_clue_83 : decode cX10_clue 83 = .ok (.iastore, 1) := by decide +kernel
theorem dX10_clue_84 : decode cX10_clue 84 = .ok (.aload_n 0, 1) := by decide +kernel
theorem dX10_clue_85 : decode cX10_clue 85 = .ok (.getfield 77, 3) := by decide +kernel
theorem dX10_clue_88 : decode cX10_clue 88 = .ok (.iload 6, 2) := by decide +kernel
theorem dX10_clue_90 : decode cX10_clue 90 = .ok (.iconst 4, 1) := by decide +kernel
theorem dX10_clue_91 : decode cX10_clue 91 = .ok (.iadd, 1) := by decide +kernel
theorem dX10_clue_92 : decode cX10_clue 92 = .ok (.iload 5, 2) := by decide +kernel
theorem dX10_clue_94 : decode cX10_clue 94 = .ok (.iastore, 1) := by decide +kernel
theorem dX10_clue_95 : decode cX10_clue 95 = .ok (.aload_n 0, 1) := by decide +kernel
theorem dX10_clue_96 : decode cX10_clue 96 = .ok (.dup, 1) := by decide +kernel
theorem dX10_clue_97 : decode cX10_clue 97 = .ok (.getfield 292, 3) := by decide +kernel
theorem dX10_clue_100 : decode cX10_clue 100 = .ok (.iconst 1, 1) := by decide +kernel
theorem dX10_clue_101 : decode cX10_clue 101 = .ok (.iadd, 1) := by decide +kernel
theorem dX10_clue_102 : decode cX10_clue 102 = .ok (.putfield 292, 3) := by decide +kernel
theorem dX10_clue_105 : decode cX10_clue 105 = .ok (.aload_n 0, 1) := by decide +kernel
theorem dX10_clue_106 : decode cX10_clue 106 = .ok (.getfield 292, 3) := by decide +kernel
theorem dX10_clue_109 : decode cX10_clue 109 = .ok (.ireturn, 1) := by decide +kernel
def bX10_clue : ol_SE := es_seq (es_if (ec_or (ec_z ol_ne (ei_of (ea_cs fX10_noSuchShot (ea_i (ei_v 1) (ea_i (ei_v 2) (ea_i (ei_v 3) (ea_i (ei_v 4) (ea_0)))))))) (ec_z ol_ne (ei_of (ea_cs fX10_outside (ea_i (ei_v 5) (ea_i (ei_c (-1)) (ea_i (ei_c 389) (ea_0)))))))) (es_ret (ei_c (-1))) es_skip) (es_seq (es_if (ec_2 ol_ge (ei_f 10 15 (er_v 0)) (ei_c 6)) (es_ret (ei_c (-3))) es_skip) (es_seq (es_set 6 (ei_2 ol_mul (ei_f 10 15 (er_v 0)) (ei_c 5))) (es_seq (es_as 100 (er_f 10 12 (er_v 0)) (ei_v 6) (ei_v 1)) (es_seq (es_as 100 (er_f 10 12 (er_v 0)) (ei_2 ol_add (ei_v 6) (ei_c 1)) (ei_v 2)) (es_seq (es_as 100 (er_f 10 12 (er_v 0)) (ei_2 ol_add (ei_v 6) (ei_c 2)) (ei_v 3)) (es_seq (es_as 100 (er_f 10 12 (er_v 0)) (ei_2 ol_add (ei_v 6) (ei_c 3)) (ei_v 4)) (es_seq (es_as 100 (er_f 10 12 (er_v 0)) (ei_2 ol_add (ei_v 6) (ei_c 4)) (ei_v 5)) (es_seq (es_uf 10 15 (er_v 0) ol_add (ei_c 1)) (es_ret (ei_f 10 15 (er_v 0)))))))))))
def fX10_clue : ol_FE := ol_fe 7 bX10_clue
set_option maxRecDepth 20000 in
theorem imX10_clue (x : ol_X) (K : ol_K) : IM_S x K mX10_clue 0 0 bX10_clue := rs_seq (p2 := 25) (rs_if (pT := 23) (pF := 25) (pE := 25) (rc_or (p2 := 11) (pT := 23) (pF := 25) (rc_zT (pT := 23) ol_j1_ne_T (ri_k (rk_s (Mc := mX10_noSuchShot) (conX10_noSuchShot _ K) (ra_i (ri_vn dX10_clue_0 rfl) (ra_i (ri_vn dX10_clue_1 rfl) (ra_i (ri_vn dX10_clue_2 rfl) (ra_i (ri_vi dX10_clue_3) (ra_0))))) dX10_clue_5 cwX10_151 tw_569 ⟨rfl, rfl, Nat.le_of_ble_eq_true rfl⟩ (by decide) (by decide) (al_i (al_i (al_i (al_i al_0))))) (Or.inr (Or.inl rfl))) dX10_clue_8 (by decide)) (rc_zF (pF := 25) ol_j1_eq_F (ri_k (rk_s (Mc := mX10_outside) (conX10_outside _ K) (ra_i (ri_vi dX10_clue_11) (ra_i (ri_ic dX10_clue_13 (by unfold ol_inR; omega)) (ra_i (ri_si dX10_clue_14 (by unfold ol_inR; omega) (by decide)) (ra_0)))) dX10_clue_17 cwX10_98 tw_417 ⟨rfl, rfl, Nat.le_of_ble_eq_true rfl⟩ (by decide) (by decide) (al_i (al_i (al_i al_0)))) (Or.inr (Or.inl rfl))) dX10_clue_20 (by decide))) (rs_ret (ri_ic dX10_clue_23 (by unfold ol_inR; omega)) rfl dX10_clue_24) rs_skip) (rs_seq (p2 := 37) (rs_if (pT := 34) (pF := 37) (pE := 37) (rc_2F (pF := 37) ol_j2_lt_F (ri_f (rr_vn dX10_clue_25 rfl) gfX10_292 dX10_clue_26) (ri_bi dX10_clue_29 (by unfold ol_inR; omega) (by decide)) dX10_clue_31 (by decide)) (rs_ret (ri_bi dX10_clue_34 (by unfold ol_inR; omega) (by decide)) rfl dX10_clue_36) rs_skip) (rs_seq (p2 := 45) (rs_set (ri_2 ol_op_mul (ri_f (rr_vn dX10_clue_37 rfl) gfX10_292 dX10_clue_38) (ri_ic dX10_clue_41 (by unfold ol_inR; omega)) dX10_clue_42) dX10_clue_43 (ol_ltn rfl)) (rs_seq (p2 := 53) (rs_as (rr_f (rr_vn dX10_clue_45 rfl) gfX10_77 dX10_clue_46) (ri_vi dX10_clue_49) (ri_vn dX10_clue_51 rfl) dX10_clue_52) (rs_seq (p2 := 63) (rs_as (rr_f (rr_vn dX10_clue_53 rfl) gfX10_77 dX10_clue_54) (ri_2 ol_op_add (ri_vi dX10_clue_57) (ri_ic dX10_clue_59 (by unfold ol_inR; omega)) dX10_clue_60) (ri_vn dX10_clue_61 rfl) dX10_clue_62) (rs_seq (p2 := 73) (rs_as (rr_f (rr_vn dX10_clue_63 rfl) gfX10_77 dX10_clue_64) (ri_2 ol_op_add (ri_vi dX10_clue_67) (ri_ic dX10_clue_69 (by unfold ol_inR; omega)) dX10_clue_70) (ri_vn dX10_clue_71 rfl) dX10_clue_72) (rs_seq (p2 := 84) (rs_as (rr_f (rr_vn dX10_clue_73 rfl) gfX10_77 dX10_clue_74) (ri_2 ol_op_add (ri_vi dX10_clue_77) (ri_ic dX10_clue_79 (by unfold ol_inR; omega)) dX10_clue_80) (ri_vi dX10_clue_81) dX10_clue_83) (rs_seq (p2 := 95) (rs_as (rr_f (rr_vn dX10_clue_84 rfl) gfX10_77 dX10_clue_85) (ri_2 ol_op_add (ri_vi dX10_clue_88) (ri_ic dX10_clue_90 (by unfold ol_inR; omega)) dX10_clue_91) (ri_vi dX10_clue_92) dX10_clue_94) (rs_seq (p2 := 105) (rs_uf ol_op_add (rr_vn dX10_clue_95 rfl) dX10_clue_96 dX10_clue_97 (ri_ic dX10_clue_100 (by unfold ol_inR; omega)) dX10_clue_101 gfX10_292 pfX10_292 rfl dX10_clue_102) (rs_ret (ri_f (rr_vn dX10_clue_105 rfl) gfX10_292 dX10_clue_106) rfl dX10_clue_109)))))))))
theorem conX10_clue (l : Launch) (K : ol_K) : ol_Con l K yX10_clue mX10_clue fX10_clue := ol_con (M := mX10_clue) (by decide) rfl rfl (imX10_clue · K)
theorem dX10_askKind_0 : decode cX10_askKind 0 = .ok (.iload_n 1, 1) := by decide +kernel
theorem dX10_askKind_1 : decode cX10_askKind 1 = .ok (.iconst 0, 1) := by decide +kernel
theorem dX10_askKind_2 : decode cX10_askKind 2 = .ok (.iconst 5, 1) := by decide +kernel
theorem dX10_askKind_3 : decode cX10_askKind 3 = .ok (.invokestatic 98, 3) := by decide +kernel
theorem dX10_askKind_6 : decode cX10_askKind 6 = .ok (.ifCond .ne 9, 3) := by decide +kernel
theorem dX10_askKind_9 : decode cX10_askKind 9 = .ok (.iload_n 2, 1) := by decide +kernel
theorem dX10_askKind_10 : decode cX10_askKind 10 = .ok (.bipush 6, 2) := by decide +kernel
theorem dX10_askKind_12 : decode cX10_askKind 12 = .ok (.if_icmp .lt 5, 3) := by decide +kernel
theorem dX10_askKind_15 : decode cX10_askKind 15 = .ok (.iconst 0, 1) := by decide +kernel
theorem dX10_askKind_16 : decode cX10_askKind 16 = .ok (.ireturn, 1) := by decide +kernel
theorem dX10_askKind_17 : decode cX10_askKind 17 = .ok (.aload_n 0, 1) := by decide +kernel
theorem dX10_askKind_18 : decode cX10_askKind 18 = .ok (.dup, 1) := by decide +kernel
theorem dX10_askKind_19 : decode cX10_askKind 19 = .ok (.getfield 319, 3) := by decide +kernel
theorem dX10_askKind_22 : decode cX10_askKind 22 = .ok (.getstatic 323, 3) := by decide +kernel
theorem dX10_askKind_25 : decode cX10_askKind 25 = .ok (.iload_n 1, 1) := by decide +kernel
theorem dX10_askKind_26 : decode cX10_askKind 26 = .ok (.iaload, 1) := by decide +kernel
theorem dX10_askKind_27 : decode cX10_askKind 27 = .ok (.i2l, 1) := by decide +kernel
theorem dX10_askKind_28 : decode cX10_askKind 28 = .ok (.ladd, 1) := by decide +kernel
theorem dX10_askKind_29 : decode cX10_askKind 29 = .ok (.putfield 319, 3) := by decide +kernel
theorem dX10_askKind_32 : decode cX10_askKind 32 = .ok (.aload_n 0, 1) := by decide +kernel
theorem dX10_askKind_33 : decode cX10_askKind 33 = .ok (.getstatic 326, 3) := by decide +kernel
theorem dX10_askKind_36 : decode cX10_askKind 36 = .ok (.iload_n 1, 1) := by decide +kernel
theorem dX10_askKind_37 : decode cX10_askKind 37 = .ok (.iaload, 1) := by decide +kernel
theorem dX10_askKind_38 : decode cX10_askKind 38 = .ok (.iload_n 2, 1) := by decide +kernel
theorem dX10_askKind_39 : decode cX10_askKind 39 = .ok (.iconst 1, 1) := by decide +kernel
theorem dX10_askKind_40 : decode cX10_askKind 40 = .ok (.iadd, 1) := by decide +kernel
theorem dX10_askKind_41 : decode cX10_askKind 41 = .ok (.invokevirtual 316, 3) := by decide +kernel
theorem dX10_askKind_44 : decode cX10_askKind 44 = .ok (.istore_n 3, 1) := by decide +kernel
theorem dX10_askKind_45 : decode cX10_askKind 45 = .ok (.iload_n 1, 1) := by decide +kernel
theorem dX10_askKind_46 : decode cX10_askKind 46 = .ok (.tableswitch 72 1 5 #[34, 44, 48, 52, 62], 34) := by decide +kernel
theorem dX10_askKind_80 : decode cX10_askKind 80 = .ok (.iload_n 3, 1) := by decide +kernel
theorem dX10_askKind_81 : decode cX10_askKind 81 = .ok (.aload_n 0, 1) := by decide +kernel
theorem dX10_askKind_82 : decode cX10_askKind 82 = .ok (.getfield 49, 3) := by decide +kernel
theorem dX10_askKind_85 : decode cX10_askKind 85 = .ok (.getfield 181, 3) := by decide +kernel
theorem dX10_askKind_88 : decode cX10_askKind 88 = .ok (.iadd, 1) := by decide +kernel
theorem dX10_askKind_89 : decode cX10_askKind 89 = .ok (.ireturn, 1) := by decide +kernel
theorem dX10_askKind_90 : decode cX10_askKind 90 = .ok (.iload_n 3, 1) := by decide +kernel
theorem dX10_askKind_91 : decode cX10_askKind 91 = .ok (.iconst 1, 1) := by decide +kernel
theorem dX10_askKind_92 : decode cX10_askKind 92 = .ok (.isub, 1) := by decide +kernel
theorem dX10_askKind_93 : decode cX10_askKind 93 = .ok (.ireturn, 1) := by decide +kernel
theorem dX10_askKind_94 : decode cX10_askKind 94 = .ok (.iconst 2, 1) := by decide +kernel
theorem dX10_askKind_95 : decode cX10_askKind 95 = .ok (.iload_n 3, 1) := by decide +kernel
theorem dX10_askKind_96 : decode cX10_askKind 96 = .ok (.imul, 1) := by decide +kernel
theorem dX10_askKind_97 : decode cX10_askKind 97 = .ok (.ireturn, 1) := by decide +kernel
theorem dX10_askKind_98 : decode cX10_askKind 98 = .ok (.iload_n 3, 1) := by decide +kernel
theorem dX10_askKind_99 : decode cX10_askKind 99 = .ok (.aload_n 0, 1) := by decide +kernel
theorem dX10_askKind_100 : decode cX10_askKind 100 = .ok (.getfield 49, 3) := by decide +kernel
theorem dX10_askKind_103 : decode cX10_askKind 103 = .ok (.getfield 175, 3) := by decide +kernel
theorem dX10_askKind_106 : decode cX10_askKind 106 = .ok (.iadd, 1) := by decide +kernel
theorem dX10_askKind_107 : decode cX10_askKind 107 = .ok (.ireturn, 1) := by decide +kernel
theorem dX10_askKind_108 : decode cX10_askKind 108 = .ok (.iload_n 3, 1) := by decide +kernel
theorem dX10_askKind_109 : decode cX10_askKind 109 = .ok (.aload_n 0, 1) := by decide +kernel
theorem dX10_askKind_110 : decode cX10_askKind 110 = .ok (.getfield 49, 3) := by decide +kernel
theorem dX10_askKind_113 : decode cX10_askKind 113 = .ok (.getfield 178, 3) := by decide +kernel
theorem dX10_askKind_116 : decode cX10_askKind 116 = .ok (.isub, 1) := by decide +kernel
theorem dX10_askKind_117 : decode cX10_askKind 117 = .ok (.ireturn, 1) := by decide +kernel
theorem dX10_askKind_118 : decode cX10_askKind 118 = .ok (.aload_n 0, 1) := by decide +kernel
theorem dX10_askKind_119 : decode cX10_askKind 119 = .ok (.getfield 49, 3) := by decide +kernel
theorem dX10_askKind_122 : decode cX10_askKind 122 = .ok (.invokevirtual 162, 3) := by decide +kernel
theorem dX10_askKind_125 : decode cX10_askKind 125 = .ok (.ireturn, 1) := by decide +kernel
def bX10_askKind (f : ol_FE) : ol_SE := es_seq (es_if (ec_or (ec_z ol_ne (ei_of (ea_cs fX10_outside (ea_i (ei_v 1) (ea_i (ei_c 0) (ea_i (ei_c 5) (ea_0))))))) (ec_2 ol_ge (ei_v 2) (ei_c 6))) (es_ret (ei_c 0)) es_skip) (es_seq (es_uj 10 17 (er_v 0) (ej_i (ei_t 2 (ei_v 1)))) (es_seq (es_set 3 (ei_of (ea_cv 10 f (ea_r (er_v 0) (ea_i (ei_t 1 (ei_v 1)) (ea_i (ei_2 ol_add (ei_v 2) (ei_c 1)) (ea_0))))))) (es_sw (ei_v 1) 1 [es_ret (ei_2 ol_add (ei_v 3) (ei_f 1 6 (er_f 10 7 (er_v 0)))), es_ret (ei_2 ol_sub (ei_v 3) (ei_c 1)), es_ret (ei_2 ol_mul (ei_c 2) (ei_v 3)), es_ret (ei_2 ol_add (ei_v 3) (ei_f 1 4 (er_f 10 7 (er_v 0)))), es_ret (ei_2 ol_sub (ei_v 3) (ei_f 1 5 (er_f 10 7 (er_v 0))))] (es_ret (ei_of (ea_cv 1 fX1_pins (ea_r (er_f 10 7 (er_v 0)) (ea_0))))))))
def fX10_askKind : Nat → ol_FE
  | 0 => fun _ _ => none
  | n + 1 => ol_fe 4 (bX10_askKind (fX10_askKind n))
set_option maxRecDepth 20000 in
theorem imX10_askKind (n : Nat) (f : ol_FE) (x : ol_X) (K : ol_K) (ih : ol_Con (xl x) K yX10_askKind (mX10_askKind n) f) : IM_S x K (mX10_askKind (n + 1)) 0 0 (bX10_askKind f) := rs_seq (p2 := 17) (rs_if (pT := 15) (pF := 17) (pE := 17) (rc_or (p2 := 9) (pT := 15) (pF := 17) (rc_zT (pT := 15) ol_j1_ne_T (ri_k (rk_s (Mc := mX10_outside) (conX10_outside _ K) (ra_i (ri_vn dX10_askKind_0 rfl) (ra_i (ri_ic dX10_askKind_1 (by unfold ol_inR; omega)) (ra_i (ri_ic dX10_askKind_2 (by unfold ol_inR; omega)) (ra_0)))) dX10_askKind_3 cwX10_98 tw_417 ⟨rfl, rfl, Nat.le_of_ble_eq_true rfl⟩ (Nat.lt_of_lt_of_le (show ml mX10_outside < 3 by decide) (Nat.le_add_right 3 (n + 1))) (by decide) (al_i (al_i (al_i al_0)))) (Or.inr (Or.inl rfl))) dX10_askKind_6 (by decide)) (rc_2F (pF := 17) ol_j2_lt_F (ri_vn dX10_askKind_9 rfl) (ri_bi dX10_askKind_10 (by unfold ol_inR; omega) (by decide)) dX10_askKind_12 (by decide))) (rs_ret (ri_ic dX10_askKind_15 (by unfold ol_inR; omega)) rfl dX10_askKind_16) rs_skip) (rs_seq (p2 := 32) (rs_uj (rr_vn dX10_askKind_17 rfl) dX10_askKind_18 dX10_askKind_19 (rj_i (ri_t (by decide) dX10_askKind_22 tw_819 (ri_vn dX10_askKind_25 rfl) dX10_askKind_26) dX10_askKind_27) dX10_askKind_28 gfX10_319 pfX10_319 rfl dX10_askKind_29) (rs_seq (p2 := 45) (rs_setn (ri_k (rk_v (Mc := (mX10_askKind n)) (ih) (ra_r (rr_vn dX10_askKind_32 rfl) (ra_i (ri_t (by decide) dX10_askKind_33 tw_821 (ri_vn dX10_askKind_36 rfl) dX10_askKind_37) (ra_i (ri_2 ol_op_add (ri_vn dX10_askKind_38 rfl) (ri_ic dX10_askKind_39 (by unfold ol_inR; omega)) dX10_askKind_40) (ra_0)))) dX10_askKind_41 (cwX10_316 _) tw_817 tw_23 (by decide) rfl rfl ⟨rfl, rfl, Nat.le_of_ble_eq_true rfl⟩ (Nat.lt_succ_self _) (by decide) (al_r (al_i (al_i al_0)))) (Or.inl rfl)) dX10_askKind_44 rfl (ol_ltn rfl)) (rs_sw (pE := 0) (pD := 118) (ri_vn dX10_askKind_45 rfl) dX10_askKind_46 rfl ⟨⟨_, 80, rfl, by decide, rs_ret (ri_2 ol_op_add (ri_vn dX10_askKind_80 rfl) (ri_f (rr_f (rr_vn dX10_askKind_81 rfl) gfX10_49 dX10_askKind_82) gfX10_181 dX10_askKind_85) dX10_askKind_88) rfl dX10_askKind_89⟩, ⟨_, 90, rfl, by decide, rs_ret (ri_2 ol_op_sub (ri_vn dX10_askKind_90 rfl) (ri_ic dX10_askKind_91 (by unfold ol_inR; omega)) dX10_askKind_92) rfl dX10_askKind_93⟩, ⟨_, 94, rfl, by decide, rs_ret (ri_2 ol_op_mul (ri_ic dX10_askKind_94 (by unfold ol_inR; omega)) (ri_vn dX10_askKind_95 rfl) dX10_askKind_96) rfl dX10_askKind_97⟩, ⟨_, 98, rfl, by decide, rs_ret (ri_2 ol_op_add (ri_vn dX10_askKind_98 rfl) (ri_f (rr_f (rr_vn dX10_askKind_99 rfl) gfX10_49 dX10_askKind_100) gfX10_175 dX10_askKind_103) dX10_askKind_106) rfl dX10_askKind_107⟩, ⟨_, 108, rfl, by decide, rs_ret (ri_2 ol_op_sub (ri_vn dX10_askKind_108 rfl) (ri_f (rr_f (rr_vn dX10_askKind_109 rfl) gfX10_49 dX10_askKind_110) gfX10_178 dX10_askKind_113) dX10_askKind_116) rfl dX10_askKind_117⟩, trivial⟩ (by decide) (rs_ret (ri_k (rk_v (Mc := mX1_pins) (conX1_pins _ K) (ra_r (rr_f (rr_vn dX10_askKind_118 rfl) gfX10_49 dX10_askKind_119) (ra_0)) dX10_askKind_122 cwX10_162 tw_602 tw_603 (by decide) rfl rfl ⟨rfl, rfl, Nat.le_of_ble_eq_true rfl⟩ (Nat.lt_of_lt_of_le (show ml mX1_pins < 3 by decide) (Nat.le_add_right 3 (n + 1))) (by decide) (al_r al_0)) (Or.inl rfl)) rfl dX10_askKind_125))))
theorem conX10_askKind (n : Nat) (l : Launch) (K : ol_K) : ol_Con l K yX10_askKind (mX10_askKind n) (fX10_askKind n) := by
  induction n generalizing l with
  | zero => intro vs cs r cs' _ h; cases h
  | succ n ih => exact ol_con (M := mX10_askKind (n + 1)) (by decide) rfl rfl (fun x => imX10_askKind n _ x K (ih _))
theorem dX11_due_0 : decode cX11_due 0 = .ok (.aload_n 0, 1) := by decide +kernel
theorem dX11_due_1 : decode cX11_due 1 = .ok (.getfield 83, 3) := by decide +kernel
theorem dX11_due_4 : decode cX11_due 4 = .ok (.istore_n 2, 1) := by decide +kernel
theorem dX11_due_5 : decode cX11_due 5 = .ok (.aload_n 0, 1) := by decide +kernel
theorem dX11_due_6 : decode cX11_due 6 = .ok (.getfield 90, 3) := by decide +kernel
theorem dX11_due_9 : decode cX11_due 9 = .ok (.bipush (-9), 2) := by decide +kernel
theorem dX11_due_11 : decode cX11_due 11 = .ok (.if_icmp .ne 22, 3) := by decide +kernel
theorem dX11_due_14 : decode cX11_due 14 = .ok (.iload_n 1, 1) := by decide +kernel
theorem dX11_due_15 : decode cX11_due 15 = .ok (.ifCond .eq 10, 3) := by decide +kernel
theorem dX11_due_18 : decode cX11_due 18 = .ok (.aload_n 0, 1) := by decide +kernel
theorem dX11_due_19 : decode cX11_due 19 = .ok (.invokevirtual 93, 3) := by decide +kernel
theorem dX11_due_22 : decode cX11_due 22 = .ok (.goto 11, 3) := by decide +kernel
theorem dX11_due_25 : decode cX11_due 25 = .ok (.aload_n 0, 1) := by decide +kernel
theorem dX11_due_26 : decode cX11_due 26 = .ok (.aload_n 0, 1) := by decide +kernel
theorem dX11_due_27 : decode cX11_due 27 = .ok (.getfield 80, 3) := by decide +kernel
theorem dX11_due_30 : decode cX11_due 30 = .ok (.putfield 90, 3) := by decide +kernel
theorem dX11_due_33 : decode cX11_due 33 = .ok (.iload_n 2, 1) := by decide +kernel
theorem dX11_due_34 : decode cX11_due 34 = .ok (.ireturn, 1) := by decide +kernel
def bX11_due : ol_SE := es_seq (es_set 2 (ei_f 11 8 (er_v 0))) (es_seq (es_if (ec_2 ol_eq (ei_f 11 9 (er_v 0)) (ei_c (-9))) (es_if (ec_z ol_ne (ei_v 1)) (es_of (ea_cv 11 fX11_next (ea_r (er_v 0) (ea_0)))) (es_pf 11 9 (er_v 0) (ei_f 11 6 (er_v 0)))) es_skip) (es_ret (ei_v 2)))
def fX11_due : ol_FE := ol_fe 3 bX11_due
set_option maxRecDepth 20000 in
theorem imX11_due (x : ol_X) (K : ol_K) : IM_S x K mX11_due 0 0 bX11_due := rs_seq (p2 := 5) (rs_setn (ri_f (rr_vn dX11_due_0 rfl) gfX11_83 dX11_due_1) dX11_due_4 rfl (ol_ltn rfl)) (rs_seq (p2 := 33) (rs_if (pT := 14) (pF := 33) (pE := 33) (rc_2F (pF := 33) ol_j2_ne_F (ri_f (rr_vn dX11_due_5 rfl) gfX11_90 dX11_due_6) (ri_bi dX11_due_9 (by unfold ol_inR; omega) (by decide)) dX11_due_11 (by decide)) (rs_if (pT := 18) (pF := 25) (pE := 33) (rc_zF (pF := 25) ol_j1_eq_F (ri_vn dX11_due_14 rfl) dX11_due_15 (by decide)) (rs_goto (p3 := 33) (rs_k (rk_v (Mc := mX11_next) (conX11_next _ K) (ra_r (rr_vn dX11_due_18 rfl) (ra_0)) dX11_due_19 cwX11_93 tw_994 tw_25 (by decide) rfl rfl ⟨rfl, rfl, Nat.le_of_ble_eq_true rfl⟩ (by decide) (by decide) (al_r al_0))) dX11_due_22 (by decide)) (rs_pf (rr_vn dX11_due_25 rfl) (ri_f (rr_vn dX11_due_26 rfl) gfX11_80 dX11_due_27) pfX11_90 rfl dX11_due_30)) rs_skip) (rs_ret (ri_vn dX11_due_33 rfl) rfl dX11_due_34))
theorem conX11_due (l : Launch) (K : ol_K) : ol_Con l K yX11_due mX11_due fX11_due := ol_con (M := mX11_due) (by decide) rfl rfl (imX11_due · K)
theorem dX11_ball_0 : decode cX11_ball 0 = .ok (.iload_n 1, 1) := by decide +kernel
theorem dX11_ball_1 : decode cX11_ball 1 = .ok (.invokestatic 122, 3) := by decide +kernel
theorem dX11_ball_4 : decode cX11_ball 4 = .ok (.ifCond .eq 39, 3) := by decide +kernel
theorem dX11_ball_7 : decode cX11_ball 7 = .ok (.iload_n 2, 1) := by decide +kernel
theorem dX11_ball_8 : decode cX11_ball 8 = .ok (.iconst 0, 1) := by decide +kernel
theorem dX11_ball_9 : decode cX11_ball 9 = .ok (.iconst 1, 1) := by decide +kernel
theorem dX11_ball_10 : decode cX11_ball 10 = .ok (.invokestatic 63, 3) := by decide +kernel
theorem dX11_ball_13 : decode cX11_ball 13 = .ok (.ifCond .eq 30, 3) := by decide +kernel
theorem dX11_ball_16 : decode cX11_ball 16 = .ok (.iload_n 2, 1) := by decide +kernel
theorem dX11_ball_17 : decode cX11_ball 17 = .ok (.ifCond .ne 16, 3) := by decide +kernel
theorem dX11_ball_20 : decode cX11_ball 20 = .ok (.iload_n 3, 1) := by decide +kernel
theorem dX11_ball_21 : decode cX11_ball 21 = .ok (.iconst 1, 1) := by decide +kernel
theorem dX11_ball_22 : decode cX11_ball 22 = .ok (.bipush 9, 2) := by decide +kernel
theorem dX11_ball_24 : decode cX11_ball 24 = .ok (.invokestatic 63, 3) := by decide +kernel
theorem dX11_ball_27 : decode cX11_ball 27 = .ok (.ifCond .eq 16, 3) := by decide +kernel
theorem dX11_ball_30 : decode cX11_ball 30 = .ok (.goto 15, 3) := by decide +kernel
theorem dX11_ball_33 : decode cX11_ball 33 = .ok (.iload_n 3, 1) := by decide +kernel
theorem dX11_ball_34 : decode cX11_ball 34 = .ok (.iconst 5, 1) := by decide +kernel
theorem dX11_ball_35 : decode cX11_ball 35 = .ok (.bipush 16, 2) := by decide +kernel
theorem dX11_ball_37 : decode cX11_ball 37 = .ok (.invokestatic 63, 3) := by decide +kernel
theorem dX11_ball_40 : decode cX11_ball 40 = .ok (.ifCond .ne 5, 3) := by decide +kernel
theorem dX11_ball_43 : decode cX11_ball 43 = .ok (.iconst (-1), 1) := by decide +kernel
theorem dX11_ball_44 : decode cX11_ball 44 = .ok (.ireturn, 1) := by decide +kernel
theorem dX11_ball_45 : decode cX11_ball 45 = .ok (.iload_n 2, 1) := by decide +kernel
theorem dX11_ball_46 : decode cX11_ball 46 = .ok (.ifCond .ne 12, 3) := by decide +kernel
theorem dX11_ball_49 : decode cX11_ball 49 = .ok (.aload_n 0, 1) := by decide +kernel
theorem dX11_ball_50 : decode cX11_ball 50 = .ok (.getfield 17, 3) := by decide +kernel
theorem dX11_ball_53 : decode cX11_ball 53 = .ok (.iload_n 1, 1) := by decide +kernel
theorem dX11_ball_54 : decode cX11_ball 54 = .ok (.iaload, 1) := by decide +kernel
theorem dX11_ball_55 : decode cX11_ball 55 = .ok (.goto 9, 3) := by decide +kernel
theorem dX11_ball_58 : decode cX11_ball 58 = .ok (.aload_n 0, 1) := by decide +kernel
theorem dX11_ball_59 : decode cX11_ball 59 = .ok (.getfield 20, 3) := by decide +kernel
theorem dX11_ball_62 : decode cX11_ball 62 = .ok (.iload_n 1, 1) := by decide +kernel
theorem dX11_ball_63 : decode cX11_ball 63 = .ok (.iaload, 1) := by decide +kernel
theorem dX11_ball_64 : decode cX11_ball 64 = .ok (.istore 4, 2) := by decide +kernel
theorem dX11_ball_66 : decode cX11_ball 66 = .ok (.aload_n 0, 1) := by decide +kernel
theorem dX11_ball_67 : decode cX11_ball 67 = .ok (.getfield 17, 3) := by decide +kernel
theorem dX11_ball_70 : decode cX11_ball 70 = .ok (.iload_n 1, 1) := by decide +kernel
theorem dX11_ball_71 : decode cX11_ball 71 = .ok (.iload_n 2, 1) := by decide +kernel
theorem dX11_ball_72 : decode cX11_ball 72 = .ok (.ifCond .ne 7, 3) := by decide +kernel
theorem dX11_ball_75 : decode cX11_ball 75 = .ok (.iload_n 3, 1) := by decide +kernel
theorem dX11_ball_76 : decode cX11_ball 76 = .ok (.goto 9, 3) := by decide +kernel
theorem dX11_ball_79 : decode cX11_ball 79 = .ok (.aload_n 0, 1) := by decide +kernel
theorem dX11_ball_80 : decode cX11_ball 80 = .ok (.getfield 17, 3) := by decide +kernel
theorem dX11_ball_83 : decode cX11_ball 83 = .ok (.iload_n 1, 1) := by decide +kernel
theorem dX11_ball_84 : decode cX11_ball 84 = .ok (.iaload, 1) := by decide +kernel
theorem dX11_ball_85 : decode cX11_ball 85 = .ok (.iastore, 1) := by decide +kernel
theorem dX11_ball_86 : decode cX11_ball 86 = .ok (.aload_n 0, 1) := by decide +kernel
theorem dX11_ball_87 : decode cX11_ball 87 = .ok (.getfield 20, 3) := by decide +kernel
theorem dX11_ball_90 : decode cX11_ball 90 = .ok (.iload_n 1, 1) := by decide +kernel
theorem dX11_ball_91 : decode cX11_ball 91 = .ok (.iload_n 2, 1) := by decide +kernel
theorem dX11_ball_92 : decode cX11_ball 92 = .ok (.iconst 1, 1) := by decide +kernel
theorem dX11_ball_93 : decode cX11_ball 93 = .ok (.if_icmp .ne 7, 3) := by decide +kernel
theorem dX11_ball_96 : decode cX11_ball 96 = .ok (.iload_n 3, 1) := by decide +kernel
theorem dX11_ball_97 : decode cX11_ball 97 = .ok (.goto 9, 3) := by decide +kernel
theorem dX11_ball_100 : decode cX11_ball 100 = .ok (.aload_n 0, 1) := by decide +kernel
theorem dX11_ball_101 : decode cX11_ball 101 = .ok (.getfield 20, 3) := by decide +kernel
theorem dX11_ball_104 : decode cX11_ball 104 = .ok (.iload_n 1, 1) := by decide +kernel
theorem dX11_ball_105 : decode cX11_ball 105 = .ok (.iaload, 1) := by decide +kernel
theorem dX11_ball_106 : decode cX11_ball 106 = .ok (.iastore, 1) := by decide +kernel
theorem dX11_ball_107 : decode cX11_ball 107 = .ok (.iload 4, 2) := by decide +kernel
theorem dX11_ball_109 : decode cX11_ball 109 = .ok (.ireturn, 1) := by decide +kernel
def bX11_ball : ol_SE := es_seq (es_if (ec_or (ec_or (ec_not (ec_z ol_ne (ei_of (ea_cs fX11_isBall (ea_i (ei_v 1) (ea_0)))))) (ec_not (ec_z ol_ne (ei_of (ea_cs fX11_in (ea_i (ei_v 2) (ea_i (ei_c 0) (ea_i (ei_c 1) (ea_0))))))))) (ec_not (ec_if (ec_z ol_eq (ei_v 2)) (ec_z ol_ne (ei_of (ea_cs fX11_in (ea_i (ei_v 3) (ea_i (ei_c 1) (ea_i (ei_c 9) (ea_0))))))) (ec_z ol_ne (ei_of (ea_cs fX11_in (ea_i (ei_v 3) (ea_i (ei_c 5) (ea_i (ei_c 16) (ea_0)))))))))) (es_ret (ei_c (-1))) es_skip) (es_seq (es_set 4 (ei_if (ec_z ol_eq (ei_v 2)) (ei_a 100 (er_f 11 10 (er_v 0)) (ei_v 1)) (ei_a 100 (er_f 11 11 (er_v 0)) (ei_v 1)))) (es_seq (es_as 100 (er_f 11 10 (er_v 0)) (ei_v 1) (ei_if (ec_z ol_eq (ei_v 2)) (ei_v 3) (ei_a 100 (er_f 11 10 (er_v 0)) (ei_v 1)))) (es_seq (es_as 100 (er_f 11 11 (er_v 0)) (ei_v 1) (ei_if (ec_2 ol_eq (ei_v 2) (ei_c 1)) (ei_v 3) (ei_a 100 (er_f 11 11 (er_v 0)) (ei_v 1)))) (es_ret (ei_v 4)))))
def fX11_ball : ol_FE := ol_fe 5 bX11_ball
set_option maxRecDepth 20000 in
theorem imX11_ball (x : ol_X) (K : ol_K) : IM_S x K mX11_ball 0 0 bX11_ball := rs_seq (p2 := 45) (rs_if (pT := 43) (pF := 45) (pE := 45) (rc_or (p2 := 16) (pT := 43) (pF := 45) (rc_or (p2 := 7) (pT := 43) (pF := 16) (rc_not (rc_zF (pF := 43) ol_j1_eq_F (ri_k (rk_s (Mc := mX11_isBall) (conX11_isBall _ K) (ra_i (ri_vn dX11_ball_0 rfl) (ra_0)) dX11_ball_1 cwX11_122 tw_1042 ⟨rfl, rfl, Nat.le_of_ble_eq_true rfl⟩ (by decide) (by decide) (al_i al_0)) (Or.inr (Or.inl rfl))) dX11_ball_4 (by decide))) (rc_not (rc_zF (pF := 43) ol_j1_eq_F (ri_k (rk_s (Mc := mX11_in) (conX11_in _ K) (ra_i (ri_vn dX11_ball_7 rfl) (ra_i (ri_ic dX11_ball_8 (by unfold ol_inR; omega)) (ra_i (ri_ic dX11_ball_9 (by unfold ol_inR; omega)) (ra_0)))) dX11_ball_10 cwX11_63 tw_981 ⟨rfl, rfl, Nat.le_of_ble_eq_true rfl⟩ (by decide) (by decide) (al_i (al_i (al_i al_0)))) (Or.inr (Or.inl rfl))) dX11_ball_13 (by decide)))) (rc_not (rc_if (p2 := 20) (p3 := 30) (p4 := 33) (pT := 45) (pF := 43) (rc_zF (pF := 33) ol_j1_ne_F (ri_vn dX11_ball_16 rfl) dX11_ball_17 (by decide)) (rc_zF (pF := 43) ol_j1_eq_F (ri_k (rk_s (Mc := mX11_in) (conX11_in _ K) (ra_i (ri_vn dX11_ball_20 rfl) (ra_i (ri_ic dX11_ball_21 (by unfold ol_inR; omega)) (ra_i (ri_bi dX11_ball_22 (by unfold ol_inR; omega) (by decide)) (ra_0)))) dX11_ball_24 cwX11_63 tw_981 ⟨rfl, rfl, Nat.le_of_ble_eq_true rfl⟩ (by decide) (by decide) (al_i (al_i (al_i al_0)))) (Or.inr (Or.inl rfl))) dX11_ball_27 (by decide)) dX11_ball_30 (by decide) (rc_zT (pT := 45) ol_j1_ne_T (ri_k (rk_s (Mc := mX11_in) (conX11_in _ K) (ra_i (ri_vn dX11_ball_33 rfl) (ra_i (ri_ic dX11_ball_34 (by unfold ol_inR; omega)) (ra_i (ri_bi dX11_ball_35 (by unfold ol_inR; omega) (by decide)) (ra_0)))) dX11_ball_37 cwX11_63 tw_981 ⟨rfl, rfl, Nat.le_of_ble_eq_true rfl⟩ (by decide) (by decide) (al_i (al_i (al_i al_0)))) (Or.inr (Or.inl rfl))) dX11_ball_40 (by decide))))) (rs_ret (ri_ic dX11_ball_43 (by unfold ol_inR; omega)) rfl dX11_ball_44) rs_skip) (rs_seq (p2 := 66) (rs_set (ri_if (pT := 49) (pF := 58) (p3 := 64) (rc_zF (pF := 58) ol_j1_ne_F (ri_vn dX11_ball_45 rfl) dX11_ball_46 (by decide)) (ri_a (rr_f (rr_vn dX11_ball_49 rfl) gfX11_17 dX11_ball_50) (ri_vn dX11_ball_53 rfl) rfl dX11_ball_54) dX11_ball_55 (by decide) (ri_a (rr_f (rr_vn dX11_ball_58 rfl) gfX11_20 dX11_ball_59) (ri_vn dX11_ball_62 rfl) rfl dX11_ball_63)) dX11_ball_64 (ol_ltn rfl)) (rs_seq (p2 := 86) (rs_as (rr_f (rr_vn dX11_ball_66 rfl) gfX11_17 dX11_ball_67) (ri_vn dX11_ball_70 rfl) (ri_if (pT := 75) (pF := 79) (p3 := 85) (rc_zF (pF := 79) ol_j1_ne_F (ri_vn dX11_ball_71 rfl) dX11_ball_72 (by decide)) (ri_vn dX11_ball_75 rfl) dX11_ball_76 (by decide) (ri_a (rr_f (rr_vn dX11_ball_79 rfl) gfX11_17 dX11_ball_80) (ri_vn dX11_ball_83 rfl) rfl dX11_ball_84)) dX11_ball_85) (rs_seq (p2 := 107) (rs_as (rr_f (rr_vn dX11_ball_86 rfl) gfX11_20 dX11_ball_87) (ri_vn dX11_ball_90 rfl) (ri_if (pT := 96) (pF := 100) (p3 := 106) (rc_2F (pF := 100) ol_j2_ne_F (ri_vn dX11_ball_91 rfl) (ri_ic dX11_ball_92 (by unfold ol_inR; omega)) dX11_ball_93 (by decide)) (ri_vn dX11_ball_96 rfl) dX11_ball_97 (by decide) (ri_a (rr_f (rr_vn dX11_ball_100 rfl) gfX11_20 dX11_ball_101) (ri_vn dX11_ball_104 rfl) rfl dX11_ball_105)) dX11_ball_106) (rs_ret (ri_vi dX11_ball_107) rfl dX11_ball_109))))
theorem conX11_ball (l : Launch) (K : ol_K) : ol_Con l K yX11_ball mX11_ball fX11_ball := ol_con (M := mX11_ball) (by decide) rfl rfl (imX11_ball · K)
theorem dX11_isShot_0 : decode cX11_isShot 0 = .ok (.iload_n 0, 1) := by decide +kernel
theorem dX11_isShot_1 : decode cX11_isShot 1 = .ok (.iconst 0, 1) := by decide +kernel
theorem dX11_isShot_2 : decode cX11_isShot 2 = .ok (.bipush 38, 2) := by decide +kernel
theorem dX11_isShot_4 : decode cX11_isShot 4 = .ok (.invokestatic 63, 3) := by decide +kernel
theorem dX11_isShot_7 : decode cX11_isShot 7 = .ok (.ifCond .eq 36, 3) := by decide +kernel
theorem dX11_isShot_10 : decode cX11_isShot 10 = .ok (.iload_n 1, 1) := by decide +kernel
theorem dX11_isShot_11 : decode cX11_isShot 11 = .ok (.bipush (-20), 2) := by decide +kernel
theorem dX11_isShot_13 : decode cX11_isShot 13 = .ok (.bipush 20, 2) := by decide +kernel
theorem dX11_isShot_15 : decode cX11_isShot 15 = .ok (.invokestatic 63, 3) := by decide +kernel
theorem dX11_isShot_18 : decode cX11_isShot 18 = .ok (.ifCond .eq 25, 3) := by decide +kernel
theorem dX11_isShot_21 : decode cX11_isShot 21 = .ok (.iload_n 2, 1) := by decide +kernel
theorem dX11_isShot_22 : decode cX11_isShot 22 = .ok (.bipush (-30), 2) := by decide +kernel
theorem dX11_isShot_24 : decode cX11_isShot 24 = .ok (.bipush 30, 2) := by decide +kernel
theorem dX11_isShot_26 : decode cX11_isShot 26 = .ok (.invokestatic 63, 3) := by decide +kernel
theorem dX11_isShot_29 : decode cX11_isShot 29 = .ok (.ifCond .eq 14, 3) := by decide +kernel
theorem dX11_isShot_32 : decode cX11_isShot 32 = .ok (.iload_n 3, 1) := by decide +kernel
theorem dX11_isShot_33 : decode cX11_isShot 33 = .ok (.invokestatic 122, 3) := by decide +kernel
theorem dX11_isShot_36 : decode cX11_isShot 36 = .ok (.ifCond .eq 7, 3) := by decide +kernel
theorem dX11_isShot_39 : decode cX11_isShot 39 = .ok (.iconst 1, 1) := by decide +kernel
theorem dX11_isShot_40 : decode cX11_isShot 40 = .ok (.goto 4, 3) := by decide +kernel
theorem dX11_isShot_43 : decode cX11_isShot 43 = .ok (.iconst 0, 1) := by decide +kernel
theorem dX11_isShot_44 : decode cX11_isShot 44 = .ok (.ireturn, 1) := by decide +kernel
def bX11_isShot : ol_SE := es_retz (ei_if (ec_and (ec_and (ec_and (ec_z ol_ne (ei_of (ea_cs fX11_in (ea_i (ei_v 0) (ea_i (ei_c 0) (ea_i (ei_c 38) (ea_0))))))) (ec_z ol_ne (ei_of (ea_cs fX11_in (ea_i (ei_v 1) (ea_i (ei_c (-20)) (ea_i (ei_c 20) (ea_0)))))))) (ec_z ol_ne (ei_of (ea_cs fX11_in (ea_i (ei_v 2) (ea_i (ei_c (-30)) (ea_i (ei_c 30) (ea_0)))))))) (ec_z ol_ne (ei_of (ea_cs fX11_isBall (ea_i (ei_v 3) (ea_0)))))) (ei_c 1) (ei_c 0))
def fX11_isShot : ol_FE := ol_fe 4 bX11_isShot
set_option maxRecDepth 20000 in
theorem imX11_isShot (x : ol_X) (K : ol_K) : IM_S x K mX11_isShot 0 0 bX11_isShot := rs_retz (ri_if (pT := 39) (pF := 43) (p3 := 44) (rc_and (p2 := 32) (pT := 39) (pF := 43) (rc_and (p2 := 21) (pT := 32) (pF := 43) (rc_and (p2 := 10) (pT := 21) (pF := 43) (rc_zF (pF := 43) ol_j1_eq_F (ri_k (rk_s (Mc := mX11_in) (conX11_in _ K) (ra_i (ri_vn dX11_isShot_0 rfl) (ra_i (ri_ic dX11_isShot_1 (by unfold ol_inR; omega)) (ra_i (ri_bi dX11_isShot_2 (by unfold ol_inR; omega) (by decide)) (ra_0)))) dX11_isShot_4 cwX11_63 tw_981 ⟨rfl, rfl, Nat.le_of_ble_eq_true rfl⟩ (by decide) (by decide) (al_i (al_i (al_i al_0)))) (Or.inr (Or.inl rfl))) dX11_isShot_7 (by decide)) (rc_zF (pF := 43) ol_j1_eq_F (ri_k (rk_s (Mc := mX11_in) (conX11_in _ K) (ra_i (ri_vn dX11_isShot_10 rfl) (ra_i (ri_bi dX11_isShot_11 (by unfold ol_inR; omega) (by decide)) (ra_i (ri_bi dX11_isShot_13 (by unfold ol_inR; omega) (by decide)) (ra_0)))) dX11_isShot_15 cwX11_63 tw_981 ⟨rfl, rfl, Nat.le_of_ble_eq_true rfl⟩ (by decide) (by decide) (al_i (al_i (al_i al_0)))) (Or.inr (Or.inl rfl))) dX11_isShot_18 (by decide))) (rc_zF (pF := 43) ol_j1_eq_F (ri_k (rk_s (Mc := mX11_in) (conX11_in _ K) (ra_i (ri_vn dX11_isShot_21 rfl) (ra_i (ri_bi dX11_isShot_22 (by unfold ol_inR; omega) (by decide)) (ra_i (ri_bi dX11_isShot_24 (by unfold ol_inR; omega) (by decide)) (ra_0)))) dX11_isShot_26 cwX11_63 tw_981 ⟨rfl, rfl, Nat.le_of_ble_eq_true rfl⟩ (by decide) (by decide) (al_i (al_i (al_i al_0)))) (Or.inr (Or.inl rfl))) dX11_isShot_29 (by decide))) (rc_zF (pF := 43) ol_j1_eq_F (ri_k (rk_s (Mc := mX11_isBall) (conX11_isBall _ K) (ra_i (ri_vn dX11_isShot_32 rfl) (ra_0)) dX11_isShot_33 cwX11_122 tw_1042 ⟨rfl, rfl, Nat.le_of_ble_eq_true rfl⟩ (by decide) (by decide) (al_i al_0)) (Or.inr (Or.inl rfl))) dX11_isShot_36 (by decide))) (ri_ic dX11_isShot_39 (by unfold ol_inR; omega)) dX11_isShot_40 (by decide) (ri_ic dX11_isShot_43 (by unfold ol_inR; omega))) rfl dX11_isShot_44
theorem conX11_isShot (l : Launch) (K : ol_K) : ol_Con l K yX11_isShot mX11_isShot fX11_isShot := ol_con (M := mX11_isShot) (by decide) rfl rfl (imX11_isShot · K)
theorem dX11_go_0 : decode cX11_go 0 = .ok (.aload_n 0, 1) := by decide +kernel
theorem dX11_go_1 : decode cX11_go 1 = .ok (.bipush 10, 2) := by decide +kernel
theorem dX11_go_3 : decode cX11_go 3 = .ok (.iload_n 2, 1) := by decide +kernel
theorem dX11_go_4 : decode cX11_go 4 = .ok (.imul, 1) := by decide +kernel
theorem dX11_go_5 : decode cX11_go 5 = .ok (.iconst 5, 1) := by decide +kernel
theorem dX11_go_6 : decode cX11_go 6 = .ok (.iadd, 1) := by decide +kernel
theorem dX11_go_7 : decode cX11_go 7 = .ok (.putfield 144, 3) := by decide +kernel
theorem dX11_go_10 : decode cX11_go 10 = .ok (.aload_n 0, 1) := by decide +kernel
theorem dX11_go_11 : decode cX11_go 11 = .ok (.iload_n 3, 1) := by decide +kernel
theorem dX11_go_12 : decode cX11_go 12 = .ok (.putfield 125, 3) := by decide +kernel
theorem dX11_go_15 : decode cX11_go 15 = .ok (.aload_n 0, 1) := by decide +kernel
theorem dX11_go_16 : decode cX11_go 16 = .ok (.iload 4, 2) := by decide +kernel
theorem dX11_go_18 : decode cX11_go 18 = .ok (.putfield 128, 3) := by decide +kernel
theorem dX11_go_21 : decode cX11_go 21 = .ok (.aload_n 0, 1) := by decide +kernel
theorem dX11_go_22 : decode cX11_go 22 = .ok (.iconst 0, 1) := by decide +kernel
theorem dX11_go_23 : decode cX11_go 23 = .ok (.putfield 137, 3) := by decide +kernel
theorem dX11_go_26 : decode cX11_go 26 = .ok (.aload_n 0, 1) := by decide +kernel
theorem dX11_go_27 : decode cX11_go 27 = .ok (.iconst 0, 1) := by decide +kernel
theorem dX11_go_28 : decode cX11_go 28 = .ok (.putfield 131, 3) := by decide +kernel
theorem dX11_go_31 : decode cX11_go 31 = .ok (.aload_n 0, 1) := by decide +kernel
theorem dX11_go_32 : decode cX11_go 32 = .ok (.iconst 0, 1) := by decide +kernel
theorem dX11_go_33 : decode cX11_go 33 = .ok (.putfield 134, 3) := by decide +kernel
theorem dX11_go_36 : decode cX11_go 36 = .ok (.aload_n 0, 1) := by decide +kernel
theorem dX11_go_37 : decode cX11_go 37 = .ok (.iconst 0, 1) := by decide +kernel
theorem dX11_go_38 : decode cX11_go 38 = .ok (.putfield 147, 3) := by decide +kernel
theorem dX11_go_41 : decode cX11_go 41 = .ok (.iconst 0, 1) := by decide +kernel
theorem dX11_go_42 : decode cX11_go 42 = .ok (.istore 6, 2) := by decide +kernel
theorem dX11_go_44 : decode cX11_go 44 = .ok (.iload 6, 2) := by decide +kernel
theorem dX11_go_46 : decode cX11_go 46 = .ok (.bipush 20, 2) := by decide +kernel
theorem dX11_go_48 : decode cX11_go 48 = .ok (.if_icmp .ge 37, 3) := by decide +kernel
theorem dX11_go_51 : decode cX11_go 51 = .ok (.aload_n 0, 1) := by decide +kernel
theorem dX11_go_52 : decode cX11_go 52 = .ok (.getfield 147, 3) := by decide +kernel
theorem dX11_go_55 : decode cX11_go 55 = .ok (.ifCond .ne 30, 3) := by decide +kernel
theorem dX11_go_58 : decode cX11_go 58 = .ok (.aload_n 0, 1) := by decide +kernel
theorem dX11_go_59 : decode cX11_go 59 = .ok (.iload_n 1, 1) := by decide +kernel
theorem dX11_go_60 : decode cX11_go 60 = .ok (.bipush 39, 2) := by decide +kernel
theorem dX11_go_62 : decode cX11_go 62 = .ok (.iload 6, 2) := by decide +kernel
theorem dX11_go_64 : decode cX11_go 64 = .ok (.imul, 1) := by decide +kernel
theorem dX11_go_65 : decode cX11_go 65 = .ok (.iadd, 1) := by decide +kernel
theorem dX11_go_66 : decode cX11_go 66 = .ok (.aload_n 0, 1) := by decide +kernel
theorem dX11_go_67 : decode cX11_go 67 = .ok (.getfield 144, 3) := by decide +kernel
theorem dX11_go_70 : decode cX11_go 70 = .ok (.bipush 10, 2) := by decide +kernel
theorem dX11_go_72 : decode cX11_go 72 = .ok (.idiv, 1) := by decide +kernel
theorem dX11_go_73 : decode cX11_go 73 = .ok (.iadd, 1) := by decide +kernel
theorem dX11_go_74 : decode cX11_go 74 = .ok (.iload 5, 2) := by decide +kernel
theorem dX11_go_76 : decode cX11_go 76 = .ok (.invokevirtual 150, 3) := by decide +kernel
theorem dX11_go_79 : decode cX11_go 79 = .ok (.iinc 6 1, 3) := by decide +kernel
theorem dX11_go_82 : decode cX11_go 82 = .ok (.goto (-38), 3) := by decide +kernel
theorem dX11_go_85 : decode cX11_go 85 = .ok (.return_, 1) := by decide +kernel
def bX11_go : ol_SE := es_seq (es_pf 11 12 (er_v 0) (ei_2 ol_add (ei_2 ol_mul (ei_c 10) (ei_v 2)) (ei_c 5))) (es_seq (es_pf 11 13 (er_v 0) (ei_v 3)) (es_seq (es_pf 11 14 (er_v 0) (ei_v 4)) (es_seq (es_pf 11 15 (er_v 0) (ei_c 0)) (es_seq (es_pf 11 16 (er_v 0) (ei_c 0)) (es_seq (es_pf 11 17 (er_v 0) (ei_c 0)) (es_seq (es_pz 11 18 (er_v 0) (ei_c 0)) (es_seq (es_seq (es_set 6 (ei_c 0)) (es_wh (ec_and (ec_2 ol_lt (ei_v 6) (ei_c 20)) (ec_not (ec_z ol_ne (ei_f 11 18 (er_v 0))))) (es_seq (es_of (ea_cv 11 fX11_goStretch (ea_r (er_v 0) (ea_i (ei_2 ol_add (ei_2 ol_add (ei_v 1) (ei_2 ol_mul (ei_c 39) (ei_v 6))) (ei_2 ol_div (ei_f 11 12 (er_v 0)) (ei_c 10))) (ea_i (ei_v 5) (ea_0)))))) (es_inc 6 1)))) (es_retv))))))))
def fX11_go : ol_FE := ol_fe 7 bX11_go
set_option maxRecDepth 20000 in
theorem imX11_go (x : ol_X) (K : ol_K) : IM_S x K mX11_go 0 0 bX11_go := rs_seq (p2 := 10) (rs_pf (rr_vn dX11_go_0 rfl) (ri_2 ol_op_add (ri_2 ol_op_mul (ri_bi dX11_go_1 (by unfold ol_inR; omega) (by decide)) (ri_vn dX11_go_3 rfl) dX11_go_4) (ri_ic dX11_go_5 (by unfold ol_inR; omega)) dX11_go_6) pfX11_144 rfl dX11_go_7) (rs_seq (p2 := 15) (rs_pf (rr_vn dX11_go_10 rfl) (ri_vn dX11_go_11 rfl) pfX11_125 rfl dX11_go_12) (rs_seq (p2 := 21) (rs_pf (rr_vn dX11_go_15 rfl) (ri_vi dX11_go_16) pfX11_128 rfl dX11_go_18) (rs_seq (p2 := 26) (rs_pf (rr_vn dX11_go_21 rfl) (ri_ic dX11_go_22 (by unfold ol_inR; omega)) pfX11_137 rfl dX11_go_23) (rs_seq (p2 := 31) (rs_pf (rr_vn dX11_go_26 rfl) (ri_ic dX11_go_27 (by unfold ol_inR; omega)) pfX11_131 rfl dX11_go_28) (rs_seq (p2 := 36) (rs_pf (rr_vn dX11_go_31 rfl) (ri_ic dX11_go_32 (by unfold ol_inR; omega)) pfX11_134 rfl dX11_go_33) (rs_seq (p2 := 41) (rs_pz (rr_vn dX11_go_36 rfl) (ri_ic dX11_go_37 (by unfold ol_inR; omega)) pfX11_147 rfl dX11_go_38) (rs_seq (p2 := 85) (rs_seq (p2 := 44) (rs_set (ri_ic dX11_go_41 (by unfold ol_inR; omega)) dX11_go_42 (ol_ltn rfl)) (rs_wh (pH := 44) (pB := 58) (pE := 85) (pG := 82) (rc_and (p2 := 51) (pT := 58) (pF := 85) (rc_2F (pF := 85) ol_j2_ge_F (ri_vi dX11_go_44) (ri_bi dX11_go_46 (by unfold ol_inR; omega) (by decide)) dX11_go_48 (by decide)) (rc_not (rc_zT (pT := 85) ol_j1_ne_T (ri_f (rr_vn dX11_go_51 rfl) gfX11_147 dX11_go_52) dX11_go_55 (by decide)))) (rs_seq (p2 := 79) (rs_k (rk_v (Mc := mX11_goStretch) (conX11_goStretch _ K) (ra_r (rr_vn dX11_go_58 rfl) (ra_i (ri_2 ol_op_add (ri_2 ol_op_add (ri_vn dX11_go_59 rfl) (ri_2 ol_op_mul (ri_bi dX11_go_60 (by unfold ol_inR; omega) (by decide)) (ri_vi dX11_go_62) dX11_go_64) dX11_go_65) (ri_2 ol_op_div (ri_f (rr_vn dX11_go_66 rfl) gfX11_144 dX11_go_67) (ri_bi dX11_go_70 (by unfold ol_inR; omega) (by decide)) dX11_go_72) dX11_go_73) (ra_i (ri_vi dX11_go_74) (ra_0)))) dX11_go_76 cwX11_150 tw_1073 tw_37 (by decide) rfl rfl ⟨rfl, rfl, Nat.le_of_ble_eq_true rfl⟩ (by decide) (by decide) (al_r (al_i (al_i al_0))))) (rs_inc dX11_go_79 (ol_ltn rfl))) dX11_go_82 (by decide))) (rs_retv rfl dX11_go_85))))))))
theorem conX11_go (l : Launch) (K : ol_K) : ol_Con l K yX11_go mX11_go fX11_go := ol_con (M := mX11_go) (by decide) rfl rfl (imX11_go · K)
theorem dX11_fall_0 : decode cX11_fall 0 = .ok (.iload_n 1, 1) := by decide +kernel
theorem dX11_fall_1 : decode cX11_fall 1 = .ok (.iconst 0, 1) := by decide +kernel
theorem dX11_fall_2 : decode cX11_fall 2 = .ok (.sipush 389, 3) := by decide +kernel
theorem dX11_fall_5 : decode cX11_fall 5 = .ok (.invokestatic 63, 3) := by decide +kernel
theorem dX11_fall_8 : decode cX11_fall 8 = .ok (.ifCond .eq 48, 3) := by decide +kernel
theorem dX11_fall_11 : decode cX11_fall 11 = .ok (.iload_n 2, 1) := by decide +kernel
theorem dX11_fall_12 : decode cX11_fall 12 = .ok (.bipush (-40), 2) := by decide +kernel
theorem dX11_fall_14 : decode cX11_fall 14 = .ok (.bipush 40, 2) := by decide +kernel
theorem dX11_fall_16 : decode cX11_fall 16 = .ok (.invokestatic 63, 3) := by decide +kernel
theorem dX11_fall_19 : decode cX11_fall 19 = .ok (.ifCond .eq 37, 3) := by decide +kernel
theorem dX11_fall_22 : decode cX11_fall 22 = .ok (.iload_n 3, 1) := by decide +kernel
theorem dX11_fall_23 : decode cX11_fall 23 = .ok (.iconst 5, 1) := by decide +kernel
theorem dX11_fall_24 : decode cX11_fall 24 = .ok (.bipush 16, 2) := by decide +kernel
theorem dX11_fall_26 : decode cX11_fall 26 = .ok (.invokestatic 63, 3) := by decide +kernel
theorem dX11_fall_29 : decode cX11_fall 29 = .ok (.ifCond .eq 27, 3) := by decide +kernel
theorem dX11_fall_32 : decode cX11_fall 32 = .ok (.iload 4, 2) := by decide +kernel
theorem dX11_fall_34 : decode cX11_fall 34 = .ok (.iconst 0, 1) := by decide +kernel
theorem dX11_fall_35 : decode cX11_fall 35 = .ok (.sipush 1023, 3) := by decide +kernel
theorem dX11_fall_38 : decode cX11_fall 38 = .ok (.invokestatic 63, 3) := by decide +kernel
theorem dX11_fall_41 : decode cX11_fall 41 = .ok (.ifCond .eq 15, 3) := by decide +kernel
theorem dX11_fall_44 : decode cX11_fall 44 = .ok (.aload_n 0, 1) := by decide +kernel
theorem dX11_fall_45 : decode cX11_fall 45 = .ok (.iload_n 1, 1) := by decide +kernel
theorem dX11_fall_46 : decode cX11_fall 46 = .ok (.iload_n 2, 1) := by decide +kernel
theorem dX11_fall_47 : decode cX11_fall 47 = .ok (.iload_n 3, 1) := by decide +kernel
theorem dX11_fall_48 : decode cX11_fall 48 = .ok (.iload 4, 2) := by decide +kernel
theorem dX11_fall_50 : decode cX11_fall 50 = .ok (.invokevirtual 166, 3) := by decide +kernel
theorem dX11_fall_53 : decode cX11_fall 53 = .ok (.goto 4, 3) := by decide +kernel
theorem dX11_fall_56 : decode cX11_fall 56 = .ok (.iconst (-1), 1) := by decide +kernel
theorem dX11_fall_57 : decode cX11_fall 57 = .ok (.ireturn, 1) := by decide +kernel
def bX11_fall : ol_SE := es_ret (ei_if (ec_and (ec_and (ec_and (ec_z ol_ne (ei_of (ea_cs fX11_in (ea_i (ei_v 1) (ea_i (ei_c 0) (ea_i (ei_c 389) (ea_0))))))) (ec_z ol_ne (ei_of (ea_cs fX11_in (ea_i (ei_v 2) (ea_i (ei_c (-40)) (ea_i (ei_c 40) (ea_0)))))))) (ec_z ol_ne (ei_of (ea_cs fX11_in (ea_i (ei_v 3) (ea_i (ei_c 5) (ea_i (ei_c 16) (ea_0)))))))) (ec_z ol_ne (ei_of (ea_cs fX11_in (ea_i (ei_v 4) (ea_i (ei_c 0) (ea_i (ei_c 1023) (ea_0)))))))) (ei_of (ea_cv 11 fX11_fallOf (ea_r (er_v 0) (ea_i (ei_v 1) (ea_i (ei_v 2) (ea_i (ei_v 3) (ea_i (ei_v 4) (ea_0)))))))) (ei_c (-1)))
def fX11_fall : ol_FE := ol_fe 5 bX11_fall
set_option maxRecDepth 20000 in
theorem imX11_fall (x : ol_X) (K : ol_K) : IM_S x K mX11_fall 0 0 bX11_fall := rs_ret (ri_if (pT := 44) (pF := 56) (p3 := 57) (rc_and (p2 := 32) (pT := 44) (pF := 56) (rc_and (p2 := 22) (pT := 32) (pF := 56) (rc_and (p2 := 11) (pT := 22) (pF := 56) (rc_zF (pF := 56) ol_j1_eq_F (ri_k (rk_s (Mc := mX11_in) (conX11_in _ K) (ra_i (ri_vn dX11_fall_0 rfl) (ra_i (ri_ic dX11_fall_1 (by unfold ol_inR; omega)) (ra_i (ri_si dX11_fall_2 (by unfold ol_inR; omega) (by decide)) (ra_0)))) dX11_fall_5 cwX11_63 tw_981 ⟨rfl, rfl, Nat.le_of_ble_eq_true rfl⟩ (by decide) (by decide) (al_i (al_i (al_i al_0)))) (Or.inr (Or.inl rfl))) dX11_fall_8 (by decide)) (rc_zF (pF := 56) ol_j1_eq_F (ri_k (rk_s (Mc := mX11_in) (conX11_in _ K) (ra_i (ri_vn dX11_fall_11 rfl) (ra_i (ri_bi dX11_fall_12 (by unfold ol_inR; omega) (by decide)) (ra_i (ri_bi dX11_fall_14 (by unfold ol_inR; omega) (by decide)) (ra_0)))) dX11_fall_16 cwX11_63 tw_981 ⟨rfl, rfl, Nat.le_of_ble_eq_true rfl⟩ (by decide) (by decide) (al_i (al_i (al_i al_0)))) (Or.inr (Or.inl rfl))) dX11_fall_19 (by decide))) (rc_zF (pF := 56) ol_j1_eq_F (ri_k (rk_s (Mc := mX11_in) (conX11_in _ K) (ra_i (ri_vn dX11_fall_22 rfl) (ra_i (ri_ic dX11_fall_23 (by unfold ol_inR; omega)) (ra_i (ri_bi dX11_fall_24 (by unfold ol_inR; omega) (by decide)) (ra_0)))) dX11_fall_26 cwX11_63 tw_981 ⟨rfl, rfl, Nat.le_of_ble_eq_true rfl⟩ (by decide) (by decide) (al_i (al_i (al_i al_0)))) (Or.inr (Or.inl rfl))) dX11_fall_29 (by decide))) (rc_zF (pF := 56) ol_j1_eq_F (ri_k (rk_s (Mc := mX11_in) (conX11_in _ K) (ra_i (ri_vi dX11_fall_32) (ra_i (ri_ic dX11_fall_34 (by unfold ol_inR; omega)) (ra_i (ri_si dX11_fall_35 (by unfold ol_inR; omega) (by decide)) (ra_0)))) dX11_fall_38 cwX11_63 tw_981 ⟨rfl, rfl, Nat.le_of_ble_eq_true rfl⟩ (by decide) (by decide) (al_i (al_i (al_i al_0)))) (Or.inr (Or.inl rfl))) dX11_fall_41 (by decide))) (ri_k (rk_v (Mc := mX11_fallOf) (conX11_fallOf _ K) (ra_r (rr_vn dX11_fall_44 rfl) (ra_i (ri_vn dX11_fall_45 rfl) (ra_i (ri_vn dX11_fall_46 rfl) (ra_i (ri_vn dX11_fall_47 rfl) (ra_i (ri_vi dX11_fall_48) (ra_0)))))) dX11_fall_50 cwX11_166 tw_1050 tw_33 (by decide) rfl rfl ⟨rfl, rfl, Nat.le_of_ble_eq_true rfl⟩ (by decide) (by decide) (al_r (al_i (al_i (al_i (al_i al_0)))))) (Or.inl rfl)) dX11_fall_53 (by decide) (ri_ic dX11_fall_56 (by unfold ol_inR; omega))) rfl dX11_fall_57
theorem conX11_fall (l : Launch) (K : ol_K) : ol_Con l K yX11_fall mX11_fall fX11_fall := ol_con (M := mX11_fall) (by decide) rfl rfl (imX11_fall · K)
theorem dX11_pinsOf_0 : decode cX11_pinsOf 0 = .ok (.aload_n 0, 1) := by decide +kernel
theorem dX11_pinsOf_1 : decode cX11_pinsOf 1 = .ok (.getfield 147, 3) := by decide +kernel
theorem dX11_pinsOf_4 : decode cX11_pinsOf 4 = .ok (.ifCond .eq 7, 3) := by decide +kernel
theorem dX11_pinsOf_7 : decode cX11_pinsOf 7 = .ok (.iconst 0, 1) := by decide +kernel
theorem dX11_pinsOf_8 : decode cX11_pinsOf 8 = .ok (.goto 22, 3) := by decide +kernel
theorem dX11_pinsOf_11 : decode cX11_pinsOf 11 = .ok (.aload_n 0, 1) := by decide +kernel
theorem dX11_pinsOf_12 : decode cX11_pinsOf 12 = .ok (.aload_n 0, 1) := by decide +kernel
theorem dX11_pinsOf_13 : decode cX11_pinsOf 13 = .ok (.getfield 144, 3) := by decide +kernel
theorem dX11_pinsOf_16 : decode cX11_pinsOf 16 = .ok (.aload_n 0, 1) := by decide +kernel
theorem dX11_pinsOf_17 : decode cX11_pinsOf 17 = .ok (.getfield 125, 3) := by decide +kernel
theorem dX11_pinsOf_20 : decode cX11_pinsOf 20 = .ok (.aload_n 0, 1) := by decide +kernel
theorem dX11_pinsOf_21 : decode cX11_pinsOf 21 = .ok (.getfield 20, 3) := by decide +kernel
theorem dX11_pinsOf_24 : decode cX11_pinsOf 24 = .ok (.iload_n 1, 1) := by decide +kernel
theorem dX11_pinsOf_25 : decode cX11_pinsOf 25 = .ok (.iaload, 1) := by decide +kernel
theorem dX11_pinsOf_26 : decode cX11_pinsOf 26 = .ok (.iload_n 2, 1) := by decide +kernel
theorem dX11_pinsOf_27 : decode cX11_pinsOf 27 = .ok (.invokevirtual 166, 3) := by decide +kernel
theorem dX11_pinsOf_30 : decode cX11_pinsOf 30 = .ok (.ireturn, 1) := by decide +kernel
def bX11_pinsOf : ol_SE := es_ret (ei_if (ec_z ol_ne (ei_f 11 18 (er_v 0))) (ei_c 0) (ei_of (ea_cv 11 fX11_fallOf (ea_r (er_v 0) (ea_i (ei_f 11 12 (er_v 0)) (ea_i (ei_f 11 13 (er_v 0)) (ea_i (ei_a 100 (er_f 11 11 (er_v 0)) (ei_v 1)) (ea_i (ei_v 2) (ea_0)))))))))
def fX11_pinsOf : ol_FE := ol_fe 3 bX11_pinsOf
set_option maxRecDepth 20000 in
theorem imX11_pinsOf (x : ol_X) (K : ol_K) : IM_S x K mX11_pinsOf 0 0 bX11_pinsOf := rs_ret (ri_if (pT := 7) (pF := 11) (p3 := 30) (rc_zF (pF := 11) ol_j1_eq_F (ri_f (rr_vn dX11_pinsOf_0 rfl) gfX11_147 dX11_pinsOf_1) dX11_pinsOf_4 (by decide)) (ri_ic dX11_pinsOf_7 (by unfold ol_inR; omega)) dX11_pinsOf_8 (by decide) (ri_k (rk_v (Mc := mX11_fallOf) (conX11_fallOf _ K) (ra_r (rr_vn dX11_pinsOf_11 rfl) (ra_i (ri_f (rr_vn dX11_pinsOf_12 rfl) gfX11_144 dX11_pinsOf_13) (ra_i (ri_f (rr_vn dX11_pinsOf_16 rfl) gfX11_125 dX11_pinsOf_17) (ra_i (ri_a (rr_f (rr_vn dX11_pinsOf_20 rfl) gfX11_20 dX11_pinsOf_21) (ri_vn dX11_pinsOf_24 rfl) rfl dX11_pinsOf_25) (ra_i (ri_vn dX11_pinsOf_26 rfl) (ra_0)))))) dX11_pinsOf_27 cwX11_166 tw_1050 tw_33 (by decide) rfl rfl ⟨rfl, rfl, Nat.le_of_ble_eq_true rfl⟩ (by decide) (by decide) (al_r (al_i (al_i (al_i (al_i al_0)))))) (Or.inl rfl))) rfl dX11_pinsOf_30
theorem conX11_pinsOf (l : Launch) (K : ol_K) : ol_Con l K yX11_pinsOf mX11_pinsOf fX11_pinsOf := ol_con (M := mX11_pinsOf) (by decide) rfl rfl (imX11_pinsOf · K)
theorem dX11_roll_0 : decode cX11_roll 0 = .ok (.aload_n 0, 1) := by decide +kernel
theorem dX11_roll_1 : decode cX11_roll 1 = .ok (.aload_n 0, 1) := by decide +kernel
theorem dX11_roll_2 : decode cX11_roll 2 = .ok (.getfield 203, 3) := by decide +kernel
theorem dX11_roll_5 : decode cX11_roll 5 = .ok (.invokevirtual 206, 3) := by decide +kernel
theorem dX11_roll_8 : decode cX11_roll 8 = .ok (.iload_n 1, 1) := by decide +kernel
theorem dX11_roll_9 : decode cX11_roll 9 = .ok (.iconst 0, 1) := by decide +kernel
theorem dX11_roll_10 : decode cX11_roll 10 = .ok (.bipush 10, 2) := by decide +kernel
theorem dX11_roll_12 : decode cX11_roll 12 = .ok (.invokestatic 63, 3) := by decide +kernel
theorem dX11_roll_15 : decode cX11_roll 15 = .ok (.ifCond .eq 20, 3) := by decide +kernel
theorem dX11_roll_18 : decode cX11_roll 18 = .ok (.aload_n 0, 1) := by decide +kernel
theorem dX11_roll_19 : decode cX11_roll 19 = .ok (.getfield 197, 3) := by decide +kernel
theorem dX11_roll_22 : decode cX11_roll 22 = .ok (.bipush (-9), 2) := by decide +kernel
theorem dX11_roll_24 : decode cX11_roll 24 = .ok (.if_icmp .eq 13, 3) := by decide +kernel
theorem dX11_roll_27 : decode cX11_roll 27 = .ok (.iload_n 1, 1) := by decide +kernel
theorem dX11_roll_28 : decode cX11_roll 28 = .ok (.aload_n 0, 1) := by decide +kernel
theorem dX11_roll_29 : decode cX11_roll 29 = .ok (.getfield 197, 3) := by decide +kernel
theorem dX11_roll_32 : decode cX11_roll 32 = .ok (.if_icmp .le 5, 3) := by decide +kernel
theorem dX11_roll_35 : decode cX11_roll 35 = .ok (.iconst (-1), 1) := by decide +kernel
theorem dX11_roll_36 : decode cX11_roll 36 = .ok (.ireturn, 1) := by decide +kernel
theorem dX11_roll_37 : decode cX11_roll 37 = .ok (.aload_n 0, 1) := by decide +kernel
theorem dX11_roll_38 : decode cX11_roll 38 = .ok (.getfield 197, 3) := by decide +kernel
theorem dX11_roll_41 : decode cX11_roll 41 = .ok (.bipush (-9), 2) := by decide +kernel
theorem dX11_roll_43 : decode cX11_roll 43 = .ok (.if_icmp .ne 6, 3) := by decide +kernel
theorem dX11_roll_46 : decode cX11_roll 46 = .ok (.bipush (-2), 2) := by decide +kernel
theorem dX11_roll_48 : decode cX11_roll 48 = .ok (.ireturn, 1) := by decide +kernel
theorem dX11_roll_49 : decode cX11_roll 49 = .ok (.aload_n 0, 1) := by decide +kernel
theorem dX11_roll_50 : decode cX11_roll 50 = .ok (.getfield 35, 3) := by decide +kernel
theorem dX11_roll_53 : decode cX11_roll 53 = .ok (.aload_n 0, 1) := by decide +kernel
theorem dX11_roll_54 : decode cX11_roll 54 = .ok (.getfield 203, 3) := by decide +kernel
theorem dX11_roll_57 : decode cX11_roll 57 = .ok (.iload_n 1, 1) := by decide +kernel
theorem dX11_roll_58 : decode cX11_roll 58 = .ok (.iastore, 1) := by decide +kernel
theorem dX11_roll_59 : decode cX11_roll 59 = .ok (.aload_n 0, 1) := by decide +kernel
theorem dX11_roll_60 : decode cX11_roll 60 = .ok (.dup, 1) := by decide +kernel
theorem dX11_roll_61 : decode cX11_roll 61 = .ok (.getfield 203, 3) := by decide +kernel
theorem dX11_roll_64 : decode cX11_roll 64 = .ok (.iconst 1, 1) := by decide +kernel
theorem dX11_roll_65 : decode cX11_roll 65 = .ok (.iadd, 1) := by decide +kernel
theorem dX11_roll_66 : decode cX11_roll 66 = .ok (.putfield 203, 3) := by decide +kernel
theorem dX11_roll_69 : decode cX11_roll 69 = .ok (.aload_n 0, 1) := by decide +kernel
theorem dX11_roll_70 : decode cX11_roll 70 = .ok (.getfield 203, 3) := by decide +kernel
theorem dX11_roll_73 : decode cX11_roll 73 = .ok (.ireturn, 1) := by decide +kernel
def bX11_roll : ol_SE := es_seq (es_of (ea_cv 11 fX11_countRolls (ea_r (er_v 0) (ea_i (ei_f 11 28 (er_v 0)) (ea_0))))) (es_seq (es_if (ec_or (ec_not (ec_z ol_ne (ei_of (ea_cs fX11_in (ea_i (ei_v 1) (ea_i (ei_c 0) (ea_i (ei_c 10) (ea_0)))))))) (ec_and (ec_2 ol_ne (ei_f 11 31 (er_v 0)) (ei_c (-9))) (ec_2 ol_gt (ei_v 1) (ei_f 11 31 (er_v 0))))) (es_ret (ei_c (-1))) es_skip) (es_seq (es_if (ec_2 ol_eq (ei_f 11 31 (er_v 0)) (ei_c (-9))) (es_ret (ei_c (-2))) es_skip) (es_seq (es_as 100 (er_f 11 27 (er_v 0)) (ei_f 11 28 (er_v 0)) (ei_v 1)) (es_seq (es_uf 11 28 (er_v 0) ol_add (ei_c 1)) (es_ret (ei_f 11 28 (er_v 0)))))))
def fX11_roll : ol_FE := ol_fe 2 bX11_roll
set_option maxRecDepth 20000 in
theorem imX11_roll (x : ol_X) (K : ol_K) : IM_S x K mX11_roll 0 0 bX11_roll := rs_seq (p2 := 8) (rs_k (rk_v (Mc := mX11_countRolls) (conX11_countRolls _ K) (ra_r (rr_vn dX11_roll_0 rfl) (ra_i (ri_f (rr_vn dX11_roll_1 rfl) gfX11_203 dX11_roll_2) (ra_0))) dX11_roll_5 cwX11_206 tw_1101 tw_40 (by decide) rfl rfl ⟨rfl, rfl, Nat.le_of_ble_eq_true rfl⟩ (by decide) (by decide) (al_r (al_i al_0)))) (rs_seq (p2 := 37) (rs_if (pT := 35) (pF := 37) (pE := 37) (rc_or (p2 := 18) (pT := 35) (pF := 37) (rc_not (rc_zF (pF := 35) ol_j1_eq_F (ri_k (rk_s (Mc := mX11_in) (conX11_in _ K) (ra_i (ri_vn dX11_roll_8 rfl) (ra_i (ri_ic dX11_roll_9 (by unfold ol_inR; omega)) (ra_i (ri_bi dX11_roll_10 (by unfold ol_inR; omega) (by decide)) (ra_0)))) dX11_roll_12 cwX11_63 tw_981 ⟨rfl, rfl, Nat.le_of_ble_eq_true rfl⟩ (by decide) (by decide) (al_i (al_i (al_i al_0)))) (Or.inr (Or.inl rfl))) dX11_roll_15 (by decide))) (rc_and (p2 := 27) (pT := 35) (pF := 37) (rc_2F (pF := 37) ol_j2_eq_F (ri_f (rr_vn dX11_roll_18 rfl) gfX11_197 dX11_roll_19) (ri_bi dX11_roll_22 (by unfold ol_inR; omega) (by decide)) dX11_roll_24 (by decide)) (rc_2F (pF := 37) ol_j2_le_F (ri_vn dX11_roll_27 rfl) (ri_f (rr_vn dX11_roll_28 rfl) gfX11_197 dX11_roll_29) dX11_roll_32 (by decide)))) (rs_ret (ri_ic dX11_roll_35 (by unfold ol_inR; omega)) rfl dX11_roll_36) rs_skip) (rs_seq (p2 := 49) (rs_if (pT := 46) (pF := 49) (pE := 49) (rc_2F (pF := 49) ol_j2_ne_F (ri_f (rr_vn dX11_roll_37 rfl) gfX11_197 dX11_roll_38) (ri_bi dX11_roll_41 (by unfold ol_inR; omega) (by decide)) dX11_roll_43 (by decide)) (rs_ret (ri_bi dX11_roll_46 (by unfold ol_inR; omega) (by decide)) rfl dX11_roll_48) rs_skip) (rs_seq (p2 := 59) (rs_as (rr_f (rr_vn dX11_roll_49 rfl) gfX11_35 dX11_roll_50) (ri_f (rr_vn dX11_roll_53 rfl) gfX11_203 dX11_roll_54) (ri_vn dX11_roll_57 rfl) dX11_roll_58) (rs_seq (p2 := 69) (rs_uf ol_op_add (rr_vn dX11_roll_59 rfl) dX11_roll_60 dX11_roll_61 (ri_ic dX11_roll_64 (by unfold ol_inR; omega)) dX11_roll_65 gfX11_203 pfX11_203 rfl dX11_roll_66) (rs_ret (ri_f (rr_vn dX11_roll_69 rfl) gfX11_203 dX11_roll_70) rfl dX11_roll_73)))))
theorem conX11_roll (l : Launch) (K : ol_K) : ol_Con l K yX11_roll mX11_roll fX11_roll := ol_con (M := mX11_roll) (by decide) rfl rfl (imX11_roll · K)
theorem dX11_game_0 : decode cX11_game 0 = .ok (.iload_n 1, 1) := by decide +kernel
theorem dX11_game_1 : decode cX11_game 1 = .ok (.iconst 0, 1) := by decide +kernel
theorem dX11_game_2 : decode cX11_game 2 = .ok (.iconst 4, 1) := by decide +kernel
theorem dX11_game_3 : decode cX11_game 3 = .ok (.invokestatic 63, 3) := by decide +kernel
theorem dX11_game_6 : decode cX11_game 6 = .ok (.ifCond .ne 5, 3) := by decide +kernel
theorem dX11_game_9 : decode cX11_game 9 = .ok (.iconst (-1), 1) := by decide +kernel
theorem dX11_game_10 : decode cX11_game 10 = .ok (.ireturn, 1) := by decide +kernel
theorem dX11_game_11 : decode cX11_game 11 = .ok (.aload_n 0, 1) := by decide +kernel
theorem dX11_game_12 : decode cX11_game 12 = .ok (.aload_n 0, 1) := by decide +kernel
theorem dX11_game_13 : decode cX11_game 13 = .ok (.getfield 203, 3) := by decide +kernel
theorem dX11_game_16 : decode cX11_game 16 = .ok (.invokevirtual 206, 3) := by decide +kernel
theorem dX11_game_19 : decode cX11_game 19 = .ok (.iload_n 1, 1) := by decide +kernel
theorem dX11_game_20 : decode cX11_game 20 = .ok (.ifCond .ne 8, 3) := by decide +kernel
theorem dX11_game_23 : decode cX11_game 23 = .ok (.aload_n 0, 1) := by decide +kernel
theorem dX11_game_24 : decode cX11_game 24 = .ok (.getfield 203, 3) := by decide +kernel
theorem dX11_game_27 : decode cX11_game 27 = .ok (.ireturn, 1) := by decide +kernel
theorem dX11_game_28 : decode cX11_game 28 = .ok (.iload_n 1, 1) := by decide +kernel
theorem dX11_game_29 : decode cX11_game 29 = .ok (.iconst 3, 1) := by decide +kernel
theorem dX11_game_30 : decode cX11_game 30 = .ok (.if_icmp .eq 42, 3) := by decide +kernel
theorem dX11_game_33 : decode cX11_game 33 = .ok (.iload_n 1, 1) := by decide +kernel
theorem dX11_game_34 : decode cX11_game 34 = .ok (.iconst 1, 1) := by decide +kernel
theorem dX11_game_35 : decode cX11_game 35 = .ok (.if_icmp .ne 10, 3) := by decide +kernel
theorem dX11_game_38 : decode cX11_game 38 = .ok (.aload_n 0, 1) := by decide +kernel
theorem dX11_game_39 : decode cX11_game 39 = .ok (.getfield 194, 3) := by decide +kernel
theorem dX11_game_42 : decode cX11_game 42 = .ok (.goto 29, 3) := by decide +kernel
theorem dX11_game_45 : decode cX11_game 45 = .ok (.iload_n 1, 1) := by decide +kernel
theorem dX11_game_46 : decode cX11_game 46 = .ok (.iconst 2, 1) := by decide +kernel
theorem dX11_game_47 : decode cX11_game 47 = .ok (.if_icmp .ne 10, 3) := by decide +kernel
theorem dX11_game_50 : decode cX11_game 50 = .ok (.aload_n 0, 1) := by decide +kernel
theorem dX11_game_51 : decode cX11_game 51 = .ok (.getfield 191, 3) := by decide +kernel
theorem dX11_game_54 : decode cX11_game 54 = .ok (.goto 17, 3) := by decide +kernel
theorem dX11_game_57 : decode cX11_game 57 = .ok (.aload_n 0, 1) := by decide +kernel
theorem dX11_game_58 : decode cX11_game 58 = .ok (.getfield 197, 3) := by decide +kernel
theorem dX11_game_61 : decode cX11_game 61 = .ok (.bipush (-9), 2) := by decide +kernel
theorem dX11_game_63 : decode cX11_game 63 = .ok (.if_icmp .ne 7, 3) := by decide +kernel
theorem dX11_game_66 : decode cX11_game 66 = .ok (.iconst 1, 1) := by decide +kernel
theorem dX11_game_67 : decode cX11_game 67 = .ok (.goto 4, 3) := by decide +kernel
theorem dX11_game_70 : decode cX11_game 70 = .ok (.iconst 0, 1) := by decide +kernel
theorem dX11_game_71 : decode cX11_game 71 = .ok (.ireturn, 1) := by decide +kernel
theorem dX11_game_72 : decode cX11_game 72 = .ok (.aload_n 0, 1) := by decide +kernel
theorem dX11_game_73 : decode cX11_game 73 = .ok (.getfield 203, 3) := by decide +kernel
theorem dX11_game_76 : decode cX11_game 76 = .ok (.istore_n 2, 1) := by decide +kernel
theorem dX11_game_77 : decode cX11_game 77 = .ok (.aload_n 0, 1) := by decide +kernel
theorem dX11_game_78 : decode cX11_game 78 = .ok (.getfield 197, 3) := by decide +kernel
theorem dX11_game_81 : decode cX11_game 81 = .ok (.bipush (-9), 2) := by decide +kernel
theorem dX11_game_83 : decode cX11_game 83 = .ok (.if_icmp .eq 24, 3) := by decide +kernel
theorem dX11_game_86 : decode cX11_game 86 = .ok (.aload_n 0, 1) := by decide +kernel
theorem dX11_game_87 : decode cX11_game 87 = .ok (.getfield 35, 3) := by decide +kernel
theorem dX11_game_90 : decode cX11_game 90 = .ok (.iload_n 2, 1) := by decide +kernel
theorem dX11_game_91 : decode cX11_game 91 = .ok (.aload_n 0, 1) := by decide +kernel
theorem dX11_game_92 : decode cX11_game 92 = .ok (.getfield 197, 3) := by decide +kernel
theorem dX11_game_95 : decode cX11_game 95 = .ok (.iastore, 1) := by decide +kernel
theorem dX11_game_96 : decode cX11_game 96 = .ok (.iinc 2 1, 3) := by decide +kernel
theorem dX11_game_99 : decode cX11_game 99 = .ok (.aload_n 0, 1) := by decide +kernel
theorem dX11_game_100 : decode cX11_game 100 = .ok (.iload_n 2, 1) := by decide +kernel
theorem dX11_game_101 : decode cX11_game 101 = .ok (.invokevirtual 206, 3) := by decide +kernel
theorem dX11_game_104 : decode cX11_game 104 = .ok (.goto (-27), 3) := by decide +kernel
theorem dX11_game_107 : decode cX11_game 107 = .ok (.aload_n 0, 1) := by decide +kernel
theorem dX11_game_108 : decode cX11_game 108 = .ok (.getfield 194, 3) := by decide +kernel
theorem dX11_game_111 : decode cX11_game 111 = .ok (.ireturn, 1) := by decide +kernel
def bX11_game : ol_SE := es_seq (es_if (ec_not (ec_z ol_ne (ei_of (ea_cs fX11_in (ea_i (ei_v 1) (ea_i (ei_c 0) (ea_i (ei_c 4) (ea_0)))))))) (es_ret (ei_c (-1))) es_skip) (es_seq (es_of (ea_cv 11 fX11_countRolls (ea_r (er_v 0) (ea_i (ei_f 11 28 (er_v 0)) (ea_0))))) (es_seq (es_if (ec_z ol_eq (ei_v 1)) (es_ret (ei_f 11 28 (er_v 0))) es_skip) (es_seq (es_if (ec_2 ol_ne (ei_v 1) (ei_c 3)) (es_ret (ei_if (ec_2 ol_eq (ei_v 1) (ei_c 1)) (ei_f 11 30 (er_v 0)) (ei_if (ec_2 ol_eq (ei_v 1) (ei_c 2)) (ei_f 11 29 (er_v 0)) (ei_if (ec_2 ol_eq (ei_f 11 31 (er_v 0)) (ei_c (-9))) (ei_c 1) (ei_c 0))))) es_skip) (es_seq (es_set 2 (ei_f 11 28 (er_v 0))) (es_seq (es_wh (ec_2 ol_ne (ei_f 11 31 (er_v 0)) (ei_c (-9))) (es_seq (es_as 100 (er_f 11 27 (er_v 0)) (ei_v 2) (ei_f 11 31 (er_v 0))) (es_seq (es_inc 2 1) (es_of (ea_cv 11 fX11_countRolls (ea_r (er_v 0) (ea_i (ei_v 2) (ea_0)))))))) (es_ret (ei_f 11 30 (er_v 0))))))))
def fX11_game : ol_FE := ol_fe 3 bX11_game
set_option maxRecDepth 20000 in
theorem imX11_game (x : ol_X) (K : ol_K) : IM_S x K mX11_game 0 0 bX11_game := rs_seq (p2 := 11) (rs_if (pT := 9) (pF := 11) (pE := 11) (rc_not (rc_zT (pT := 11) ol_j1_ne_T (ri_k (rk_s (Mc := mX11_in) (conX11_in _ K) (ra_i (ri_vn dX11_game_0 rfl) (ra_i (ri_ic dX11_game_1 (by unfold ol_inR; omega)) (ra_i (ri_ic dX11_game_2 (by unfold ol_inR; omega)) (ra_0)))) dX11_game_3 cwX11_63 tw_981 ⟨rfl, rfl, Nat.le_of_ble_eq_true rfl⟩ (by decide) (by decide) (al_i (al_i (al_i al_0)))) (Or.inr (Or.inl rfl))) dX11_game_6 (by decide))) (rs_ret (ri_ic dX11_game_9 (by unfold ol_inR; omega)) rfl dX11_game_10) rs_skip) (rs_seq (p2 := 19) (rs_k (rk_v (Mc := mX11_countRolls) (conX11_countRolls _ K) (ra_r (rr_vn dX11_game_11 rfl) (ra_i (ri_f (rr_vn dX11_game_12 rfl) gfX11_203 dX11_game_13) (ra_0))) dX11_game_16 cwX11_206 tw_1101 tw_40 (by decide) rfl rfl ⟨rfl, rfl, Nat.le_of_ble_eq_true rfl⟩ (by decide) (by decide) (al_r (al_i al_0)))) (rs_seq (p2 := 28) (rs_if (pT := 23) (pF := 28) (pE := 28) (rc_zF (pF := 28) ol_j1_ne_F (ri_vn dX11_game_19 rfl) dX11_game_20 (by decide)) (rs_ret (ri_f (rr_vn dX11_game_23 rfl) gfX11_203 dX11_game_24) rfl dX11_game_27) rs_skip) (rs_seq (p2 := 72) (rs_if (pT := 33) (pF := 72) (pE := 72) (rc_2F (pF := 72) ol_j2_eq_F (ri_vn dX11_game_28 rfl) (ri_ic dX11_game_29 (by unfold ol_inR; omega)) dX11_game_30 (by decide)) (rs_ret (ri_if (pT := 38) (pF := 45) (p3 := 71) (rc_2F (pF := 45) ol_j2_ne_F (ri_vn dX11_game_33 rfl) (ri_ic dX11_game_34 (by unfold ol_inR; omega)) dX11_game_35 (by decide)) (ri_f (rr_vn dX11_game_38 rfl) gfX11_194 dX11_game_39) dX11_game_42 (by decide) (ri_if (pT := 50) (pF := 57) (p3 := 71) (rc_2F (pF := 57) ol_j2_ne_F (ri_vn dX11_game_45 rfl) (ri_ic dX11_game_46 (by unfold ol_inR; omega)) dX11_game_47 (by decide)) (ri_f (rr_vn dX11_game_50 rfl) gfX11_191 dX11_game_51) dX11_game_54 (by decide) (ri_if (pT := 66) (pF := 70) (p3 := 71) (rc_2F (pF := 70) ol_j2_ne_F (ri_f (rr_vn dX11_game_57 rfl) gfX11_197 dX11_game_58) (ri_bi dX11_game_61 (by unfold ol_inR; omega) (by decide)) dX11_game_63 (by decide)) (ri_ic dX11_game_66 (by unfold ol_inR; omega)) dX11_game_67 (by decide) (ri_ic dX11_game_70 (by unfold ol_inR; omega))))) rfl dX11_game_71) rs_skip) (rs_seq (p2 := 77) (rs_setn (ri_f (rr_vn dX11_game_72 rfl) gfX11_203 dX11_game_73) dX11_game_76 rfl (ol_ltn rfl)) (rs_seq (p2 := 107) (rs_wh (pH := 77) (pB := 86) (pE := 107) (pG := 104) (rc_2F (pF := 107) ol_j2_eq_F (ri_f (rr_vn dX11_game_77 rfl) gfX11_197 dX11_game_78) (ri_bi dX11_game_81 (by unfold ol_inR; omega) (by decide)) dX11_game_83 (by decide)) (rs_seq (p2 := 96) (rs_as (rr_f (rr_vn dX11_game_86 rfl) gfX11_35 dX11_game_87) (ri_vn dX11_game_90 rfl) (ri_f (rr_vn dX11_game_91 rfl) gfX11_197 dX11_game_92) dX11_game_95) (rs_seq (p2 := 99) (rs_inc dX11_game_96 (ol_ltn rfl)) (rs_k (rk_v (Mc := mX11_countRolls) (conX11_countRolls _ K) (ra_r (rr_vn dX11_game_99 rfl) (ra_i (ri_vn dX11_game_100 rfl) (ra_0))) dX11_game_101 cwX11_206 tw_1101 tw_40 (by decide) rfl rfl ⟨rfl, rfl, Nat.le_of_ble_eq_true rfl⟩ (by decide) (by decide) (al_r (al_i al_0)))))) dX11_game_104 (by decide)) (rs_ret (ri_f (rr_vn dX11_game_107 rfl) gfX11_194 dX11_game_108) rfl dX11_game_111))))))
theorem conX11_game (l : Launch) (K : ol_K) : ol_Con l K yX11_game mX11_game fX11_game := ol_con (M := mX11_game) (by decide) rfl rfl (imX11_game · K)
theorem dX11_scatter_0 : decode cX11_scatter 0 = .ok (.iload_n 1, 1) := by decide +kernel
theorem dX11_scatter_1 : decode cX11_scatter 1 = .ok (.invokestatic 209, 3) := by decide +kernel
theorem dX11_scatter_4 : decode cX11_scatter 4 = .ok (.ifCond .eq 40, 3) := by decide +kernel
theorem dX11_scatter_7 : decode cX11_scatter 7 = .ok (.iload_n 2, 1) := by decide +kernel
theorem dX11_scatter_8 : decode cX11_scatter 8 = .ok (.iconst 0, 1) := by decide +kernel
theorem dX11_scatter_9 : decode cX11_scatter 9 = .ok (.iconst 4, 1) := by decide +kernel
theorem dX11_scatter_10 : decode cX11_scatter 10 = .ok (.invokestatic 63, 3) := by decide +kernel
theorem dX11_scatter_13 : decode cX11_scatter 13 = .ok (.ifCond .eq 31, 3) := by decide +kernel
theorem dX11_scatter_16 : decode cX11_scatter 16 = .ok (.iload_n 3, 1) := by decide +kernel
theorem dX11_scatter_17 : decode cX11_scatter 17 = .ok (.iconst 0, 1) := by decide +kernel
theorem dX11_scatter_18 : decode cX11_scatter 18 = .ok (.iconst 4, 1) := by decide +kernel
theorem dX11_scatter_19 : decode cX11_scatter 19 = .ok (.invokestatic 63, 3) := by decide +kernel
theorem dX11_scatter_22 : decode cX11_scatter 22 = .ok (.ifCond .eq 22, 3) := by decide +kernel
theorem dX11_scatter_25 : decode cX11_scatter 25 = .ok (.iload 4, 2) := by decide +kernel
theorem dX11_scatter_27 : decode cX11_scatter 27 = .ok (.iconst 0, 1) := by decide +kernel
theorem dX11_scatter_28 : decode cX11_scatter 28 = .ok (.aload_n 0, 1) := by decide +kernel
theorem dX11_scatter_29 : decode cX11_scatter 29 = .ok (.getfield 38, 3) := by decide +kernel
theorem dX11_scatter_32 : decode cX11_scatter 32 = .ok (.iconst 5, 1) := by decide +kernel
theorem dX11_scatter_33 : decode cX11_scatter 33 = .ok (.iload_n 1, 1) := by decide +kernel
theorem dX11_scatter_34 : decode cX11_scatter 34 = .ok (.imul, 1) := by decide +kernel
theorem dX11_scatter_35 : decode cX11_scatter 35 = .ok (.iload_n 2, 1) := by decide +kernel
theorem dX11_scatter_36 : decode cX11_scatter 36 = .ok (.iadd, 1) := by decide +kernel
theorem dX11_scatter_37 : decode cX11_scatter 37 = .ok (.iaload, 1) := by decide +kernel
theorem dX11_scatter_38 : decode cX11_scatter 38 = .ok (.invokestatic 63, 3) := by decide +kernel
theorem dX11_scatter_41 : decode cX11_scatter 41 = .ok (.ifCond .ne 5, 3) := by decide +kernel
theorem dX11_scatter_44 : decode cX11_scatter 44 = .ok (.iconst (-1), 1) := by decide +kernel
theorem dX11_scatter_45 : decode cX11_scatter 45 = .ok (.ireturn, 1) := by decide +kernel
theorem dX11_scatter_46 : decode cX11_scatter 46 = .ok (.aload_n 0, 1) := by decide +kernel
theorem dX11_scatter_47 : decode cX11_scatter 47 = .ok (.getfield 38, 3) := by decide +kernel
theorem dX11_scatter_50 : decode cX11_scatter 50 = .ok (.iconst 5, 1) := by decide +kernel
theorem dX11_scatter_51 : decode cX11_scatter 51 = .ok (.iload_n 1, 1) := by decide +kernel
theorem dX11_scatter_52 : decode cX11_scatter 52 = .ok (.imul, 1) := by decide +kernel
theorem dX11_scatter_53 : decode cX11_scatter 53 = .ok (.iload_n 2, 1) := by decide +kernel
theorem dX11_scatter_54 : decode cX11_scatter 54 = .ok (.iadd, 1) := by decide +kernel
theorem dX11_scatter_55 : decode cX11_scatter 55 = .ok (.dup2, 1) := by decide +kernel
theorem dX11_scatter_56 : decode cX11_scatter 56 = .ok (.iaload, 1) := by decide +kernel
theorem dX11_scatter_57 : decode cX11_scatter 57 = .ok (.iload 4, 2) := by decide +kernel
theorem dX11_scatter_59 : decode cX11_scatter 59 = .ok (.isub, 1) := by decide +kernel
theorem dX11_scatter_60 : decode cX11_scatter 60 = .ok (.iastore, 1) := by decide +kernel
theorem dX11_scatter_61 : decode cX11_scatter 61 = .ok (.aload_n 0, 1) := by decide +kernel
theorem dX11_scatter_62 : decode cX11_scatter 62 = .ok (.getfield 38, 3) := by decide +kernel
theorem dX11_scatter_65 : decode cX11_scatter 65 = .ok (.iconst 5, 1) := by decide +kernel
theorem dX11_scatter_66 : decode cX11_scatter 66 = .ok (.iload_n 1, 1) := by decide +kernel
theorem dX11_scatter_67 : decode cX11_scatter 67 = .ok (.imul, 1) := by decide +kernel
theorem dX11_scatter_68 : decode cX11_scatter 68 = .ok (.iload_n 3, 1) := by decide +kernel
theorem dX11_scatter_69 : decode cX11_scatter 69 = .ok (.iadd, 1) := by decide +kernel
theorem dX11_scatter_70 : decode cX11_scatter 70 = .ok (.dup2, 1) := by decide +kernel
theorem dX11_scatter_71 : decode cX11_scatter 71 = .ok (.iaload, 1) := by decide +kernel
theorem dX11_scatter_72 : decode cX11_scatter 72 = .ok (.iload 4, 2) := by decide +kernel
theorem dX11_scatter_74 : decode cX11_scatter 74 = .ok (.iadd, 1) := by decide +kernel
theorem dX11_scatter_75 : decode cX11_scatter 75 = .ok (.iastore, 1) := by decide +kernel
theorem dX11_scatter_76 : decode cX11_scatter 76 = .ok (.aload_n 0, 1) := by decide +kernel
theorem dX11_scatter_77 : decode cX11_scatter 77 = .ok (.getfield 38, 3) := by decide +kernel
theorem dX11_scatter_80 : decode cX11_scatter 80 = .ok (.iconst 5, 1) := by decide +kernel
theorem dX11_scatter_81 : decode cX11_scatter 81 = .ok (.iload_n 1, 1) := by decide +kernel
theorem dX11_scatter_82 : decode cX11_scatter 82 = .ok (.imul, 1) := by decide +kernel
theorem dX11_scatter_83 : decode cX11_scatter 83 = .ok (.iload_n 3, 1) := by decide +kernel
theorem dX11_scatter_84 : decode cX11_scatter 84 = .ok (.iadd, 1) := by decide +kernel
theorem dX11_scatter_85 : decode cX11_scatter 85 = .ok (.iaload, 1) := by decide +kernel
theorem dX11_scatter_86 : decode cX11_scatter 86 = .ok (.ireturn, 1) := by decide +kernel
def bX11_scatter : ol_SE := es_seq (es_if (ec_or (ec_or (ec_or (ec_not (ec_z ol_ne (ei_of (ea_cs fX11_isHand (ea_i (ei_v 1) (ea_0)))))) (ec_not (ec_z ol_ne (ei_of (ea_cs fX11_in (ea_i (ei_v 2) (ea_i (ei_c 0) (ea_i (ei_c 4) (ea_0))))))))) (ec_not (ec_z ol_ne (ei_of (ea_cs fX11_in (ea_i (ei_v 3) (ea_i (ei_c 0) (ea_i (ei_c 4) (ea_0))))))))) (ec_not (ec_z ol_ne (ei_of (ea_cs fX11_in (ea_i (ei_v 4) (ea_i (ei_c 0) (ea_i (ei_a 100 (er_f 11 32 (er_v 0)) (ei_2 ol_add (ei_2 ol_mul (ei_c 5) (ei_v 1)) (ei_v 2))) (ea_0))))))))) (es_ret (ei_c (-1))) es_skip) (es_seq (es_ua 100 (er_f 11 32 (er_v 0)) (ei_2 ol_add (ei_2 ol_mul (ei_c 5) (ei_v 1)) (ei_v 2)) ol_sub (ei_v 4)) (es_seq (es_ua 100 (er_f 11 32 (er_v 0)) (ei_2 ol_add (ei_2 ol_mul (ei_c 5) (ei_v 1)) (ei_v 3)) ol_add (ei_v 4)) (es_ret (ei_a 100 (er_f 11 32 (er_v 0)) (ei_2 ol_add (ei_2 ol_mul (ei_c 5) (ei_v 1)) (ei_v 3))))))
def fX11_scatter : ol_FE := ol_fe 5 bX11_scatter
set_option maxRecDepth 20000 in
theorem imX11_scatter (x : ol_X) (K : ol_K) : IM_S x K mX11_scatter 0 0 bX11_scatter := rs_seq (p2 := 46) (rs_if (pT := 44) (pF := 46) (pE := 46) (rc_or (p2 := 25) (pT := 44) (pF := 46) (rc_or (p2 := 16) (pT := 44) (pF := 25) (rc_or (p2 := 7) (pT := 44) (pF := 16) (rc_not (rc_zF (pF := 44) ol_j1_eq_F (ri_k (rk_s (Mc := mX11_isHand) (conX11_isHand _ K) (ra_i (ri_vn dX11_scatter_0 rfl) (ra_0)) dX11_scatter_1 cwX11_209 tw_1120 ⟨rfl, rfl, Nat.le_of_ble_eq_true rfl⟩ (by decide) (by decide) (al_i al_0)) (Or.inr (Or.inl rfl))) dX11_scatter_4 (by decide))) (rc_not (rc_zF (pF := 44) ol_j1_eq_F (ri_k (rk_s (Mc := mX11_in) (conX11_in _ K) (ra_i (ri_vn dX11_scatter_7 rfl) (ra_i (ri_ic dX11_scatter_8 (by unfold ol_inR; omega)) (ra_i (ri_ic dX11_scatter_9 (by unfold ol_inR; omega)) (ra_0)))) dX11_scatter_10 cwX11_63 tw_981 ⟨rfl, rfl, Nat.le_of_ble_eq_true rfl⟩ (by decide) (by decide) (al_i (al_i (al_i al_0)))) (Or.inr (Or.inl rfl))) dX11_scatter_13 (by decide)))) (rc_not (rc_zF (pF := 44) ol_j1_eq_F (ri_k (rk_s (Mc := mX11_in) (conX11_in _ K) (ra_i (ri_vn dX11_scatter_16 rfl) (ra_i (ri_ic dX11_scatter_17 (by unfold ol_inR; omega)) (ra_i (ri_ic dX11_scatter_18 (by unfold ol_inR; omega)) (ra_0)))) dX11_scatter_19 cwX11_63 tw_981 ⟨rfl, rfl, Nat.le_of_ble_eq_true rfl⟩ (by decide) (by decide) (al_i (al_i (al_i al_0)))) (Or.inr (Or.inl rfl))) dX11_scatter_22 (by decide)))) (rc_not (rc_zT (pT := 46) ol_j1_ne_T (ri_k (rk_s (Mc := mX11_in) (conX11_in _ K) (ra_i (ri_vi dX11_scatter_25) (ra_i (ri_ic dX11_scatter_27 (by unfold ol_inR; omega)) (ra_i (ri_a (rr_f (rr_vn dX11_scatter_28 rfl) gfX11_38 dX11_scatter_29) (ri_2 ol_op_add (ri_2 ol_op_mul (ri_ic dX11_scatter_32 (by unfold ol_inR; omega)) (ri_vn dX11_scatter_33 rfl) dX11_scatter_34) (ri_vn dX11_scatter_35 rfl) dX11_scatter_36) rfl dX11_scatter_37) (ra_0)))) dX11_scatter_38 cwX11_63 tw_981 ⟨rfl, rfl, Nat.le_of_ble_eq_true rfl⟩ (by decide) (by decide) (al_i (al_i (al_i al_0)))) (Or.inr (Or.inl rfl))) dX11_scatter_41 (by decide)))) (rs_ret (ri_ic dX11_scatter_44 (by unfold ol_inR; omega)) rfl dX11_scatter_45) rs_skip) (rs_seq (p2 := 61) (rs_ua ol_op_sub (rr_f (rr_vn dX11_scatter_46 rfl) gfX11_38 dX11_scatter_47) (ri_2 ol_op_add (ri_2 ol_op_mul (ri_ic dX11_scatter_50 (by unfold ol_inR; omega)) (ri_vn dX11_scatter_51 rfl) dX11_scatter_52) (ri_vn dX11_scatter_53 rfl) dX11_scatter_54) dX11_scatter_55 dX11_scatter_56 (ri_vi dX11_scatter_57) dX11_scatter_59 dX11_scatter_60) (rs_seq (p2 := 76) (rs_ua ol_op_add (rr_f (rr_vn dX11_scatter_61 rfl) gfX11_38 dX11_scatter_62) (ri_2 ol_op_add (ri_2 ol_op_mul (ri_ic dX11_scatter_65 (by unfold ol_inR; omega)) (ri_vn dX11_scatter_66 rfl) dX11_scatter_67) (ri_vn dX11_scatter_68 rfl) dX11_scatter_69) dX11_scatter_70 dX11_scatter_71 (ri_vi dX11_scatter_72) dX11_scatter_74 dX11_scatter_75) (rs_ret (ri_a (rr_f (rr_vn dX11_scatter_76 rfl) gfX11_38 dX11_scatter_77) (ri_2 ol_op_add (ri_2 ol_op_mul (ri_ic dX11_scatter_80 (by unfold ol_inR; omega)) (ri_vn dX11_scatter_81 rfl) dX11_scatter_82) (ri_vn dX11_scatter_83 rfl) dX11_scatter_84) rfl dX11_scatter_85) rfl dX11_scatter_86)))
theorem conX11_scatter (l : Launch) (K : ol_K) : ol_Con l K yX11_scatter mX11_scatter fX11_scatter := ol_con (M := mX11_scatter) (by decide) rfl rfl (imX11_scatter · K)
