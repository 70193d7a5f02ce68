/-! by program: what each method does, and that its code does it -/
theorem dX11_back_0 : decode cX11_back 0 = .ok (.iload_n 1, 1) := by decide +kernel
theorem dX11_back_1 : decode cX11_back 1 = .ok (.iconst 0, 1) := by decide +kernel
theorem dX11_back_2 : decode cX11_back 2 = .ok (.iconst 1, 1) := by decide +kernel
theorem dX11_back_3 : decode cX11_back 3 = .ok (.invokestatic 63, 3) := by decide +kernel
theorem dX11_back_6 : decode cX11_back 6 = .ok (.ifCond .ne 5, 3) := by decide +kernel
theorem dX11_back_9 : decode cX11_back 9 = .ok (.iconst (-1), 1) := by decide +kernel
theorem dX11_back_10 : decode cX11_back 10 = .ok (.ireturn, 1) := by decide +kernel
theorem dX11_back_11 : decode cX11_back 11 = .ok (.aload_n 0, 1) := by decide +kernel
theorem dX11_back_12 : decode cX11_back 12 = .ok (.getfield 59, 3) := by decide +kernel
theorem dX11_back_15 : decode cX11_back 15 = .ok (.iload_n 1, 1) := by decide +kernel
theorem dX11_back_16 : decode cX11_back 16 = .ok (.baload, 1) := by decide +kernel
theorem dX11_back_17 : decode cX11_back 17 = .ok (.ifCond .ne 6, 3) := by decide +kernel
theorem dX11_back_20 : decode cX11_back 20 = .ok (.bipush (-2), 2) := by decide +kernel
theorem dX11_back_22 : decode cX11_back 22 = .ok (.ireturn, 1) := by decide +kernel
theorem dX11_back_23 : decode cX11_back 23 = .ok (.aload_n 0, 1) := by decide +kernel
theorem dX11_back_24 : decode cX11_back 24 = .ok (.sipush 4680, 3) := by decide +kernel
theorem dX11_back_27 : decode cX11_back 27 = .ok (.sipush 780, 3) := by decide +kernel
theorem dX11_back_30 : decode cX11_back 30 = .ok (.iload_n 1, 1) := by decide +kernel
theorem dX11_back_31 : decode cX11_back 31 = .ok (.imul, 1) := by decide +kernel
theorem dX11_back_32 : decode cX11_back 32 = .ok (.iadd, 1) := by decide +kernel
theorem dX11_back_33 : decode cX11_back 33 = .ok (.iconst 0, 1) := by decide +kernel
theorem dX11_back_34 : decode cX11_back 34 = .ok (.invokevirtual 108, 3) := by decide +kernel
theorem dX11_back_37 : decode cX11_back 37 = .ok (.aload_n 0, 1) := by decide +kernel
theorem dX11_back_38 : decode cX11_back 38 = .ok (.iconst 2, 1) := by decide +kernel
theorem dX11_back_39 : decode cX11_back 39 = .ok (.iload_n 1, 1) := by decide +kernel
theorem dX11_back_40 : decode cX11_back 40 = .ok (.iadd, 1) := by decide +kernel
theorem dX11_back_41 : decode cX11_back 41 = .ok (.iconst 0, 1) := by decide +kernel
theorem dX11_back_42 : decode cX11_back 42 = .ok (.invokevirtual 222, 3) := by decide +kernel
theorem dX11_back_45 : decode cX11_back 45 = .ok (.aload_n 0, 1) := by decide +kernel
theorem dX11_back_46 : decode cX11_back 46 = .ok (.aload_n 0, 1) := by decide +kernel
theorem dX11_back_47 : decode cX11_back 47 = .ok (.getfield 47, 3) := by decide +kernel
theorem dX11_back_50 : decode cX11_back 50 = .ok (.iload_n 1, 1) := by decide +kernel
theorem dX11_back_51 : decode cX11_back 51 = .ok (.iaload, 1) := by decide +kernel
theorem dX11_back_52 : decode cX11_back 52 = .ok (.putfield 219, 3) := by decide +kernel
theorem dX11_back_55 : decode cX11_back 55 = .ok (.aload_n 0, 1) := by decide +kernel
theorem dX11_back_56 : decode cX11_back 56 = .ok (.invokevirtual 119, 3) := by decide +kernel
theorem dX11_back_59 : decode cX11_back 59 = .ok (.ireturn, 1) := by decide +kernel
def bX11_back : ol_SE := es_seq (es_if (ec_not (ec_z ol_ne (ei_of (ea_cs fX11_in (ea_i (ei_v 1) (ea_i (ei_c 0) (ea_i (ei_c 1) (ea_0)))))))) (es_ret (ei_c (-1))) es_skip) (es_seq (es_if (ec_not (ec_z ol_ne (ei_a 102 (er_f 11 41 (er_v 0)) (ei_v 1)))) (es_ret (ei_c (-2))) es_skip) (es_seq (es_of (ea_cv 11 fX11_copy (ea_r (er_v 0) (ea_i (ei_2 ol_add (ei_c 4680) (ei_2 ol_mul (ei_c 780) (ei_v 1))) (ea_i (ei_c 0) (ea_0)))))) (es_seq (es_of (ea_cv 11 fX11_copyThrowers (ea_r (er_v 0) (ea_i (ei_2 ol_add (ei_c 2) (ei_v 1)) (ea_i (ei_c 0) (ea_0)))))) (es_seq (es_pf 11 34 (er_v 0) (ei_a 100 (er_f 11 36 (er_v 0)) (ei_v 1))) (es_ret (ei_of (ea_cv 11 fX11_allDrops (ea_r (er_v 0) (ea_0)))))))))
def fX11_back : ol_FE := ol_fe 2 bX11_back
set_option maxRecDepth 20000 in
theorem imX11_back (x : ol_X) (K : ol_K) : IM_S x K mX11_back 0 0 bX11_back := rs_seq (p2 := 11) (rs_if (pT := 9) (pF := 11) (pE := 11) (rc_not (rc_zT (pT := 11) ol_j1_ne_T (ri_k (rk_s (Mc := mX11_in) (conX11_in _ K) (ra_i (ri_vn dX11_back_0 rfl) (ra_i (ri_ic dX11_back_1 (by unfold ol_inR; omega)) (ra_i (ri_ic dX11_back_2 (by unfold ol_inR; omega)) (ra_0)))) dX11_back_3 cwX11_63 tw_981 ⟨rfl, rfl, Nat.le_of_ble_eq_true rfl⟩ (by decide) (by decide) (al_i (al_i (al_i al_0)))) (Or.inr (Or.inl rfl))) dX11_back_6 (by decide))) (rs_ret (ri_ic dX11_back_9 (by unfold ol_inR; omega)) rfl dX11_back_10) rs_skip) (rs_seq (p2 := 23) (rs_if (pT := 20) (pF := 23) (pE := 23) (rc_not (rc_zT (pT := 23) ol_j1_ne_T (ri_za (rr_f (rr_vn dX11_back_11 rfl) gfX11_59 dX11_back_12) (ri_vn dX11_back_15 rfl) rfl dX11_back_16) dX11_back_17 (by decide))) (rs_ret (ri_bi dX11_back_20 (by unfold ol_inR; omega) (by decide)) rfl dX11_back_22) rs_skip) (rs_seq (p2 := 37) (rs_k (rk_v (Mc := mX11_copy) (conX11_copy _ K) (ra_r (rr_vn dX11_back_23 rfl) (ra_i (ri_2 ol_op_add (ri_si dX11_back_24 (by unfold ol_inR; omega) (by decide)) (ri_2 ol_op_mul (ri_si dX11_back_27 (by unfold ol_inR; omega) (by decide)) (ri_vn dX11_back_30 rfl) dX11_back_31) dX11_back_32) (ra_i (ri_ic dX11_back_33 (by unfold ol_inR; omega)) (ra_0)))) dX11_back_34 cwX11_108 tw_1015 tw_30 (by decide) rfl rfl ⟨rfl, rfl, Nat.le_of_ble_eq_true rfl⟩ (by decide) (by decide) (al_r (al_i (al_i al_0))))) (rs_seq (p2 := 45) (rs_k (rk_v (Mc := mX11_copyThrowers) (conX11_copyThrowers _ K) (ra_r (rr_vn dX11_back_37 rfl) (ra_i (ri_2 ol_op_add (ri_ic dX11_back_38 (by unfold ol_inR; omega)) (ri_vn dX11_back_39 rfl) dX11_back_40) (ra_i (ri_ic dX11_back_41 (by unfold ol_inR; omega)) (ra_0)))) dX11_back_42 cwX11_222 tw_1172 tw_48 (by decide) rfl rfl ⟨rfl, rfl, Nat.le_of_ble_eq_true rfl⟩ (by decide) (by decide) (al_r (al_i (al_i al_0))))) (rs_seq (p2 := 55) (rs_pf (rr_vn dX11_back_45 rfl) (ri_a (rr_f (rr_vn dX11_back_46 rfl) gfX11_47 dX11_back_47) (ri_vn dX11_back_50 rfl) rfl dX11_back_51) pfX11_219 rfl dX11_back_52) (rs_ret (ri_k (rk_v (Mc := mX11_allDrops) (conX11_allDrops _ K) (ra_r (rr_vn dX11_back_55 rfl) (ra_0)) dX11_back_56 cwX11_119 tw_1027 tw_32 (by decide) rfl rfl ⟨rfl, rfl, Nat.le_of_ble_eq_true rfl⟩ (by decide) (by decide) (al_r al_0)) (Or.inl rfl)) rfl dX11_back_59)))))
theorem conX11_back (l : Launch) (K : ol_K) : ol_Con l K yX11_back mX11_back fX11_back := ol_con (M := mX11_back) (by decide) rfl rfl (imX11_back · K)
theorem dX8_init_0 : decode cX8_init 0 = .ok (.aload_n 0, 1) := by decide +kernel
theorem dX8_init_1 : decode cX8_init 1 = .ok (.invokespecial 3, 3) := by decide +kernel
theorem dX8_init_4 : decode cX8_init 4 = .ok (.aload_n 0, 1) := by decide +kernel
theorem dX8_init_5 : decode cX8_init 5 = .ok (.bipush 20, 2) := by decide +kernel
theorem dX8_init_7 : decode cX8_init 7 = .ok (.newarray .int, 2) := by decide +kernel
theorem dX8_init_9 : decode cX8_init 9 = .ok (.dup, 1) := by decide +kernel
theorem dX8_init_10 : decode cX8_init 10 = .ok (.iconst 0, 1) := by decide +kernel
theorem dX8_init_11 : decode cX8_init 11 = .ok (.iconst 0, 1) := by decide +kernel
theorem dX8_init_12 : decode cX8_init 12 = .ok (.iastore, 1) := by decide +kernel
theorem dX8_init_13 : decode cX8_init 13 = .ok (.dup, 1) := by decide +kernel
theorem dX8_init_14 : decode cX8_init 14 = .ok (.iconst 1, 1) := by decide +kernel
theorem dX8_init_15 : decode cX8_init 15 = .ok (.iconst 2, 1) := by decide +kernel
theorem dX8_init_16 : decode cX8_init 16 = .ok (.iastore, 1) := by decide +kernel
theorem dX8_init_17 : decode cX8_init 17 = .ok (.dup, 1) := by decide +kernel
theorem dX8_init_18 : decode cX8_init 18 = .ok (.iconst 2, 1) := by decide +kernel
theorem dX8_init_19 : decode cX8_init 19 = .ok (.bipush 6, 2) := by decide +kernel
theorem dX8_init_21 : decode cX8_init 21 = .ok (.iastore, 1) := by decide +kernel
theorem dX8_init_22 : decode cX8_init 22 = .ok (.dup, 1) := by decide +kernel
theorem dX8_init_23 : decode cX8_init 23 = .ok (.iconst 3, 1) := by decide +kernel
theorem dX8_init_24 : decode cX8_init 24 = .ok (.iconst 2, 1) := by decide +kernel
theorem dX8_init_25 : decode cX8_init 25 = .ok (.iastore, 1) := by decide +kernel
theorem dX8_init_26 : decode cX8_init 26 = .ok (.dup, 1) := by decide +kernel
theorem dX8_init_27 : decode cX8_init 27 = .ok (.iconst 4, 1) := by decide +kernel
theorem dX8_init_28 : decode cX8_init 28 = .ok (.iconst 0, 1) := by decide +kernel
theorem dX8_init_29 : decode cX8_init 29 = .ok (.iastore, 1) := by decide +kernel
theorem dX8_init_30 : decode cX8_init 30 = .ok (.dup, 1) := by decide +kernel
theorem dX8_init_31 : decode cX8_init 31 = .ok (.iconst 5, 1) := by decide +kernel
theorem dX8_init_32 : decode cX8_init 32 = .ok (.iconst 0, 1) := by decide +kernel
theorem dX8_init_33 : decode cX8_init 33 = .ok (.iastore, 1) := by decide +kernel
theorem dX8_init_34 : decode cX8_init 34 = .ok (.dup, 1) := by decide +kernel
theorem dX8_init_35 : decode cX8_init 35 = .ok (.bipush 6, 2) := by decide +kernel
theorem dX8_init_37 : decode cX8_init 37 = .ok (.iconst 2, 1) := by decide +kernel
theorem dX8_init_38 : decode cX8_init 38 = .ok (.iastore, 1) := by decide +kernel
theorem dX8_init_39 : decode cX8_init 39 = .ok (.dup, 1) := by decide +kernel
theorem dX8_init_40 : decode cX8_init 40 = .ok (.bipush 7, 2) := by decide +kernel
theorem dX8_init_42 : decode cX8_init 42 = .ok (.bipush 6, 2) := by decide +kernel
theorem dX8_init_44 : decode cX8_init 44 = .ok (.iastore, 1) := by decide +kernel
theorem dX8_init_45 : decode cX8_init 45 = .ok (.dup, 1) := by decide +kernel
theorem dX8_init_46 : decode cX8_init 46 = .ok (.bipush 8, 2) := by decide +kernel
theorem dX8_init_48 : decode cX8_init 48 = .ok (.iconst 2, 1) := by decide +kernel
theorem dX8_init_49 : decode cX8_init 49 = .ok (.iastore, 1) := by decide +kernel
theorem dX8_init_50 : decode cX8_init 50 = .ok (.dup, 1) := by decide +kernel
theorem dX8_init_51 : decode cX8_init 51 = .ok (.bipush 9, 2) := by decide +kernel
theorem dX8_init_53 : decode cX8_init 53 = .ok (.iconst 0, 1) := by decide +kernel
theorem dX8_init_54 : decode cX8_init 54 = .ok (.iastore, 1) := by decide +kernel
theorem dX8_init_55 : decode cX8_init 55 = .ok (.dup, 1) := by decide +kernel
theorem dX8_init_56 : decode cX8_init 56 = .ok (.bipush 10, 2) := by decide +kernel
theorem dX8_init_58 : decode cX8_init 58 = .ok (.iconst 0, 1) := by decide +kernel
theorem dX8_init_59 : decode cX8_init 59 = .ok (.iastore, 1) := by decide +kernel
theorem dX8_init_60 : decode cX8_init 60 = .ok (.dup, 1) := by decide +kernel
theorem dX8_init_61 : decode cX8_init 61 = .ok (.bipush 11, 2) := by decide +kernel
theorem dX8_init_63 : decode cX8_init 63 = .ok (.iconst 2, 1) := by decide +kernel
theorem dX8_init_64 : decode cX8_init 64 = .ok (.iastore, 1) := by decide +kernel
theorem dX8_init_65 : decode cX8_init 65 = .ok (.dup, 1) := by decide +kernel
theorem dX8_init_66 : decode cX8_init 66 = .ok (.bipush 12, 2) := by decide +kernel
theorem dX8_init_68 : decode cX8_init 68 = .ok (.bipush 6, 2) := by decide +kernel
theorem dX8_init_70 : decode cX8_init 70 = .ok (.iastore, 1) := by decide +kernel
theorem dX8_init_71 : decode cX8_init 71 = .ok (.dup, 1) := by decide +kernel
theorem dX8_init_72 : decode cX8_init 72 = .ok (.bipush 13, 2) := by decide +kernel
theorem dX8_init_74 : decode cX8_init 74 = .ok (.iconst 2, 1) := by decide +kernel
theorem dX8_init_75 : decode cX8_init 75 = .ok (.iastore, 1) := by decide +kernel
theorem dX8_init_76 : decode cX8_init 76 = .ok (.dup, 1) := by decide +kernel
theorem dX8_init_77 : decode cX8_init 77 = .ok (.bipush 14, 2) := by decide +kernel
theorem dX8_init_79 : decode cX8_init 79 = .ok (.iconst 0, 1) := by decide +kernel
theorem dX8_init_80 : decode cX8_init 80 = .ok (.iastore, 1) := by decide +kernel
theorem dX8_init_81 : decode cX8_init 81 = .ok (.dup, 1) := by decide +kernel
theorem dX8_init_82 : decode cX8_init 82 = .ok (.bipush 15, 2) := by decide +kernel
theorem dX8_init_84 : decode cX8_init 84 = .ok (.iconst 0, 1) := by decide +kernel
theorem dX8_init_85 : decode cX8_init 85 = .ok (.iastore, 1) := by decide +kernel
theorem dX8_init_86 : decode cX8_init 86 = .ok (.dup, 1) := by decide +kernel
theorem dX8_init_87 : decode cX8_init 87 = .ok (.bipush 16, 2) := by decide +kernel
theorem dX8_init_89 : decode cX8_init 89 = .ok (.iconst 2, 1) := by decide +kernel
theorem dX8_init_90 : decode cX8_init 90 = .ok (.iastore, 1) := by decide +kernel
theorem dX8_init_91 : decode cX8_init 91 = .ok (.dup, 1) := by decide +kernel
theorem dX8_init_92 : decode cX8_init 92 = .ok (.bipush 17, 2) := by decide +kernel
theorem dX8_init_94 : decode cX8_init 94 = .ok (.bipush 6, 2) := by decide +kernel
theorem dX8_init_96 : decode cX8_init 96 = .ok (.iastore, 1) := by decide +kernel
theorem dX8_init_97 : decode cX8_init 97 = .ok (.dup, 1) := by decide +kernel
theorem dX8_init_98 : decode cX8_init 98 = .ok (.bipush 18, 2) := by decide +kernel
theorem dX8_init_100 : decode cX8_init 100 = .ok (.iconst 2, 1) := by decide +kernel
theorem dX8_init_101 : decode cX8_init 101 = .ok (.iastore, 1) := by decide +kernel
theorem dX8_init_102 : decode cX8_init 102 = .ok (.dup, 1) := by decide +kernel
theorem dX8_init_103 : decode cX8_init 103 = .ok (.bipush 19, 2) := by decide +kernel
theorem dX8_init_105 : decode cX8_init 105 = .ok (.iconst 0, 1) := by decide +kernel
theorem dX8_init_106 : decode cX8_init 106 = .ok (.iastore, 1) := by decide +kernel
theorem dX8_init_107 : decode cX8_init 107 = .ok (.putfield 9, 3) := by decide +kernel
theorem dX8_init_110 : decode cX8_init 110 = .ok (.aload_n 0, 1) := by decide +kernel
theorem dX8_init_111 : decode cX8_init 111 = .ok (.new 15, 3) := by decide +kernel
theorem dX8_init_114 : decode cX8_init 114 = .ok (.dup, 1) := by decide +kernel
theorem dX8_init_115 : decode cX8_init 115 = .ok (.invokespecial 17, 3) := by decide +kernel
theorem dX8_init_118 : decode cX8_init 118 = .ok (.putfield 18, 3) := by decide +kernel
theorem dX8_init_121 : decode cX8_init 121 = .ok (.aload_n 0, 1) := by decide +kernel
theorem dX8_init_122 : decode cX8_init 122 = .ok (.sipush 507, 3) := by decide +kernel
theorem dX8_init_125 : decode cX8_init 125 = .ok (.newarray .int, 2) := by decide +kernel
theorem dX8_init_127 : decode cX8_init 127 = .ok (.putfield 22, 3) := by decide +kernel
theorem dX8_init_130 : decode cX8_init 130 = .ok (.aload_n 0, 1) := by decide +kernel
theorem dX8_init_131 : decode cX8_init 131 = .ok (.bipush 24, 2) := by decide +kernel
theorem dX8_init_133 : decode cX8_init 133 = .ok (.newarray .int, 2) := by decide +kernel
theorem dX8_init_135 : decode cX8_init 135 = .ok (.putfield 25, 3) := by decide +kernel
theorem dX8_init_138 : decode cX8_init 138 = .ok (.return_, 1) := by decide +kernel
def bX8_init : ol_SE := es_seq (fun L h => (er_v 0 L h).bind fun q => some (none, L, q.2)) (es_seq (es_pr 8 0 (er_v 0) (er_st (er_st (er_st (er_st (er_st (er_st (er_st (er_st (er_st (er_st (er_st (er_st (er_st (er_st (er_st (er_st (er_st (er_st (er_st (er_st (er_na 100 6 572 20) 0 0) 1 2) 2 6) 3 2) 4 0) 5 0) 6 2) 7 6) 8 2) 9 0) 10 0) 11 2) 12 6) 13 2) 14 0) 15 0) 16 2) 17 6) 18 2) 19 0)) (es_seq (es_pr 8 1 (er_v 0) (er_n 1 tyX1 8 6 572 fX1_init (mc mX1_init) (ms mX1_init) (ea_0))) (es_seq (es_pr 8 2 (er_v 0) (er_na 100 6 572 507)) (es_seq (es_pr 8 3 (er_v 0) (er_na 100 6 572 24)) (es_retv)))))
def fX8_init : ol_FE := ol_fe 1 bX8_init
set_option maxRecDepth 20000 in
theorem imX8_init (x : ol_X) (K : ol_K) : IM_S x K mX8_init 0 0 bX8_init := rs_seq (p2 := 4) (rs_obj (rr_vn dX8_init_0 rfl) dX8_init_1 ⟨tw_294, tw_77, tw_78⟩ (by decide)) (rs_seq (p2 := 110) (rs_pr (rr_vn dX8_init_4 rfl) (rr_st (rr_st (rr_st (rr_st (rr_st (rr_st (rr_st (rr_st (rr_st (rr_st (rr_st (rr_st (rr_st (rr_st (rr_st (rr_st (rr_st (rr_st (rr_st (rr_st (rr_na (t := 0) (n := 20) (ri_bi dX8_init_5 (by unfold ol_inR; omega) (by decide)) (by decide) rfl rfl rfl (fun _ _ => rfl) tw_103 (by decide) dX8_init_7) dX8_init_9 (ri_ic dX8_init_10 (by unfold ol_inR; omega)) (ri_ic dX8_init_11 (by unfold ol_inR; omega)) dX8_init_12) dX8_init_13 (ri_ic dX8_init_14 (by unfold ol_inR; omega)) (ri_ic dX8_init_15 (by unfold ol_inR; omega)) dX8_init_16) dX8_init_17 (ri_ic dX8_init_18 (by unfold ol_inR; omega)) (ri_bi dX8_init_19 (by unfold ol_inR; omega) (by decide)) dX8_init_21) dX8_init_22 (ri_ic dX8_init_23 (by unfold ol_inR; omega)) (ri_ic dX8_init_24 (by unfold ol_inR; omega)) dX8_init_25) dX8_init_26 (ri_ic dX8_init_27 (by unfold ol_inR; omega)) (ri_ic dX8_init_28 (by unfold ol_inR; omega)) dX8_init_29) dX8_init_30 (ri_ic dX8_init_31 (by unfold ol_inR; omega)) (ri_ic dX8_init_32 (by unfold ol_inR; omega)) dX8_init_33) dX8_init_34 (ri_bi dX8_init_35 (by unfold ol_inR; omega) (by decide)) (ri_ic dX8_init_37 (by unfold ol_inR; omega)) dX8_init_38) dX8_init_39 (ri_bi dX8_init_40 (by unfold ol_inR; omega) (by decide)) (ri_bi dX8_init_42 (by unfold ol_inR; omega) (by decide)) dX8_init_44) dX8_init_45 (ri_bi dX8_init_46 (by unfold ol_inR; omega) (by decide)) (ri_ic dX8_init_48 (by unfold ol_inR; omega)) dX8_init_49) dX8_init_50 (ri_bi dX8_init_51 (by unfold ol_inR; omega) (by decide)) (ri_ic dX8_init_53 (by unfold ol_inR; omega)) dX8_init_54) dX8_init_55 (ri_bi dX8_init_56 (by unfold ol_inR; omega) (by decide)) (ri_ic dX8_init_58 (by unfold ol_inR; omega)) dX8_init_59) dX8_init_60 (ri_bi dX8_init_61 (by unfold ol_inR; omega) (by decide)) (ri_ic dX8_init_63 (by unfold ol_inR; omega)) dX8_init_64) dX8_init_65 (ri_bi dX8_init_66 (by unfold ol_inR; omega) (by decide)) (ri_bi dX8_init_68 (by unfold ol_inR; omega) (by decide)) dX8_init_70) dX8_init_71 (ri_bi dX8_init_72 (by unfold ol_inR; omega) (by decide)) (ri_ic dX8_init_74 (by unfold ol_inR; omega)) dX8_init_75) dX8_init_76 (ri_bi dX8_init_77 (by unfold ol_inR; omega) (by decide)) (ri_ic dX8_init_79 (by unfold ol_inR; omega)) dX8_init_80) dX8_init_81 (ri_bi dX8_init_82 (by unfold ol_inR; omega) (by decide)) (ri_ic dX8_init_84 (by unfold ol_inR; omega)) dX8_init_85) dX8_init_86 (ri_bi dX8_init_87 (by unfold ol_inR; omega) (by decide)) (ri_ic dX8_init_89 (by unfold ol_inR; omega)) dX8_init_90) dX8_init_91 (ri_bi dX8_init_92 (by unfold ol_inR; omega) (by decide)) (ri_bi dX8_init_94 (by unfold ol_inR; omega) (by decide)) dX8_init_96) dX8_init_97 (ri_bi dX8_init_98 (by unfold ol_inR; omega) (by decide)) (ri_ic dX8_init_100 (by unfold ol_inR; omega)) dX8_init_101) dX8_init_102 (ri_bi dX8_init_103 (by unfold ol_inR; omega) (by decide)) (ri_ic dX8_init_105 (by unfold ol_inR; omega)) dX8_init_106) pfX8_9 rfl rfl (Or.inr ⟨_, rfl⟩) dX8_init_107) (rs_seq (p2 := 121) (rs_pr (rr_vn dX8_init_110 rfl) (rr_n (T := TX1) (conX1_init _ K) dX8_init_111 dX8_init_114 (ra_0) dX8_init_115 rfl (by decide) inX1 tyX1_ok (by decide +kernel) ⟨tw_295, tw_201, tw_58⟩ (Or.inr ⟨_, List.mem_of_getElem? (i := 9) rfl⟩) hyX1_init rfl (by decide) (by decide) (by decide) (al_0)) pfX8_18 rfl rfl (Or.inl ⟨_, rfl⟩) dX8_init_118) (rs_seq (p2 := 130) (rs_pr (rr_vn dX8_init_121 rfl) (rr_na (t := 0) (n := 507) (ri_si dX8_init_122 (by unfold ol_inR; omega) (by decide)) (by decide) rfl rfl rfl (fun _ _ => rfl) tw_103 (by decide) dX8_init_125) pfX8_22 rfl rfl (Or.inr ⟨_, rfl⟩) dX8_init_127) (rs_seq (p2 := 138) (rs_pr (rr_vn dX8_init_130 rfl) (rr_na (t := 0) (n := 24) (ri_bi dX8_init_131 (by unfold ol_inR; omega) (by decide)) (by decide) rfl rfl rfl (fun _ _ => rfl) tw_103 (by decide) dX8_init_133) pfX8_25 rfl rfl (Or.inr ⟨_, rfl⟩) dX8_init_135) (rs_retv rfl dX8_init_138)))))
theorem conX8_init (l : Launch) (K : ol_K) : ol_Con l K yX8_init mX8_init fX8_init := ol_con (M := mX8_init) (by decide) rfl rfl (imX8_init · K)
theorem dX5_layOn_0 : decode cX5_layOn 0 = .ok (.aload_n 1, 1) := by decide +kernel
theorem dX5_layOn_1 : decode cX5_layOn 1 = .ok (.iconst 0, 1) := by decide +kernel
theorem dX5_layOn_2 : decode cX5_layOn 2 = .ok (.bipush 19, 2) := by decide +kernel
theorem dX5_layOn_4 : decode cX5_layOn 4 = .ok (.invokevirtual 25, 3) := by decide +kernel
theorem dX5_layOn_7 : decode cX5_layOn 7 = .ok (.iconst 0, 1) := by decide +kernel
theorem dX5_layOn_8 : decode cX5_layOn 8 = .ok (.istore_n 2, 1) := by decide +kernel
theorem dX5_layOn_9 : decode cX5_layOn 9 = .ok (.iload_n 2, 1) := by decide +kernel
theorem dX5_layOn_10 : decode cX5_layOn 10 = .ok (.aload_n 0, 1) := by decide +kernel
theorem dX5_layOn_11 : decode cX5_layOn 11 = .ok (.getfield 21, 3) := by decide +kernel
theorem dX5_layOn_14 : decode cX5_layOn 14 = .ok (.if_icmp .ge 17, 3) := by decide +kernel
theorem dX5_layOn_17 : decode cX5_layOn 17 = .ok (.aload_n 0, 1) := by decide +kernel
theorem dX5_layOn_18 : decode cX5_layOn 18 = .ok (.aload_n 1, 1) := by decide +kernel
theorem dX5_layOn_19 : decode cX5_layOn 19 = .ok (.iload_n 2, 1) := by decide +kernel
theorem dX5_layOn_20 : decode cX5_layOn 20 = .ok (.iconst 5, 1) := by decide +kernel
theorem dX5_layOn_21 : decode cX5_layOn 21 = .ok (.imul, 1) := by decide +kernel
theorem dX5_layOn_22 : decode cX5_layOn 22 = .ok (.invokevirtual 31, 3) := by decide +kernel
theorem dX5_layOn_25 : decode cX5_layOn 25 = .ok (.iinc 2 1, 3) := by decide +kernel
theorem dX5_layOn_28 : decode cX5_layOn 28 = .ok (.goto (-19), 3) := by decide +kernel
theorem dX5_layOn_31 : decode cX5_layOn 31 = .ok (.return_, 1) := by decide +kernel
def bX5_layOn : ol_SE := es_seq (es_of (ea_cv 4 fX4_dry (ea_r (er_v 1) (ea_i (ei_c 0) (ea_i (ei_c 19) (ea_0)))))) (es_seq (es_seq (es_set 2 (ei_c 0)) (es_wh (ec_2 ol_lt (ei_v 2) (ei_f 5 1 (er_v 0))) (es_seq (es_of (ea_cv 5 fX5_layItem (ea_r (er_v 0) (ea_r (er_v 1) (ea_i (ei_2 ol_mul (ei_v 2) (ei_c 5)) (ea_0)))))) (es_inc 2 1)))) (es_retv))
def fX5_layOn : ol_FE := ol_fe 3 bX5_layOn
set_option maxRecDepth 20000 in
theorem imX5_layOn (x : ol_X) (K : ol_K) : IM_S x K mX5_layOn 0 0 bX5_layOn := rs_seq (p2 := 7) (rs_k (rk_v (Mc := mX4_dry) (conX4_dry _ K) (ra_r (rr_vn dX5_layOn_0 rfl) (ra_i (ri_ic dX5_layOn_1 (by unfold ol_inR; omega)) (ra_i (ri_bi dX5_layOn_2 (by unfold ol_inR; omega) (by decide)) (ra_0)))) dX5_layOn_4 cwX5_25 tw_528 tw_529 (by decide) rfl rfl ⟨rfl, rfl, Nat.le_of_ble_eq_true rfl⟩ (by decide) (by decide) (al_r (al_i (al_i al_0))))) (rs_seq (p2 := 31) (rs_seq (p2 := 9) (rs_setn (ri_ic dX5_layOn_7 (by unfold ol_inR; omega)) dX5_layOn_8 rfl (ol_ltn rfl)) (rs_wh (pH := 9) (pB := 17) (pE := 31) (pG := 28) (rc_2F (pF := 31) ol_j2_ge_F (ri_vn dX5_layOn_9 rfl) (ri_f (rr_vn dX5_layOn_10 rfl) gfX5_21 dX5_layOn_11) dX5_layOn_14 (by decide)) (rs_seq (p2 := 25) (rs_k (rk_v (Mc := mX5_layItem) (conX5_layItem _ K) (ra_r (rr_vn dX5_layOn_17 rfl) (ra_r (rr_vn dX5_layOn_18 rfl) (ra_i (ri_2 ol_op_mul (ri_vn dX5_layOn_19 rfl) (ri_ic dX5_layOn_20 (by unfold ol_inR; omega)) dX5_layOn_21) (ra_0)))) dX5_layOn_22 cwX5_31 tw_533 tw_7 (by decide) rfl rfl ⟨rfl, rfl, Nat.le_of_ble_eq_true rfl⟩ (by decide) (by decide) (al_r (al_r (al_i al_0))))) (rs_inc dX5_layOn_25 (ol_ltn rfl))) dX5_layOn_28 (by decide))) (rs_retv rfl dX5_layOn_31))
theorem conX5_layOn (l : Launch) (K : ol_K) : ol_Con l K yX5_layOn mX5_layOn fX5_layOn := ol_con (M := mX5_layOn) (by decide) rfl rfl (imX5_layOn · K)
theorem dX10_ball_0 : decode cX10_ball 0 = .ok (.iload_n 1, 1) := by decide +kernel
theorem dX10_ball_1 : decode cX10_ball 1 = .ok (.iconst 0, 1) := by decide +kernel
theorem dX10_ball_2 : decode cX10_ball 2 = .ok (.iconst 5, 1) := by decide +kernel
theorem dX10_ball_3 : decode cX10_ball 3 = .ok (.invokestatic 98, 3) := by decide +kernel
theorem dX10_ball_6 : decode cX10_ball 6 = .ok (.ifCond .ne 12, 3) := by decide +kernel
theorem dX10_ball_9 : decode cX10_ball 9 = .ok (.iload_n 2, 1) := by decide +kernel
theorem dX10_ball_10 : decode cX10_ball 10 = .ok (.iconst 0, 1) := by decide +kernel
theorem dX10_ball_11 : decode cX10_ball 11 = .ok (.iconst 1, 1) := by decide +kernel
theorem dX10_ball_12 : decode cX10_ball 12 = .ok (.invokestatic 98, 3) := by decide +kernel
theorem dX10_ball_15 : decode cX10_ball 15 = .ok (.ifCond .eq 5, 3) := by decide +kernel
theorem dX10_ball_18 : decode cX10_ball 18 = .ok (.iconst (-1), 1) := by decide +kernel
theorem dX10_ball_19 : decode cX10_ball 19 = .ok (.ireturn, 1) := by decide +kernel
theorem dX10_ball_20 : decode cX10_ball 20 = .ok (.iload_n 2, 1) := by decide +kernel
theorem dX10_ball_21 : decode cX10_ball 21 = .ok (.ifCond .ne 16, 3) := by decide +kernel
theorem dX10_ball_24 : decode cX10_ball 24 = .ok (.aload_n 0, 1) := by decide +kernel
theorem dX10_ball_25 : decode cX10_ball 25 = .ok (.getfield 24, 3) := by decide +kernel
theorem dX10_ball_28 : decode cX10_ball 28 = .ok (.iload_n 1, 1) := by decide +kernel
theorem dX10_ball_29 : decode cX10_ball 29 = .ok (.aaload, 1) := by decide +kernel
theorem dX10_ball_30 : decode cX10_ball 30 = .ok (.iload_n 3, 1) := by decide +kernel
theorem dX10_ball_31 : decode cX10_ball 31 = .ok (.invokestatic 138, 3) := by decide +kernel
theorem dX10_ball_34 : decode cX10_ball 34 = .ok (.goto 13, 3) := by decide +kernel
theorem dX10_ball_37 : decode cX10_ball 37 = .ok (.aload_n 0, 1) := by decide +kernel
theorem dX10_ball_38 : decode cX10_ball 38 = .ok (.getfield 24, 3) := by decide +kernel
theorem dX10_ball_41 : decode cX10_ball 41 = .ok (.iload_n 1, 1) := by decide +kernel
theorem dX10_ball_42 : decode cX10_ball 42 = .ok (.aaload, 1) := by decide +kernel
theorem dX10_ball_43 : decode cX10_ball 43 = .ok (.iload_n 3, 1) := by decide +kernel
theorem dX10_ball_44 : decode cX10_ball 44 = .ok (.invokestatic 142, 3) := by decide +kernel
theorem dX10_ball_47 : decode cX10_ball 47 = .ok (.ireturn, 1) := by decide +kernel
def bX10_ball : ol_SE := es_seq (es_if (ec_or (ec_z ol_ne (ei_of (ea_cs fX10_outside (ea_i (ei_v 1) (ea_i (ei_c 0) (ea_i (ei_c 5) (ea_0))))))) (ec_z ol_ne (ei_of (ea_cs fX10_outside (ea_i (ei_v 2) (ea_i (ei_c 0) (ea_i (ei_c 1) (ea_0)))))))) (es_ret (ei_c (-1))) es_skip) (es_ret (ei_if (ec_z ol_eq (ei_v 2)) (ei_of (ea_cs fX10_becomeSkin (ea_r (er_a 104 (er_f 10 2 (er_v 0)) (ei_v 1)) (ea_i (ei_v 3) (ea_0))))) (ei_of (ea_cs fX10_becomeWeight (ea_r (er_a 104 (er_f 10 2 (er_v 0)) (ei_v 1)) (ea_i (ei_v 3) (ea_0)))))))
def fX10_ball : ol_FE := ol_fe 4 bX10_ball
set_option maxRecDepth 20000 in
theorem imX10_ball (x : ol_X) (K : ol_K) : IM_S x K mX10_ball 0 0 bX10_ball := rs_seq (p2 := 20) (rs_if (pT := 18) (pF := 20) (pE := 20) (rc_or (p2 := 9) (pT := 18) (pF := 20) (rc_zT (pT := 18) ol_j1_ne_T (ri_k (rk_s (Mc := mX10_outside) (conX10_outside _ K) (ra_i (ri_vn dX10_ball_0 rfl) (ra_i (ri_ic dX10_ball_1 (by unfold ol_inR; omega)) (ra_i (ri_ic dX10_ball_2 (by unfold ol_inR; omega)) (ra_0)))) dX10_ball_3 cwX10_98 tw_417 ⟨rfl, rfl, Nat.le_of_ble_eq_true rfl⟩ (by decide) (by decide) (al_i (al_i (al_i al_0)))) (Or.inr (Or.inl rfl))) dX10_ball_6 (by decide)) (rc_zF (pF := 20) ol_j1_eq_F (ri_k (rk_s (Mc := mX10_outside) (conX10_outside _ K) (ra_i (ri_vn dX10_ball_9 rfl) (ra_i (ri_ic dX10_ball_10 (by unfold ol_inR; omega)) (ra_i (ri_ic dX10_ball_11 (by unfold ol_inR; omega)) (ra_0)))) dX10_ball_12 cwX10_98 tw_417 ⟨rfl, rfl, Nat.le_of_ble_eq_true rfl⟩ (by decide) (by decide) (al_i (al_i (al_i al_0)))) (Or.inr (Or.inl rfl))) dX10_ball_15 (by decide))) (rs_ret (ri_ic dX10_ball_18 (by unfold ol_inR; omega)) rfl dX10_ball_19) rs_skip) (rs_ret (ri_if (pT := 24) (pF := 37) (p3 := 47) (rc_zF (pF := 37) ol_j1_ne_F (ri_vn dX10_ball_20 rfl) dX10_ball_21 (by decide)) (ri_k (rk_s (Mc := mX10_becomeSkin) (conX10_becomeSkin _ K) (ra_r (rr_a (t := 4) (rr_f (rr_vn dX10_ball_24 rfl) gfX10_24 dX10_ball_25) (ri_vn dX10_ball_28 rfl) (by decide) rfl dX10_ball_29) (ra_i (ri_vn dX10_ball_30 rfl) (ra_0))) dX10_ball_31 cwX10_138 tw_559 ⟨rfl, rfl, Nat.le_of_ble_eq_true rfl⟩ (by decide) (by decide) (al_r (al_i al_0))) (Or.inl rfl)) dX10_ball_34 (by decide) (ri_k (rk_s (Mc := mX10_becomeWeight) (conX10_becomeWeight _ K) (ra_r (rr_a (t := 4) (rr_f (rr_vn dX10_ball_37 rfl) gfX10_24 dX10_ball_38) (ri_vn dX10_ball_41 rfl) (by decide) rfl dX10_ball_42) (ra_i (ri_vn dX10_ball_43 rfl) (ra_0))) dX10_ball_44 cwX10_142 tw_562 ⟨rfl, rfl, Nat.le_of_ble_eq_true rfl⟩ (by decide) (by decide) (al_r (al_i al_0))) (Or.inl rfl))) rfl dX10_ball_47)
theorem conX10_ball (l : Launch) (K : ol_K) : ol_Con l K yX10_ball mX10_ball fX10_ball := ol_con (M := mX10_ball) (by decide) rfl rfl (imX10_ball · K)
theorem dX1_send_0 : decode cX1_send 0 = .ok (.aload_n 0, 1) := by decide +kernel
theorem dX1_send_1 : decode cX1_send 1 = .ok (.aload_n 1, 1) := by decide +kernel
theorem dX1_send_2 : decode cX1_send 2 = .ok (.iload_n 2, 1) := by decide +kernel
theorem dX1_send_3 : decode cX1_send 3 = .ok (.iload_n 3, 1) := by decide +kernel
theorem dX1_send_4 : decode cX1_send 4 = .ok (.iload 4, 2) := by decide +kernel
theorem dX1_send_6 : decode cX1_send 6 = .ok (.aload 5, 2) := by decide +kernel
theorem dX1_send_8 : decode cX1_send 8 = .ok (.iload 7, 2) := by decide +kernel
theorem dX1_send_10 : decode cX1_send 10 = .ok (.invokevirtual 18, 3) := by decide +kernel
theorem dX1_send_13 : decode cX1_send 13 = .ok (.aload_n 0, 1) := by decide +kernel
theorem dX1_send_14 : decode cX1_send 14 = .ok (.aload_n 0, 1) := by decide +kernel
theorem dX1_send_15 : decode cX1_send 15 = .ok (.getfield 22, 3) := by decide +kernel
theorem dX1_send_18 : decode cX1_send 18 = .ok (.iconst (-1), 1) := by decide +kernel
theorem dX1_send_19 : decode cX1_send 19 = .ok (.if_icmp .ne 7, 3) := by decide +kernel
theorem dX1_send_22 : decode cX1_send 22 = .ok (.iconst 0, 1) := by decide +kernel
theorem dX1_send_23 : decode cX1_send 23 = .ok (.goto 25, 3) := by decide +kernel
theorem dX1_send_26 : decode cX1_send 26 = .ok (.aload_n 0, 1) := by decide +kernel
theorem dX1_send_27 : decode cX1_send 27 = .ok (.getfield 12, 3) := by decide +kernel
theorem dX1_send_30 : decode cX1_send 30 = .ok (.aload_n 0, 1) := by decide +kernel
theorem dX1_send_31 : decode cX1_send 31 = .ok (.getfield 22, 3) := by decide +kernel
theorem dX1_send_34 : decode cX1_send 34 = .ok (.aload_n 0, 1) := by decide +kernel
theorem dX1_send_35 : decode cX1_send 35 = .ok (.getfield 26, 3) := by decide +kernel
theorem dX1_send_38 : decode cX1_send 38 = .ok (.aload 5, 2) := by decide +kernel
theorem dX1_send_40 : decode cX1_send 40 = .ok (.getfield 29, 3) := by decide +kernel
theorem dX1_send_43 : decode cX1_send 43 = .ok (.iload 6, 2) := by decide +kernel
theorem dX1_send_45 : decode cX1_send 45 = .ok (.invokevirtual 34, 3) := by decide +kernel
theorem dX1_send_48 : decode cX1_send 48 = .ok (.putfield 38, 3) := by decide +kernel
theorem dX1_send_51 : decode cX1_send 51 = .ok (.return_, 1) := by decide +kernel
def bX1_send : ol_SE := es_seq (es_of (ea_cv 1 fX1_travel (ea_r (er_v 0) (ea_r (er_v 1) (ea_i (ei_v 2) (ea_i (ei_v 3) (ea_i (ei_v 4) (ea_r (er_v 5) (ea_i (ei_v 7) (ea_0)))))))))) (es_seq (es_pf 1 7 (er_v 0) (ei_if (ec_2 ol_eq (ei_f 1 1 (er_v 0)) (ei_c (-1))) (ei_c 0) (ei_of (ea_cv 6 fX6_knock (ea_r (er_f 1 0 (er_v 0)) (ea_i (ei_f 1 1 (er_v 0)) (ea_i (ei_f 1 2 (er_v 0)) (ea_i (ei_f 0 1 (er_v 5)) (ea_i (ei_v 6) (ea_0)))))))))) (es_retv))
def fX1_send : ol_FE := ol_fe 8 bX1_send
set_option maxRecDepth 20000 in
theorem imX1_send (x : ol_X) (K : ol_K) : IM_S x K mX1_send 0 0 bX1_send := rs_seq (p2 := 13) (rs_k (rk_v (Mc := mX1_travel) (conX1_travel _ K) (ra_r (rr_vn dX1_send_0 rfl) (ra_r (rr_vn dX1_send_1 rfl) (ra_i (ri_vn dX1_send_2 rfl) (ra_i (ri_vn dX1_send_3 rfl) (ra_i (ri_vi dX1_send_4) (ra_r (rr_vi dX1_send_6) (ra_i (ri_vi dX1_send_8) (ra_0)))))))) dX1_send_10 cwX1_18 tw_576 tw_577 (by decide) rfl rfl ⟨rfl, rfl, Nat.le_of_ble_eq_true rfl⟩ (by decide) (by decide) (al_r (al_r (al_i (al_i (al_i (al_r (al_i al_0))))))))) (rs_seq (p2 := 51) (rs_pf (rr_vn dX1_send_13 rfl) (ri_if (pT := 22) (pF := 26) (p3 := 48) (rc_2F (pF := 26) ol_j2_ne_F (ri_f (rr_vn dX1_send_14 rfl) gfX1_22 dX1_send_15) (ri_ic dX1_send_18 (by unfold ol_inR; omega)) dX1_send_19 (by decide)) (ri_ic dX1_send_22 (by unfold ol_inR; omega)) dX1_send_23 (by decide) (ri_k (rk_v (Mc := mX6_knock) (conX6_knock _ K) (ra_r (rr_f (rr_vn dX1_send_26 rfl) gfX1_12 dX1_send_27) (ra_i (ri_f (rr_vn dX1_send_30 rfl) gfX1_22 dX1_send_31) (ra_i (ri_f (rr_vn dX1_send_34 rfl) gfX1_26 dX1_send_35) (ra_i (ri_f (rr_vi dX1_send_38) gfX1_29 dX1_send_40) (ra_i (ri_vi dX1_send_43) (ra_0)))))) dX1_send_45 cwX1_34 tw_592 tw_593 (by decide) rfl rfl ⟨rfl, rfl, Nat.le_of_ble_eq_true rfl⟩ (by decide) (by decide) (al_r (al_i (al_i (al_i (al_i al_0)))))) (Or.inl rfl))) pfX1_38 rfl dX1_send_48) (rs_retv rfl dX1_send_51))
theorem conX1_send (l : Launch) (K : ol_K) : ol_Con l K yX1_send mX1_send fX1_send := ol_con (M := mX1_send) (by decide) rfl rfl (imX1_send · K)
theorem dX10_tried_0 : decode cX10_tried 0 = .ok (.iload_n 1, 1) := by decide +kernel
theorem dX10_tried_1 : decode cX10_tried 1 = .ok (.iload_n 2, 1) := by decide +kernel
theorem dX10_tried_2 : decode cX10_tried 2 = .ok (.iload_n 3, 1) := by decide +kernel
theorem dX10_tried_3 : decode cX10_tried 3 = .ok (.iload 4, 2) := by decide +kernel
theorem dX10_tried_5 : decode cX10_tried 5 = .ok (.invokestatic 151, 3) := by decide +kernel
theorem dX10_tried_8 : decode cX10_tried 8 = .ok (.ifCond .eq 6, 3) := by decide +kernel
theorem dX10_tried_11 : decode cX10_tried 11 = .ok (.ldc 165, 2) := by decide +kernel
theorem dX10_tried_13 : decode cX10_tried 13 = .ok (.ireturn, 1) := by decide +kernel
theorem dX10_tried_14 : decode cX10_tried 14 = .ok (.aload_n 0, 1) := by decide +kernel
theorem dX10_tried_15 : decode cX10_tried 15 = .ok (.getfield 53, 3) := by decide +kernel
theorem dX10_tried_18 : decode cX10_tried 18 = .ok (.aload_n 0, 1) := by decide +kernel
theorem dX10_tried_19 : decode cX10_tried 19 = .ok (.getfield 31, 3) := by decide +kernel
theorem dX10_tried_22 : decode cX10_tried 22 = .ok (.getfield 121, 3) := by decide +kernel
theorem dX10_tried_25 : decode cX10_tried 25 = .ok (.iload_n 1, 1) := by decide +kernel
theorem dX10_tried_26 : decode cX10_tried 26 = .ok (.iload_n 2, 1) := by decide +kernel
theorem dX10_tried_27 : decode cX10_tried 27 = .ok (.iload_n 3, 1) := by decide +kernel
theorem dX10_tried_28 : decode cX10_tried 28 = .ok (.aload_n 0, 1) := by decide +kernel
theorem dX10_tried_29 : decode cX10_tried 29 = .ok (.getfield 24, 3) := by decide +kernel
theorem dX10_tried_32 : decode cX10_tried 32 = .ok (.iload 4, 2) := by decide +kernel
theorem dX10_tried_34 : decode cX10_tried 34 = .ok (.aaload, 1) := by decide +kernel
theorem dX10_tried_35 : decode cX10_tried 35 = .ok (.iconst 0, 1) := by decide +kernel
theorem dX10_tried_36 : decode cX10_tried 36 = .ok (.invokevirtual 187, 3) := by decide +kernel
theorem dX10_tried_39 : decode cX10_tried 39 = .ok (.aload_n 0, 1) := by decide +kernel
theorem dX10_tried_40 : decode cX10_tried 40 = .ok (.getfield 53, 3) := by decide +kernel
theorem dX10_tried_43 : decode cX10_tried 43 = .ok (.getfield 166, 3) := by decide +kernel
theorem dX10_tried_46 : decode cX10_tried 46 = .ok (.ireturn, 1) := by decide +kernel
def bX10_tried : ol_SE := es_seq (es_if (ec_z ol_ne (ei_of (ea_cs fX10_noSuchShot (ea_i (ei_v 1) (ea_i (ei_v 2) (ea_i (ei_v 3) (ea_i (ei_v 4) (ea_0)))))))) (es_ret (ei_c (-1000000))) es_skip) (es_seq (es_of (ea_cv 1 fX1_travel (ea_r (er_f 10 8 (er_v 0)) (ea_r (er_f 2 0 (er_f 10 3 (er_v 0))) (ea_i (ei_v 1) (ea_i (ei_v 2) (ea_i (ei_v 3) (ea_r (er_a 104 (er_f 10 2 (er_v 0)) (ei_v 4)) (ea_i (ei_c 0) (ea_0)))))))))) (es_ret (ei_f 1 1 (er_f 10 8 (er_v 0)))))
def fX10_tried : ol_FE := ol_fe 5 bX10_tried
set_option maxRecDepth 20000 in
theorem imX10_tried (x : ol_X) (K : ol_K) : IM_S x K mX10_tried 0 0 bX10_tried := rs_seq (p2 := 14) (rs_if (pT := 11) (pF := 14) (pE := 14) (rc_zF (pF := 14) ol_j1_eq_F (ri_k (rk_s (Mc := mX10_noSuchShot) (conX10_noSuchShot _ K) (ra_i (ri_vn dX10_tried_0 rfl) (ra_i (ri_vn dX10_tried_1 rfl) (ra_i (ri_vn dX10_tried_2 rfl) (ra_i (ri_vi dX10_tried_3) (ra_0))))) dX10_tried_5 cwX10_151 tw_569 ⟨rfl, rfl, Nat.le_of_ble_eq_true rfl⟩ (by decide) (by decide) (al_i (al_i (al_i (al_i al_0))))) (Or.inr (Or.inl rfl))) dX10_tried_8 (by decide)) (rs_ret (ri_ldc dX10_tried_11 (by unfold ol_inR; omega) tw_615) rfl dX10_tried_13) rs_skip) (rs_seq (p2 := 39) (rs_k (rk_v (Mc := mX1_travel) (conX1_travel _ K) (ra_r (rr_f (rr_vn dX10_tried_14 rfl) gfX10_53 dX10_tried_15) (ra_r (rr_f (rr_f (rr_vn dX10_tried_18 rfl) gfX10_31 dX10_tried_19) gfX10_121 dX10_tried_22) (ra_i (ri_vn dX10_tried_25 rfl) (ra_i (ri_vn dX10_tried_26 rfl) (ra_i (ri_vn dX10_tried_27 rfl) (ra_r (rr_a (t := 4) (rr_f (rr_vn dX10_tried_28 rfl) gfX10_24 dX10_tried_29) (ri_vi dX10_tried_32) (by decide) rfl dX10_tried_34) (ra_i (ri_ic dX10_tried_35 (by unfold ol_inR; omega)) (ra_0)))))))) dX10_tried_36 cwX10_187 tw_576 tw_577 (by decide) rfl rfl ⟨rfl, rfl, Nat.le_of_ble_eq_true rfl⟩ (by decide) (by decide) (al_r (al_r (al_i (al_i (al_i (al_r (al_i al_0))))))))) (rs_ret (ri_f (rr_f (rr_vn dX10_tried_39 rfl) gfX10_53 dX10_tried_40) gfX10_166 dX10_tried_43) rfl dX10_tried_46))
theorem conX10_tried (l : Launch) (K : ol_K) : ol_Con l K yX10_tried mX10_tried fX10_tried := ol_con (M := mX10_tried) (by decide) rfl rfl (imX10_tried · K)
theorem dX10_fall_0 : decode cX10_fall 0 = .ok (.iload_n 1, 1) := by decide +kernel
theorem dX10_fall_1 : decode cX10_fall 1 = .ok (.iconst 0, 1) := by decide +kernel
theorem dX10_fall_2 : decode cX10_fall 2 = .ok (.sipush 389, 3) := by decide +kernel
theorem dX10_fall_5 : decode cX10_fall 5 = .ok (.invokestatic 98, 3) := by decide +kernel
theorem dX10_fall_8 : decode cX10_fall 8 = .ok (.ifCond .ne 14, 3) := by decide +kernel
theorem dX10_fall_11 : decode cX10_fall 11 = .ok (.iload_n 2, 1) := by decide +kernel
theorem dX10_fall_12 : decode cX10_fall 12 = .ok (.bipush (-40), 2) := by decide +kernel
theorem dX10_fall_14 : decode cX10_fall 14 = .ok (.bipush 40, 2) := by decide +kernel
theorem dX10_fall_16 : decode cX10_fall 16 = .ok (.invokestatic 98, 3) := by decide +kernel
theorem dX10_fall_19 : decode cX10_fall 19 = .ok (.ifCond .eq 5, 3) := by decide +kernel
theorem dX10_fall_22 : decode cX10_fall 22 = .ok (.iconst (-1), 1) := by decide +kernel
theorem dX10_fall_23 : decode cX10_fall 23 = .ok (.ireturn, 1) := by decide +kernel
theorem dX10_fall_24 : decode cX10_fall 24 = .ok (.iload_n 3, 1) := by decide +kernel
theorem dX10_fall_25 : decode cX10_fall 25 = .ok (.iconst 5, 1) := by decide +kernel
theorem dX10_fall_26 : decode cX10_fall 26 = .ok (.bipush 16, 2) := by decide +kernel
theorem dX10_fall_28 : decode cX10_fall 28 = .ok (.invokestatic 98, 3) := by decide +kernel
theorem dX10_fall_31 : decode cX10_fall 31 = .ok (.ifCond .ne 15, 3) := by decide +kernel
theorem dX10_fall_34 : decode cX10_fall 34 = .ok (.iload 4, 2) := by decide +kernel
theorem dX10_fall_36 : decode cX10_fall 36 = .ok (.iconst 0, 1) := by decide +kernel
theorem dX10_fall_37 : decode cX10_fall 37 = .ok (.sipush 1023, 3) := by decide +kernel
theorem dX10_fall_40 : decode cX10_fall 40 = .ok (.invokestatic 98, 3) := by decide +kernel
theorem dX10_fall_43 : decode cX10_fall 43 = .ok (.ifCond .eq 5, 3) := by decide +kernel
theorem dX10_fall_46 : decode cX10_fall 46 = .ok (.iconst (-1), 1) := by decide +kernel
theorem dX10_fall_47 : decode cX10_fall 47 = .ok (.ireturn, 1) := by decide +kernel
theorem dX10_fall_48 : decode cX10_fall 48 = .ok (.aload_n 0, 1) := by decide +kernel
theorem dX10_fall_49 : decode cX10_fall 49 = .ok (.getfield 59, 3) := by decide +kernel
theorem dX10_fall_52 : decode cX10_fall 52 = .ok (.iload_n 1, 1) := by decide +kernel
theorem dX10_fall_53 : decode cX10_fall 53 = .ok (.iload_n 2, 1) := by decide +kernel
theorem dX10_fall_54 : decode cX10_fall 54 = .ok (.iload_n 3, 1) := by decide +kernel
theorem dX10_fall_55 : decode cX10_fall 55 = .ok (.iload 4, 2) := by decide +kernel
theorem dX10_fall_57 : decode cX10_fall 57 = .ok (.invokevirtual 191, 3) := by decide +kernel
theorem dX10_fall_60 : decode cX10_fall 60 = .ok (.ireturn, 1) := by decide +kernel
def bX10_fall : ol_SE := es_seq (es_if (ec_or (ec_z ol_ne (ei_of (ea_cs fX10_outside (ea_i (ei_v 1) (ea_i (ei_c 0) (ea_i (ei_c 389) (ea_0))))))) (ec_z ol_ne (ei_of (ea_cs fX10_outside (ea_i (ei_v 2) (ea_i (ei_c (-40)) (ea_i (ei_c 40) (ea_0)))))))) (es_ret (ei_c (-1))) es_skip) (es_seq (es_if (ec_or (ec_z ol_ne (ei_of (ea_cs fX10_outside (ea_i (ei_v 3) (ea_i (ei_c 5) (ea_i (ei_c 16) (ea_0))))))) (ec_z ol_ne (ei_of (ea_cs fX10_outside (ea_i (ei_v 4) (ea_i (ei_c 0) (ea_i (ei_c 1023) (ea_0)))))))) (es_ret (ei_c (-1))) es_skip) (es_ret (ei_of (ea_cv 6 fX6_knock (ea_r (er_f 10 9 (er_v 0)) (ea_i (ei_v 1) (ea_i (ei_v 2) (ea_i (ei_v 3) (ea_i (ei_v 4) (ea_0))))))))))
def fX10_fall : ol_FE := ol_fe 5 bX10_fall
set_option maxRecDepth 20000 in
theorem imX10_fall (x : ol_X) (K : ol_K) : IM_S x K mX10_fall 0 0 bX10_fall := rs_seq (p2 := 24) (rs_if (pT := 22) (pF := 24) (pE := 24) (rc_or (p2 := 11) (pT := 22) (pF := 24) (rc_zT (pT := 22) ol_j1_ne_T (ri_k (rk_s (Mc := mX10_outside) (conX10_outside _ K) (ra_i (ri_vn dX10_fall_0 rfl) (ra_i (ri_ic dX10_fall_1 (by unfold ol_inR; omega)) (ra_i (ri_si dX10_fall_2 (by unfold ol_inR; omega) (by decide)) (ra_0)))) dX10_fall_5 cwX10_98 tw_417 ⟨rfl, rfl, Nat.le_of_ble_eq_true rfl⟩ (by decide) (by decide) (al_i (al_i (al_i al_0)))) (Or.inr (Or.inl rfl))) dX10_fall_8 (by decide)) (rc_zF (pF := 24) ol_j1_eq_F (ri_k (rk_s (Mc := mX10_outside) (conX10_outside _ K) (ra_i (ri_vn dX10_fall_11 rfl) (ra_i (ri_bi dX10_fall_12 (by unfold ol_inR; omega) (by decide)) (ra_i (ri_bi dX10_fall_14 (by unfold ol_inR; omega) (by decide)) (ra_0)))) dX10_fall_16 cwX10_98 tw_417 ⟨rfl, rfl, Nat.le_of_ble_eq_true rfl⟩ (by decide) (by decide) (al_i (al_i (al_i al_0)))) (Or.inr (Or.inl rfl))) dX10_fall_19 (by decide))) (rs_ret (ri_ic dX10_fall_22 (by unfold ol_inR; omega)) rfl dX10_fall_23) rs_skip) (rs_seq (p2 := 48) (rs_if (pT := 46) (pF := 48) (pE := 48) (rc_or (p2 := 34) (pT := 46) (pF := 48) (rc_zT (pT := 46) ol_j1_ne_T (ri_k (rk_s (Mc := mX10_outside) (conX10_outside _ K) (ra_i (ri_vn dX10_fall_24 rfl) (ra_i (ri_ic dX10_fall_25 (by unfold ol_inR; omega)) (ra_i (ri_bi dX10_fall_26 (by unfold ol_inR; omega) (by decide)) (ra_0)))) dX10_fall_28 cwX10_98 tw_417 ⟨rfl, rfl, Nat.le_of_ble_eq_true rfl⟩ (by decide) (by decide) (al_i (al_i (al_i al_0)))) (Or.inr (Or.inl rfl))) dX10_fall_31 (by decide)) (rc_zF (pF := 48) ol_j1_eq_F (ri_k (rk_s (Mc := mX10_outside) (conX10_outside _ K) (ra_i (ri_vi dX10_fall_34) (ra_i (ri_ic dX10_fall_36 (by unfold ol_inR; omega)) (ra_i (ri_si dX10_fall_37 (by unfold ol_inR; omega) (by decide)) (ra_0)))) dX10_fall_40 cwX10_98 tw_417 ⟨rfl, rfl, Nat.le_of_ble_eq_true rfl⟩ (by decide) (by decide) (al_i (al_i (al_i al_0)))) (Or.inr (Or.inl rfl))) dX10_fall_43 (by decide))) (rs_ret (ri_ic dX10_fall_46 (by unfold ol_inR; omega)) rfl dX10_fall_47) rs_skip) (rs_ret (ri_k (rk_v (Mc := mX6_knock) (conX6_knock _ K) (ra_r (rr_f (rr_vn dX10_fall_48 rfl) gfX10_59 dX10_fall_49) (ra_i (ri_vn dX10_fall_52 rfl) (ra_i (ri_vn dX10_fall_53 rfl) (ra_i (ri_vn dX10_fall_54 rfl) (ra_i (ri_vi dX10_fall_55) (ra_0)))))) dX10_fall_57 cwX10_191 tw_592 tw_593 (by decide) rfl rfl ⟨rfl, rfl, Nat.le_of_ble_eq_true rfl⟩ (by decide) (by decide) (al_r (al_i (al_i (al_i (al_i al_0)))))) (Or.inl rfl)) rfl dX10_fall_60))
theorem conX10_fall (l : Launch) (K : ol_K) : ol_Con l K yX10_fall mX10_fall fX10_fall := ol_con (M := mX10_fall) (by decide) rfl rfl (imX10_fall · K)
theorem dX3_reckon_0 : decode cX3_reckon 0 = .ok (.aload_n 0, 1) := by decide +kernel
theorem dX3_reckon_1 : decode cX3_reckon 1 = .ok (.iconst 0, 1) := by decide +kernel
theorem dX3_reckon_2 : decode cX3_reckon 2 = .ok (.putfield 19, 3) := by decide +kernel
theorem dX3_reckon_5 : decode cX3_reckon 5 = .ok (.aload_n 0, 1) := by decide +kernel
theorem dX3_reckon_6 : decode cX3_reckon 6 = .ok (.iconst 0, 1) := by decide +kernel
theorem dX3_reckon_7 : decode cX3_reckon 7 = .ok (.putfield 22, 3) := by decide +kernel
theorem dX3_reckon_10 : decode cX3_reckon 10 = .ok (.aload_n 0, 1) := by decide +kernel
theorem dX3_reckon_11 : decode cX3_reckon 11 = .ok (.bipush 10, 2) := by decide +kernel
theorem dX3_reckon_13 : decode cX3_reckon 13 = .ok (.putfield 25, 3) := by decide +kernel
theorem dX3_reckon_16 : decode cX3_reckon 16 = .ok (.aload_n 0, 1) := by decide +kernel
theorem dX3_reckon_17 : decode cX3_reckon 17 = .ok (.iconst 0, 1) := by decide +kernel
theorem dX3_reckon_18 : decode cX3_reckon 18 = .ok (.putfield 28, 3) := by decide +kernel
theorem dX3_reckon_21 : decode cX3_reckon 21 = .ok (.iconst 0, 1) := by decide +kernel
theorem dX3_reckon_22 : decode cX3_reckon 22 = .ok (.istore_n 1, 1) := by decide +kernel
theorem dX3_reckon_23 : decode cX3_reckon 23 = .ok (.iconst 0, 1) := by decide +kernel
theorem dX3_reckon_24 : decode cX3_reckon 24 = .ok (.istore_n 2, 1) := by decide +kernel
theorem dX3_reckon_25 : decode cX3_reckon 25 = .ok (.iload_n 2, 1) := by decide +kernel
theorem dX3_reckon_26 : decode cX3_reckon 26 = .ok (.bipush 9, 2) := by decide +kernel
theorem dX3_reckon_28 : decode cX3_reckon 28 = .ok (.if_icmp .ge 145, 3) := by decide +kernel
theorem dX3_reckon_31 : decode cX3_reckon 31 = .ok (.iload_n 1, 1) := by decide +kernel
theorem dX3_reckon_32 : decode cX3_reckon 32 = .ok (.aload_n 0, 1) := by decide +kernel
theorem dX3_reckon_33 : decode cX3_reckon 33 = .ok (.getfield 15, 3) := by decide +kernel
theorem dX3_reckon_36 : decode cX3_reckon 36 = .ok (.if_icmp .ge 137, 3) := by decide +kernel
theorem dX3_reckon_39 : decode cX3_reckon 39 = .ok (.aload_n 0, 1) := by decide +kernel
theorem dX3_reckon_40 : decode cX3_reckon 40 = .ok (.getfield 9, 3) := by decide +kernel
theorem dX3_reckon_43 : decode cX3_reckon 43 = .ok (.iload_n 1, 1) := by decide +kernel
theorem dX3_reckon_44 : decode cX3_reckon 44 = .ok (.iaload, 1) := by decide +kernel
theorem dX3_reckon_45 : decode cX3_reckon 45 = .ok (.bipush 10, 2) := by decide +kernel
theorem dX3_reckon_47 : decode cX3_reckon 47 = .ok (.if_icmp .ne 39, 3) := by decide +kernel
theorem dX3_reckon_50 : decode cX3_reckon 50 = .ok (.aload_n 0, 1) := by decide +kernel
theorem dX3_reckon_51 : decode cX3_reckon 51 = .ok (.dup, 1) := by decide +kernel
theorem dX3_reckon_52 : decode cX3_reckon 52 = .ok (.getfield 19, 3) := by decide +kernel
theorem dX3_reckon_55 : decode cX3_reckon 55 = .ok (.aload_n 0, 1) := by decide +kernel
theorem dX3_reckon_56 : decode cX3_reckon 56 = .ok (.iload_n 1, 1) := by decide +kernel
theorem dX3_reckon_57 : decode cX3_reckon 57 = .ok (.invokevirtual 32, 3) := by decide +kernel
theorem dX3_reckon_60 : decode cX3_reckon 60 = .ok (.aload_n 0, 1) := by decide +kernel
theorem dX3_reckon_61 : decode cX3_reckon 61 = .ok (.iload_n 1, 1) := by decide +kernel
theorem dX3_reckon_62 : decode cX3_reckon 62 = .ok (.iconst 1, 1) := by decide +kernel
theorem dX3_reckon_63 : decode cX3_reckon 63 = .ok (.iadd, 1) := by decide +kernel
theorem dX3_reckon_64 : decode cX3_reckon 64 = .ok (.invokevirtual 32, 3) := by decide +kernel
theorem dX3_reckon_67 : decode cX3_reckon 67 = .ok (.iadd, 1) := by decide +kernel
theorem dX3_reckon_68 : decode cX3_reckon 68 = .ok (.aload_n 0, 1) := by decide +kernel
theorem dX3_reckon_69 : decode cX3_reckon 69 = .ok (.iload_n 1, 1) := by decide +kernel
theorem dX3_reckon_70 : decode cX3_reckon 70 = .ok (.iconst 2, 1) := by decide +kernel
theorem dX3_reckon_71 : decode cX3_reckon 71 = .ok (.iadd, 1) := by decide +kernel
theorem dX3_reckon_72 : decode cX3_reckon 72 = .ok (.invokevirtual 32, 3) := by decide +kernel
theorem dX3_reckon_75 : decode cX3_reckon 75 = .ok (.iadd, 1) := by decide +kernel
theorem dX3_reckon_76 : decode cX3_reckon 76 = .ok (.iadd, 1) := by decide +kernel
theorem dX3_reckon_77 : decode cX3_reckon 77 = .ok (.putfield 19, 3) := by decide +kernel
theorem dX3_reckon_80 : decode cX3_reckon 80 = .ok (.iinc 1 1, 3) := by decide +kernel
theorem dX3_reckon_83 : decode cX3_reckon 83 = .ok (.goto 74, 3) := by decide +kernel
theorem dX3_reckon_86 : decode cX3_reckon 86 = .ok (.iload_n 1, 1) := by decide +kernel
theorem dX3_reckon_87 : decode cX3_reckon 87 = .ok (.iconst 1, 1) := by decide +kernel
theorem dX3_reckon_88 : decode cX3_reckon 88 = .ok (.iadd, 1) := by decide +kernel
theorem dX3_reckon_89 : decode cX3_reckon 89 = .ok (.aload_n 0, 1) := by decide +kernel
theorem dX3_reckon_90 : decode cX3_reckon 90 = .ok (.getfield 15, 3) := by decide +kernel
theorem dX3_reckon_93 : decode cX3_reckon 93 = .ok (.if_icmp .lt 17, 3) := by decide +kernel
theorem dX3_reckon_96 : decode cX3_reckon 96 = .ok (.aload_n 0, 1) := by decide +kernel
theorem dX3_reckon_97 : decode cX3_reckon 97 = .ok (.bipush 10, 2) := by decide +kernel
theorem dX3_reckon_99 : decode cX3_reckon 99 = .ok (.aload_n 0, 1) := by decide +kernel
theorem dX3_reckon_100 : decode cX3_reckon 100 = .ok (.getfield 9, 3) := by decide +kernel
theorem dX3_reckon_103 : decode cX3_reckon 103 = .ok (.iload_n 1, 1) := by decide +kernel
theorem dX3_reckon_104 : decode cX3_reckon 104 = .ok (.iaload, 1) := by decide +kernel
theorem dX3_reckon_105 : decode cX3_reckon 105 = .ok (.isub, 1) := by decide +kernel
theorem dX3_reckon_106 : decode cX3_reckon 106 = .ok (.putfield 25, 3) := by decide +kernel
theorem dX3_reckon_109 : decode cX3_reckon 109 = .ok (.return_, 1) := by decide +kernel
theorem dX3_reckon_110 : decode cX3_reckon 110 = .ok (.aload_n 0, 1) := by decide +kernel
theorem dX3_reckon_111 : decode cX3_reckon 111 = .ok (.getfield 9, 3) := by decide +kernel
theorem dX3_reckon_114 : decode cX3_reckon 114 = .ok (.iload_n 1, 1) := by decide +kernel
theorem dX3_reckon_115 : decode cX3_reckon 115 = .ok (.iaload, 1) := by decide +kernel
theorem dX3_reckon_116 : decode cX3_reckon 116 = .ok (.aload_n 0, 1) := by decide +kernel
theorem dX3_reckon_117 : decode cX3_reckon 117 = .ok (.getfield 9, 3) := by decide +kernel
theorem dX3_reckon_120 : decode cX3_reckon 120 = .ok (.iload_n 1, 1) := by decide +kernel
theorem dX3_reckon_121 : decode cX3_reckon 121 = .ok (.iconst 1, 1) := by decide +kernel
theorem dX3_reckon_122 : decode cX3_reckon 122 = .ok (.iadd, 1) := by decide +kernel
theorem dX3_reckon_123 : decode cX3_reckon 123 = .ok (.iaload, 1) := by decide +kernel
theorem dX3_reckon_124 : decode cX3_reckon 124 = .ok (.iadd, 1) := by decide +kernel
theorem dX3_reckon_125 : decode cX3_reckon 125 = .ok (.istore_n 3, 1) := by decide +kernel
theorem dX3_reckon_126 : decode cX3_reckon 126 = .ok (.aload_n 0, 1) := by decide +kernel
theorem dX3_reckon_127 : decode cX3_reckon 127 = .ok (.dup, 1) := by decide +kernel
theorem dX3_reckon_128 : decode cX3_reckon 128 = .ok (.getfield 19, 3) := by decide +kernel
theorem dX3_reckon_131 : decode cX3_reckon 131 = .ok (.iload_n 3, 1) := by decide +kernel
theorem dX3_reckon_132 : decode cX3_reckon 132 = .ok (.bipush 10, 2) := by decide +kernel
theorem dX3_reckon_134 : decode cX3_reckon 134 = .ok (.if_icmp .ne 15, 3) := by decide +kernel
theorem dX3_reckon_137 : decode cX3_reckon 137 = .ok (.iload_n 3, 1) := by decide +kernel
theorem dX3_reckon_138 : decode cX3_reckon 138 = .ok (.aload_n 0, 1) := by decide +kernel
theorem dX3_reckon_139 : decode cX3_reckon 139 = .ok (.iload_n 1, 1) := by decide +kernel
theorem dX3_reckon_140 : decode cX3_reckon 140 = .ok (.iconst 2, 1) := by decide +kernel
theorem dX3_reckon_141 : decode cX3_reckon 141 = .ok (.iadd, 1) := by decide +kernel
theorem dX3_reckon_142 : decode cX3_reckon 142 = .ok (.invokevirtual 32, 3) := by decide +kernel
theorem dX3_reckon_145 : decode cX3_reckon 145 = .ok (.iadd, 1) := by decide +kernel
theorem dX3_reckon_146 : decode cX3_reckon 146 = .ok (.goto 4, 3) := by decide +kernel
theorem dX3_reckon_149 : decode cX3_reckon 149 = .ok (.iload_n 3, 1) := by decide +kernel
theorem dX3_reckon_150 : decode cX3_reckon 150 = .ok (.iadd, 1) := by decide +kernel
theorem dX3_reckon_151 : decode cX3_reckon 151 = .ok (.putfield 19, 3) := by decide +kernel
theorem dX3_reckon_154 : decode cX3_reckon 154 = .ok (.iinc 1 2, 3) := by decide +kernel
theorem dX3_reckon_157 : decode cX3_reckon 157 = .ok (.aload_n 0, 1) := by decide +kernel
theorem dX3_reckon_158 : decode cX3_reckon 158 = .ok (.dup, 1) := by decide +kernel
theorem dX3_reckon_159 : decode cX3_reckon 159 = .ok (.getfield 22, 3) := by decide +kernel
theorem dX3_reckon_162 : decode cX3_reckon 162 = .ok (.iconst 1, 1) := by decide +kernel
theorem dX3_reckon_163 : decode cX3_reckon 163 = .ok (.iadd, 1) := by decide +kernel
theorem dX3_reckon_164 : decode cX3_reckon 164 = .ok (.putfield 22, 3) := by decide +kernel
theorem dX3_reckon_167 : decode cX3_reckon 167 = .ok (.iinc 2 1, 3) := by decide +kernel
theorem dX3_reckon_170 : decode cX3_reckon 170 = .ok (.goto (-145), 3) := by decide +kernel
theorem dX3_reckon_173 : decode cX3_reckon 173 = .ok (.aload_n 0, 1) := by decide +kernel
theorem dX3_reckon_174 : decode cX3_reckon 174 = .ok (.getfield 22, 3) := by decide +kernel
theorem dX3_reckon_177 : decode cX3_reckon 177 = .ok (.bipush 9, 2) := by decide +kernel
theorem dX3_reckon_179 : decode cX3_reckon 179 = .ok (.if_icmp .ne 8, 3) := by decide +kernel
theorem dX3_reckon_182 : decode cX3_reckon 182 = .ok (.aload_n 0, 1) := by decide +kernel
theorem dX3_reckon_183 : decode cX3_reckon 183 = .ok (.iload_n 1, 1) := by decide +kernel
theorem dX3_reckon_184 : decode cX3_reckon 184 = .ok (.invokevirtual 36, 3) := by decide +kernel
theorem dX3_reckon_187 : decode cX3_reckon 187 = .ok (.return_, 1) := by decide +kernel
def bX3_reckon : ol_SE := es_seq (es_pf 3 2 (er_v 0) (ei_c 0)) (es_seq (es_pf 3 3 (er_v 0) (ei_c 0)) (es_seq (es_pf 3 4 (er_v 0) (ei_c 10)) (es_seq (es_pz 3 5 (er_v 0) (ei_c 0)) (es_seq (es_set 1 (ei_c 0)) (es_seq (es_seq (es_set 2 (ei_c 0)) (es_wh (ec_and (ec_2 ol_lt (ei_v 2) (ei_c 9)) (ec_2 ol_lt (ei_v 1) (ei_f 3 1 (er_v 0)))) (es_seq (es_seq (es_if (ec_2 ol_eq (ei_a 100 (er_f 3 0 (er_v 0)) (ei_v 1)) (ei_c 10)) (es_seq (es_uf 3 2 (er_v 0) ol_add (ei_2 ol_add (ei_2 ol_add (ei_of (ea_cv 3 fX3_rolled (ea_r (er_v 0) (ea_i (ei_v 1) (ea_0))))) (ei_of (ea_cv 3 fX3_rolled (ea_r (er_v 0) (ea_i (ei_2 ol_add (ei_v 1) (ei_c 1)) (ea_0)))))) (ei_of (ea_cv 3 fX3_rolled (ea_r (er_v 0) (ea_i (ei_2 ol_add (ei_v 1) (ei_c 2)) (ea_0))))))) (es_inc 1 1)) (es_if (ec_2 ol_ge (ei_2 ol_add (ei_v 1) (ei_c 1)) (ei_f 3 1 (er_v 0))) (es_seq (es_pf 3 4 (er_v 0) (ei_2 ol_sub (ei_c 10) (ei_a 100 (er_f 3 0 (er_v 0)) (ei_v 1)))) (es_retv)) (es_seq (es_set 3 (ei_2 ol_add (ei_a 100 (er_f 3 0 (er_v 0)) (ei_v 1)) (ei_a 100 (er_f 3 0 (er_v 0)) (ei_2 ol_add (ei_v 1) (ei_c 1))))) (es_seq (es_uf 3 2 (er_v 0) ol_add (ei_if (ec_2 ol_eq (ei_v 3) (ei_c 10)) (ei_2 ol_add (ei_v 3) (ei_of (ea_cv 3 fX3_rolled (ea_r (er_v 0) (ea_i (ei_2 ol_add (ei_v 1) (ei_c 2)) (ea_0)))))) (ei_v 3))) (es_inc 1 2))))) (es_uf 3 3 (er_v 0) ol_add (ei_c 1))) (es_inc 2 1)))) (es_seq (es_if (ec_2 ol_eq (ei_f 3 3 (er_v 0)) (ei_c 9)) (es_of (ea_cv 3 fX3_reckonTenth (ea_r (er_v 0) (ea_i (ei_v 1) (ea_0))))) es_skip) (es_retv)))))))
def fX3_reckon : ol_FE := ol_fe 4 bX3_reckon
set_option maxRecDepth 20000 in
theorem imX3_reckon (x : ol_X) (K : ol_K) : IM_S x K mX3_reckon 0 0 bX3_reckon := rs_seq (p2 := 5) (rs_pf (rr_vn dX3_reckon_0 rfl) (ri_ic dX3_reckon_1 (by unfold ol_inR; omega)) pfX3_19 rfl dX3_reckon_2) (rs_seq (p2 := 10) (rs_pf (rr_vn dX3_reckon_5 rfl) (ri_ic dX3_reckon_6 (by unfold ol_inR; omega)) pfX3_22 rfl dX3_reckon_7) (rs_seq (p2 := 16) (rs_pf (rr_vn dX3_reckon_10 rfl) (ri_bi dX3_reckon_11 (by unfold ol_inR; omega) (by decide)) pfX3_25 rfl dX3_reckon_13) (rs_seq (p2 := 21) (rs_pz (rr_vn dX3_reckon_16 rfl) (ri_ic dX3_reckon_17 (by unfold ol_inR; omega)) pfX3_28 rfl dX3_reckon_18) (rs_seq (p2 := 23) (rs_setn (ri_ic dX3_reckon_21 (by unfold ol_inR; omega)) dX3_reckon_22 rfl (ol_ltn rfl)) (rs_seq (p2 := 173) (rs_seq (p2 := 25) (rs_setn (ri_ic dX3_reckon_23 (by unfold ol_inR; omega)) dX3_reckon_24 rfl (ol_ltn rfl)) (rs_wh (pH := 25) (pB := 39) (pE := 173) (pG := 170) (rc_and (p2 := 31) (pT := 39) (pF := 173) (rc_2F (pF := 173) ol_j2_ge_F (ri_vn dX3_reckon_25 rfl) (ri_bi dX3_reckon_26 (by unfold ol_inR; omega) (by decide)) dX3_reckon_28 (by decide)) (rc_2F (pF := 173) ol_j2_ge_F (ri_vn dX3_reckon_31 rfl) (ri_f (rr_vn dX3_reckon_32 rfl) gfX3_15 dX3_reckon_33) dX3_reckon_36 (by decide))) (rs_seq (p2 := 167) (rs_seq (p2 := 157) (rs_if (pT := 50) (pF := 86) (pE := 157) (rc_2F (pF := 86) ol_j2_ne_F (ri_a (rr_f (rr_vn dX3_reckon_39 rfl) gfX3_9 dX3_reckon_40) (ri_vn dX3_reckon_43 rfl) rfl dX3_reckon_44) (ri_bi dX3_reckon_45 (by unfold ol_inR; omega) (by decide)) dX3_reckon_47 (by decide)) (rs_goto (p3 := 157) (rs_seq (p2 := 80) (rs_uf ol_op_add (rr_vn dX3_reckon_50 rfl) dX3_reckon_51 dX3_reckon_52 (ri_2 ol_op_add (ri_2 ol_op_add (ri_k (rk_v (Mc := mX3_rolled) (conX3_rolled _ K) (ra_r (rr_vn dX3_reckon_55 rfl) (ra_i (ri_vn dX3_reckon_56 rfl) (ra_0))) dX3_reckon_57 cwX3_32 tw_636 tw_11 (by decide) rfl rfl ⟨rfl, rfl, Nat.le_of_ble_eq_true rfl⟩ (by decide) (by decide) (al_r (al_i al_0))) (Or.inl rfl)) (ri_k (rk_v (Mc := mX3_rolled) (conX3_rolled _ K) (ra_r (rr_vn dX3_reckon_60 rfl) (ra_i (ri_2 ol_op_add (ri_vn dX3_reckon_61 rfl) (ri_ic dX3_reckon_62 (by unfold ol_inR; omega)) dX3_reckon_63) (ra_0))) dX3_reckon_64 cwX3_32 tw_636 tw_11 (by decide) rfl rfl ⟨rfl, rfl, Nat.le_of_ble_eq_true rfl⟩ (by decide) (by decide) (al_r (al_i al_0))) (Or.inl rfl)) dX3_reckon_67) (ri_k (rk_v (Mc := mX3_rolled) (conX3_rolled _ K) (ra_r (rr_vn dX3_reckon_68 rfl) (ra_i (ri_2 ol_op_add (ri_vn dX3_reckon_69 rfl) (ri_ic dX3_reckon_70 (by unfold ol_inR; omega)) dX3_reckon_71) (ra_0))) dX3_reckon_72 cwX3_32 tw_636 tw_11 (by decide) rfl rfl ⟨rfl, rfl, Nat.le_of_ble_eq_true rfl⟩ (by decide) (by decide) (al_r (al_i al_0))) (Or.inl rfl)) dX3_reckon_75) dX3_reckon_76 gfX3_19 pfX3_19 rfl dX3_reckon_77) (rs_inc dX3_reckon_80 (ol_ltn rfl))) dX3_reckon_83 (by decide)) (rs_if (pT := 96) (pF := 110) (pE := 157) (rc_2F (pF := 110) ol_j2_lt_F (ri_2 ol_op_add (ri_vn dX3_reckon_86 rfl) (ri_ic dX3_reckon_87 (by unfold ol_inR; omega)) dX3_reckon_88) (ri_f (rr_vn dX3_reckon_89 rfl) gfX3_15 dX3_reckon_90) dX3_reckon_93 (by decide)) (rs_seq (p2 := 109) (rs_pf (rr_vn dX3_reckon_96 rfl) (ri_2 ol_op_sub (ri_bi dX3_reckon_97 (by unfold ol_inR; omega) (by decide)) (ri_a (rr_f (rr_vn dX3_reckon_99 rfl) gfX3_9 dX3_reckon_100) (ri_vn dX3_reckon_103 rfl) rfl dX3_reckon_104) dX3_reckon_105) pfX3_25 rfl dX3_reckon_106) (rs_retv rfl dX3_reckon_109)) (rs_seq (p2 := 126) (rs_setn (ri_2 ol_op_add (ri_a (rr_f (rr_vn dX3_reckon_110 rfl) gfX3_9 dX3_reckon_111) (ri_vn dX3_reckon_114 rfl) rfl dX3_reckon_115) (ri_a (rr_f (rr_vn dX3_reckon_116 rfl) gfX3_9 dX3_reckon_117) (ri_2 ol_op_add (ri_vn dX3_reckon_120 rfl) (ri_ic dX3_reckon_121 (by unfold ol_inR; omega)) dX3_reckon_122) rfl dX3_reckon_123) dX3_reckon_124) dX3_reckon_125 rfl (ol_ltn rfl)) (rs_seq (p2 := 154) (rs_uf ol_op_add (rr_vn dX3_reckon_126 rfl) dX3_reckon_127 dX3_reckon_128 (ri_if (pT := 137) (pF := 149) (p3 := 150) (rc_2F (pF := 149) ol_j2_ne_F (ri_vn dX3_reckon_131 rfl) (ri_bi dX3_reckon_132 (by unfold ol_inR; omega) (by decide)) dX3_reckon_134 (by decide)) (ri_2 ol_op_add (ri_vn dX3_reckon_137 rfl) (ri_k (rk_v (Mc := mX3_rolled) (conX3_rolled _ K) (ra_r (rr_vn dX3_reckon_138 rfl) (ra_i (ri_2 ol_op_add (ri_vn dX3_reckon_139 rfl) (ri_ic dX3_reckon_140 (by unfold ol_inR; omega)) dX3_reckon_141) (ra_0))) dX3_reckon_142 cwX3_32 tw_636 tw_11 (by decide) rfl rfl ⟨rfl, rfl, Nat.le_of_ble_eq_true rfl⟩ (by decide) (by decide) (al_r (al_i al_0))) (Or.inl rfl)) dX3_reckon_145) dX3_reckon_146 (by decide) (ri_vn dX3_reckon_149 rfl)) dX3_reckon_150 gfX3_19 pfX3_19 rfl dX3_reckon_151) (rs_inc dX3_reckon_154 (ol_ltn rfl)))))) (rs_uf ol_op_add (rr_vn dX3_reckon_157 rfl) dX3_reckon_158 dX3_reckon_159 (ri_ic dX3_reckon_162 (by unfold ol_inR; omega)) dX3_reckon_163 gfX3_22 pfX3_22 rfl dX3_reckon_164)) (rs_inc dX3_reckon_167 (ol_ltn rfl))) dX3_reckon_170 (by decide))) (rs_seq (p2 := 187) (rs_if (pT := 182) (pF := 187) (pE := 187) (rc_2F (pF := 187) ol_j2_ne_F (ri_f (rr_vn dX3_reckon_173 rfl) gfX3_22 dX3_reckon_174) (ri_bi dX3_reckon_177 (by unfold ol_inR; omega) (by decide)) dX3_reckon_179 (by decide)) (rs_k (rk_v (Mc := mX3_reckonTenth) (conX3_reckonTenth _ K) (ra_r (rr_vn dX3_reckon_182 rfl) (ra_i (ri_vn dX3_reckon_183 rfl) (ra_0))) dX3_reckon_184 cwX3_36 tw_640 tw_12 (by decide) rfl rfl ⟨rfl, rfl, Nat.le_of_ble_eq_true rfl⟩ (by decide) (by decide) (al_r (al_i al_0)))) rs_skip) (rs_retv rfl dX3_reckon_187)))))))
theorem conX3_reckon (l : Launch) (K : ol_K) : ol_Con l K yX3_reckon mX3_reckon fX3_reckon := ol_con (M := mX3_reckon) (by decide) rfl rfl (imX3_reckon · K)
theorem dX10_thrower_0 : decode cX10_thrower 0 = .ok (.iload_n 1, 1) := by decide +kernel
theorem dX10_thrower_1 : decode cX10_thrower 1 = .ok (.iload_n 2, 1) := by decide +kernel
theorem dX10_thrower_2 : decode cX10_thrower 2 = .ok (.iload_n 3, 1) := by decide +kernel
theorem dX10_thrower_3 : decode cX10_thrower 3 = .ok (.iload 4, 2) := by decide +kernel
theorem dX10_thrower_5 : decode cX10_thrower 5 = .ok (.invokestatic 151, 3) := by decide +kernel
theorem dX10_thrower_8 : decode cX10_thrower 8 = .ok (.ifCond .ne 13, 3) := by decide +kernel
theorem dX10_thrower_11 : decode cX10_thrower 11 = .ok (.iload 5, 2) := by decide +kernel
theorem dX10_thrower_13 : decode cX10_thrower 13 = .ok (.iconst 0, 1) := by decide +kernel
theorem dX10_thrower_14 : decode cX10_thrower 14 = .ok (.iconst 2, 1) := by decide +kernel
theorem dX10_thrower_15 : decode cX10_thrower 15 = .ok (.invokestatic 98, 3) := by decide +kernel
theorem dX10_thrower_18 : decode cX10_thrower 18 = .ok (.ifCond .eq 5, 3) := by decide +kernel
theorem dX10_thrower_21 : decode cX10_thrower 21 = .ok (.iconst (-1), 1) := by decide +kernel
theorem dX10_thrower_22 : decode cX10_thrower 22 = .ok (.ireturn, 1) := by decide +kernel
theorem dX10_thrower_23 : decode cX10_thrower 23 = .ok (.aload_n 0, 1) := by decide +kernel
theorem dX10_thrower_24 : decode cX10_thrower 24 = .ok (.getfield 31, 3) := by decide +kernel
theorem dX10_thrower_27 : decode cX10_thrower 27 = .ok (.getfield 238, 3) := by decide +kernel
theorem dX10_thrower_30 : decode cX10_thrower 30 = .ok (.iconst 4, 1) := by decide +kernel
theorem dX10_thrower_31 : decode cX10_thrower 31 = .ok (.if_icmp .lt 6, 3) := by decide +kernel
theorem dX10_thrower_34 : decode cX10_thrower 34 = .ok (.bipush (-3), 2) := by decide +kernel
theorem dX10_thrower_36 : decode cX10_thrower 36 = .ok (.ireturn, 1) := by decide +kernel
theorem dX10_thrower_37 : decode cX10_thrower 37 = .ok (.aload_n 0, 1) := by decide +kernel
theorem dX10_thrower_38 : decode cX10_thrower 38 = .ok (.getfield 31, 3) := by decide +kernel
theorem dX10_thrower_41 : decode cX10_thrower 41 = .ok (.getfield 239, 3) := by decide +kernel
theorem dX10_thrower_44 : decode cX10_thrower 44 = .ok (.aload_n 0, 1) := by decide +kernel
theorem dX10_thrower_45 : decode cX10_thrower 45 = .ok (.getfield 31, 3) := by decide +kernel
theorem dX10_thrower_48 : decode cX10_thrower 48 = .ok (.getfield 238, 3) := by decide +kernel
theorem dX10_thrower_51 : decode cX10_thrower 51 = .ok (.aaload, 1) := by decide +kernel
theorem dX10_thrower_52 : decode cX10_thrower 52 = .ok (.iload_n 1, 1) := by decide +kernel
theorem dX10_thrower_53 : decode cX10_thrower 53 = .ok (.iload_n 2, 1) := by decide +kernel
theorem dX10_thrower_54 : decode cX10_thrower 54 = .ok (.iload_n 3, 1) := by decide +kernel
theorem dX10_thrower_55 : decode cX10_thrower 55 = .ok (.iload 4, 2) := by decide +kernel
theorem dX10_thrower_57 : decode cX10_thrower 57 = .ok (.iload 5, 2) := by decide +kernel
theorem dX10_thrower_59 : decode cX10_thrower 59 = .ok (.invokevirtual 243, 3) := by decide +kernel
theorem dX10_thrower_62 : decode cX10_thrower 62 = .ok (.aload_n 0, 1) := by decide +kernel
theorem dX10_thrower_63 : decode cX10_thrower 63 = .ok (.getfield 31, 3) := by decide +kernel
theorem dX10_thrower_66 : decode cX10_thrower 66 = .ok (.dup, 1) := by decide +kernel
theorem dX10_thrower_67 : decode cX10_thrower 67 = .ok (.getfield 238, 3) := by decide +kernel
theorem dX10_thrower_70 : decode cX10_thrower 70 = .ok (.iconst 1, 1) := by decide +kernel
theorem dX10_thrower_71 : decode cX10_thrower 71 = .ok (.iadd, 1) := by decide +kernel
theorem dX10_thrower_72 : decode cX10_thrower 72 = .ok (.putfield 238, 3) := by decide +kernel
theorem dX10_thrower_75 : decode cX10_thrower 75 = .ok (.aload_n 0, 1) := by decide +kernel
theorem dX10_thrower_76 : decode cX10_thrower 76 = .ok (.getfield 31, 3) := by decide +kernel
theorem dX10_thrower_79 : decode cX10_thrower 79 = .ok (.getfield 238, 3) := by decide +kernel
theorem dX10_thrower_82 : decode cX10_thrower 82 = .ok (.iconst 1, 1) := by decide +kernel
theorem dX10_thrower_83 : decode cX10_thrower 83 = .ok (.isub, 1) := by decide +kernel
theorem dX10_thrower_84 : decode cX10_thrower 84 = .ok (.ireturn, 1) := by decide +kernel
def bX10_thrower : ol_SE := es_seq (es_if (ec_or (ec_z ol_ne (ei_of (ea_cs fX10_noSuchShot (ea_i (ei_v 1) (ea_i (ei_v 2) (ea_i (ei_v 3) (ea_i (ei_v 4) (ea_0)))))))) (ec_z ol_ne (ei_of (ea_cs fX10_outside (ea_i (ei_v 5) (ea_i (ei_c 0) (ea_i (ei_c 2) (ea_0)))))))) (es_ret (ei_c (-1))) es_skip) (es_seq (es_if (ec_2 ol_ge (ei_f 2 2 (er_f 10 3 (er_v 0))) (ei_c 4)) (es_ret (ei_c (-3))) es_skip) (es_seq (es_of (ea_cv 9 fX9_begin (ea_r (er_a 106 (er_f 2 1 (er_f 10 3 (er_v 0))) (ei_f 2 2 (er_f 10 3 (er_v 0)))) (ea_i (ei_v 1) (ea_i (ei_v 2) (ea_i (ei_v 3) (ea_i (ei_v 4) (ea_i (ei_v 5) (ea_0))))))))) (es_seq (es_uf 2 2 (er_f 10 3 (er_v 0)) ol_add (ei_c 1)) (es_ret (ei_2 ol_sub (ei_f 2 2 (er_f 10 3 (er_v 0))) (ei_c 1))))))
def fX10_thrower : ol_FE := ol_fe 6 bX10_thrower
set_option maxRecDepth 20000 in
theorem imX10_thrower (x : ol_X) (K : ol_K) : IM_S x K mX10_thrower 0 0 bX10_thrower := rs_seq (p2 := 23) (rs_if (pT := 21) (pF := 23) (pE := 23) (rc_or (p2 := 11) (pT := 21) (pF := 23) (rc_zT (pT := 21) ol_j1_ne_T (ri_k (rk_s (Mc := mX10_noSuchShot) (conX10_noSuchShot _ K) (ra_i (ri_vn dX10_thrower_0 rfl) (ra_i (ri_vn dX10_thrower_1 rfl) (ra_i (ri_vn dX10_thrower_2 rfl) (ra_i (ri_vi dX10_thrower_3) (ra_0))))) dX10_thrower_5 cwX10_151 tw_569 ⟨rfl, rfl, Nat.le_of_ble_eq_true rfl⟩ (by decide) (by decide) (al_i (al_i (al_i (al_i al_0))))) (Or.inr (Or.inl rfl))) dX10_thrower_8 (by decide)) (rc_zF (pF := 23) ol_j1_eq_F (ri_k (rk_s (Mc := mX10_outside) (conX10_outside _ K) (ra_i (ri_vi dX10_thrower_11) (ra_i (ri_ic dX10_thrower_13 (by unfold ol_inR; omega)) (ra_i (ri_ic dX10_thrower_14 (by unfold ol_inR; omega)) (ra_0)))) dX10_thrower_15 cwX10_98 tw_417 ⟨rfl, rfl, Nat.le_of_ble_eq_true rfl⟩ (by decide) (by decide) (al_i (al_i (al_i al_0)))) (Or.inr (Or.inl rfl))) dX10_thrower_18 (by decide))) (rs_ret (ri_ic dX10_thrower_21 (by unfold ol_inR; omega)) rfl dX10_thrower_22) rs_skip) (rs_seq (p2 := 37) (rs_if (pT := 34) (pF := 37) (pE := 37) (rc_2F (pF := 37) ol_j2_lt_F (ri_f (rr_f (rr_vn dX10_thrower_23 rfl) gfX10_31 dX10_thrower_24) gfX10_238 dX10_thrower_27) (ri_ic dX10_thrower_30 (by unfold ol_inR; omega)) dX10_thrower_31 (by decide)) (rs_ret (ri_bi dX10_thrower_34 (by unfold ol_inR; omega) (by decide)) rfl dX10_thrower_36) rs_skip) (rs_seq (p2 := 62) (rs_k (rk_v (Mc := mX9_begin) (conX9_begin _ K) (ra_r (rr_a (t := 6) (rr_f (rr_f (rr_vn dX10_thrower_37 rfl) gfX10_31 dX10_thrower_38) gfX10_239 dX10_thrower_41) (ri_f (rr_f (rr_vn dX10_thrower_44 rfl) gfX10_31 dX10_thrower_45) gfX10_238 dX10_thrower_48) (by decide) rfl dX10_thrower_51) (ra_i (ri_vn dX10_thrower_52 rfl) (ra_i (ri_vn dX10_thrower_53 rfl) (ra_i (ri_vn dX10_thrower_54 rfl) (ra_i (ri_vi dX10_thrower_55) (ra_i (ri_vi dX10_thrower_57) (ra_0))))))) dX10_thrower_59 cwX10_243 tw_699 tw_700 (by decide) rfl rfl ⟨rfl, rfl, Nat.le_of_ble_eq_true rfl⟩ (by decide) (by decide) (al_r (al_i (al_i (al_i (al_i (al_i al_0)))))))) (rs_seq (p2 := 75) (rs_uf ol_op_add (rr_f (rr_vn dX10_thrower_62 rfl) gfX10_31 dX10_thrower_63) dX10_thrower_66 dX10_thrower_67 (ri_ic dX10_thrower_70 (by unfold ol_inR; omega)) dX10_thrower_71 gfX10_238 pfX10_238 rfl dX10_thrower_72) (rs_ret (ri_2 ol_op_sub (ri_f (rr_f (rr_vn dX10_thrower_75 rfl) gfX10_31 dX10_thrower_76) gfX10_238 dX10_thrower_79) (ri_ic dX10_thrower_82 (by unfold ol_inR; omega)) dX10_thrower_83) rfl dX10_thrower_84))))
theorem conX10_thrower (l : Launch) (K : ol_K) : ol_Con l K yX10_thrower mX10_thrower fX10_thrower := ol_con (M := mX10_thrower) (by decide) rfl rfl (imX10_thrower · K)
theorem dX9_learnFrom_0 : decode cX9_learnFrom 0 = .ok (.iconst 0, 1) := by decide +kernel
theorem dX9_learnFrom_1 : decode cX9_learnFrom 1 = .ok (.istore_n 2, 1) := by decide +kernel
theorem dX9_learnFrom_2 : decode cX9_learnFrom 2 = .ok (.iconst 0, 1) := by decide +kernel
theorem dX9_learnFrom_3 : decode cX9_learnFrom 3 = .ok (.istore_n 3, 1) := by decide +kernel
theorem dX9_learnFrom_4 : decode cX9_learnFrom 4 = .ok (.aload_n 1, 1) := by decide +kernel
theorem dX9_learnFrom_5 : decode cX9_learnFrom 5 = .ok (.getfield 34, 3) := by decide +kernel
theorem dX9_learnFrom_8 : decode cX9_learnFrom 8 = .ok (.iconst (-1), 1) := by decide +kernel
theorem dX9_learnFrom_9 : decode cX9_learnFrom 9 = .ok (.if_icmp .eq 61, 3) := by decide +kernel
theorem dX9_learnFrom_12 : decode cX9_learnFrom 12 = .ok (.aload_n 1, 1) := by decide +kernel
theorem dX9_learnFrom_13 : decode cX9_learnFrom 13 = .ok (.getfield 39, 3) := by decide +kernel
theorem dX9_learnFrom_16 : decode cX9_learnFrom 16 = .ok (.ifCond .eq 54, 3) := by decide +kernel
theorem dX9_learnFrom_19 : decode cX9_learnFrom 19 = .ok (.aload_n 1, 1) := by decide +kernel
theorem dX9_learnFrom_20 : decode cX9_learnFrom 20 = .ok (.getfield 34, 3) := by decide +kernel
theorem dX9_learnFrom_23 : decode cX9_learnFrom 23 = .ok (.sipush 195, 3) := by decide +kernel
theorem dX9_learnFrom_26 : decode cX9_learnFrom 26 = .ok (.isub, 1) := by decide +kernel
theorem dX9_learnFrom_27 : decode cX9_learnFrom 27 = .ok (.istore 4, 2) := by decide +kernel
theorem dX9_learnFrom_29 : decode cX9_learnFrom 29 = .ok (.aload_n 1, 1) := by decide +kernel
theorem dX9_learnFrom_30 : decode cX9_learnFrom 30 = .ok (.getfield 39, 3) := by decide +kernel
theorem dX9_learnFrom_33 : decode cX9_learnFrom 33 = .ok (.ifCond .le 8, 3) := by decide +kernel
theorem dX9_learnFrom_36 : decode cX9_learnFrom 36 = .ok (.iload 4, 2) := by decide +kernel
theorem dX9_learnFrom_38 : decode cX9_learnFrom 38 = .ok (.goto 6, 3) := by decide +kernel
theorem dX9_learnFrom_41 : decode cX9_learnFrom 41 = .ok (.iload 4, 2) := by decide +kernel
theorem dX9_learnFrom_43 : decode cX9_learnFrom 43 = .ok (.ineg, 1) := by decide +kernel
theorem dX9_learnFrom_44 : decode cX9_learnFrom 44 = .ok (.istore 5, 2) := by decide +kernel
theorem dX9_learnFrom_46 : decode cX9_learnFrom 46 = .ok (.iload 5, 2) := by decide +kernel
theorem dX9_learnFrom_48 : decode cX9_learnFrom 48 = .ok (.ifCond .lt 7, 3) := by decide +kernel
theorem dX9_learnFrom_51 : decode cX9_learnFrom 51 = .ok (.iconst 1, 1) := by decide +kernel
theorem dX9_learnFrom_52 : decode cX9_learnFrom 52 = .ok (.goto 4, 3) := by decide +kernel
theorem dX9_learnFrom_55 : decode cX9_learnFrom 55 = .ok (.iconst 0, 1) := by decide +kernel
theorem dX9_learnFrom_56 : decode cX9_learnFrom 56 = .ok (.istore_n 2, 1) := by decide +kernel
theorem dX9_learnFrom_57 : decode cX9_learnFrom 57 = .ok (.iload 5, 2) := by decide +kernel
theorem dX9_learnFrom_59 : decode cX9_learnFrom 59 = .ok (.bipush (-35), 2) := by decide +kernel
theorem dX9_learnFrom_61 : decode cX9_learnFrom 61 = .ok (.if_icmp .gt 7, 3) := by decide +kernel
theorem dX9_learnFrom_64 : decode cX9_learnFrom 64 = .ok (.iconst 1, 1) := by decide +kernel
theorem dX9_learnFrom_65 : decode cX9_learnFrom 65 = .ok (.goto 4, 3) := by decide +kernel
theorem dX9_learnFrom_68 : decode cX9_learnFrom 68 = .ok (.iconst 0, 1) := by decide +kernel
theorem dX9_learnFrom_69 : decode cX9_learnFrom 69 = .ok (.istore_n 3, 1) := by decide +kernel
theorem dX9_learnFrom_70 : decode cX9_learnFrom 70 = .ok (.aload_n 0, 1) := by decide +kernel
theorem dX9_learnFrom_71 : decode cX9_learnFrom 71 = .ok (.iload_n 2, 1) := by decide +kernel
theorem dX9_learnFrom_72 : decode cX9_learnFrom 72 = .ok (.ifCond .ne 7, 3) := by decide +kernel
theorem dX9_learnFrom_75 : decode cX9_learnFrom 75 = .ok (.iload_n 3, 1) := by decide +kernel
theorem dX9_learnFrom_76 : decode cX9_learnFrom 76 = .ok (.ifCond .eq 12, 3) := by decide +kernel
theorem dX9_learnFrom_79 : decode cX9_learnFrom 79 = .ok (.aload_n 0, 1) := by decide +kernel
theorem dX9_learnFrom_80 : decode cX9_learnFrom 80 = .ok (.getfield 27, 3) := by decide +kernel
theorem dX9_learnFrom_83 : decode cX9_learnFrom 83 = .ok (.iconst 1, 1) := by decide +kernel
theorem dX9_learnFrom_84 : decode cX9_learnFrom 84 = .ok (.iadd, 1) := by decide +kernel
theorem dX9_learnFrom_85 : decode cX9_learnFrom 85 = .ok (.goto 4, 3) := by decide +kernel
theorem dX9_learnFrom_88 : decode cX9_learnFrom 88 = .ok (.iconst 0, 1) := by decide +kernel
theorem dX9_learnFrom_89 : decode cX9_learnFrom 89 = .ok (.putfield 27, 3) := by decide +kernel
theorem dX9_learnFrom_92 : decode cX9_learnFrom 92 = .ok (.aload_n 0, 1) := by decide +kernel
theorem dX9_learnFrom_93 : decode cX9_learnFrom 93 = .ok (.getfield 24, 3) := by decide +kernel
theorem dX9_learnFrom_96 : decode cX9_learnFrom 96 = .ok (.iconst 1, 1) := by decide +kernel
theorem dX9_learnFrom_97 : decode cX9_learnFrom 97 = .ok (.if_icmp .ne 12, 3) := by decide +kernel
theorem dX9_learnFrom_100 : decode cX9_learnFrom 100 = .ok (.aload_n 0, 1) := by decide +kernel
theorem dX9_learnFrom_101 : decode cX9_learnFrom 101 = .ok (.iload_n 2, 1) := by decide +kernel
theorem dX9_learnFrom_102 : decode cX9_learnFrom 102 = .ok (.iload_n 3, 1) := by decide +kernel
theorem dX9_learnFrom_103 : decode cX9_learnFrom 103 = .ok (.invokevirtual 42, 3) := by decide +kernel
theorem dX9_learnFrom_106 : decode cX9_learnFrom 106 = .ok (.goto 46, 3) := by decide +kernel
theorem dX9_learnFrom_109 : decode cX9_learnFrom 109 = .ok (.aload_n 0, 1) := by decide +kernel
theorem dX9_learnFrom_110 : decode cX9_learnFrom 110 = .ok (.getfield 24, 3) := by decide +kernel
theorem dX9_learnFrom_113 : decode cX9_learnFrom 113 = .ok (.iconst 2, 1) := by decide +kernel
theorem dX9_learnFrom_114 : decode cX9_learnFrom 114 = .ok (.if_icmp .ne 38, 3) := by decide +kernel
theorem dX9_learnFrom_117 : decode cX9_learnFrom 117 = .ok (.aload_n 0, 1) := by decide +kernel
theorem dX9_learnFrom_118 : decode cX9_learnFrom 118 = .ok (.getfield 27, 3) := by decide +kernel
theorem dX9_learnFrom_121 : decode cX9_learnFrom 121 = .ok (.iconst 2, 1) := by decide +kernel
theorem dX9_learnFrom_122 : decode cX9_learnFrom 122 = .ok (.if_icmp .lt 30, 3) := by decide +kernel
theorem dX9_learnFrom_125 : decode cX9_learnFrom 125 = .ok (.aload_n 0, 1) := by decide +kernel
theorem dX9_learnFrom_126 : decode cX9_learnFrom 126 = .ok (.aload_n 0, 1) := by decide +kernel
theorem dX9_learnFrom_127 : decode cX9_learnFrom 127 = .ok (.getfield 21, 3) := by decide +kernel
theorem dX9_learnFrom_130 : decode cX9_learnFrom 130 = .ok (.iconst 5, 1) := by decide +kernel
theorem dX9_learnFrom_131 : decode cX9_learnFrom 131 = .ok (.if_icmp .lt 7, 3) := by decide +kernel
theorem dX9_learnFrom_134 : decode cX9_learnFrom 134 = .ok (.iconst 0, 1) := by decide +kernel
theorem dX9_learnFrom_135 : decode cX9_learnFrom 135 = .ok (.goto 9, 3) := by decide +kernel
theorem dX9_learnFrom_138 : decode cX9_learnFrom 138 = .ok (.aload_n 0, 1) := by decide +kernel
theorem dX9_learnFrom_139 : decode cX9_learnFrom 139 = .ok (.getfield 21, 3) := by decide +kernel
theorem dX9_learnFrom_142 : decode cX9_learnFrom 142 = .ok (.iconst 1, 1) := by decide +kernel
theorem dX9_learnFrom_143 : decode cX9_learnFrom 143 = .ok (.iadd, 1) := by decide +kernel
theorem dX9_learnFrom_144 : decode cX9_learnFrom 144 = .ok (.putfield 21, 3) := by decide +kernel
theorem dX9_learnFrom_147 : decode cX9_learnFrom 147 = .ok (.aload_n 0, 1) := by decide +kernel
theorem dX9_learnFrom_148 : decode cX9_learnFrom 148 = .ok (.iconst 0, 1) := by decide +kernel
theorem dX9_learnFrom_149 : decode cX9_learnFrom 149 = .ok (.putfield 27, 3) := by decide +kernel
theorem dX9_learnFrom_152 : decode cX9_learnFrom 152 = .ok (.return_, 1) := by decide +kernel
def bX9_learnFrom : ol_SE := es_seq (es_set 2 (ei_c 0)) (es_seq (es_set 3 (ei_c 0)) (es_seq (es_if (ec_and (ec_2 ol_ne (ei_f 1 1 (er_v 1)) (ei_c (-1))) (ec_z ol_ne (ei_f 1 2 (er_v 1)))) (es_seq (es_set 4 (ei_2 ol_sub (ei_f 1 1 (er_v 1)) (ei_c 195))) (es_seq (es_set 5 (ei_if (ec_z ol_gt (ei_f 1 2 (er_v 1))) (ei_v 4) (ei_neg (ei_v 4)))) (es_seq (es_set 2 (ei_if (ec_z ol_ge (ei_v 5)) (ei_c 1) (ei_c 0))) (es_set 3 (ei_if (ec_2 ol_le (ei_v 5) (ei_c (-35))) (ei_c 1) (ei_c 0)))))) es_skip) (es_seq (es_pf 9 5 (er_v 0) (ei_if (ec_or (ec_z ol_ne (ei_v 2)) (ec_z ol_ne (ei_v 3))) (ei_2 ol_add (ei_f 9 5 (er_v 0)) (ei_c 1)) (ei_c 0))) (es_seq (es_if (ec_2 ol_eq (ei_f 9 4 (er_v 0)) (ei_c 1)) (es_of (ea_cv 9 fX9_moveBehind (ea_r (er_v 0) (ea_i (ei_v 2) (ea_i (ei_v 3) (ea_0)))))) (es_if (ec_and (ec_2 ol_eq (ei_f 9 4 (er_v 0)) (ei_c 2)) (ec_2 ol_ge (ei_f 9 5 (er_v 0)) (ei_c 2))) (es_seq (es_pf 9 3 (er_v 0) (ei_if (ec_2 ol_ge (ei_f 9 3 (er_v 0)) (ei_c 5)) (ei_c 0) (ei_2 ol_add (ei_f 9 3 (er_v 0)) (ei_c 1)))) (es_pf 9 5 (er_v 0) (ei_c 0))) es_skip)) (es_retv)))))
def fX9_learnFrom : ol_FE := ol_fe 6 bX9_learnFrom
set_option maxRecDepth 20000 in
theorem imX9_learnFrom (x : ol_X) (K : ol_K) : IM_S x K mX9_learnFrom 0 0 bX9_learnFrom := rs_seq (p2 := 2) (rs_setn (ri_ic dX9_learnFrom_0 (by unfold ol_inR; omega)) dX9_learnFrom_1 rfl (ol_ltn rfl)) (rs_seq (p2 := 4) (rs_setn (ri_ic dX9_learnFrom_2 (by unfold ol_inR; omega)) dX9_learnFrom_3 rfl (ol_ltn rfl)) (rs_seq (p2 := 70) (rs_if (pT := 19) (pF := 70) (pE := 70) (rc_and (p2 := 12) (pT := 19) (pF := 70) (rc_2F (pF := 70) ol_j2_eq_F (ri_f (rr_vn dX9_learnFrom_4 rfl) gfX9_34 dX9_learnFrom_5) (ri_ic dX9_learnFrom_8 (by unfold ol_inR; omega)) dX9_learnFrom_9 (by decide)) (rc_zF (pF := 70) ol_j1_eq_F (ri_f (rr_vn dX9_learnFrom_12 rfl) gfX9_39 dX9_learnFrom_13) dX9_learnFrom_16 (by decide))) (rs_seq (p2 := 29) (rs_set (ri_2 ol_op_sub (ri_f (rr_vn dX9_learnFrom_19 rfl) gfX9_34 dX9_learnFrom_20) (ri_si dX9_learnFrom_23 (by unfold ol_inR; omega) (by decide)) dX9_learnFrom_26) dX9_learnFrom_27 (ol_ltn rfl)) (rs_seq (p2 := 46) (rs_set (ri_if (pT := 36) (pF := 41) (p3 := 44) (rc_zF (pF := 41) ol_j1_le_F (ri_f (rr_vn dX9_learnFrom_29 rfl) gfX9_39 dX9_learnFrom_30) dX9_learnFrom_33 (by decide)) (ri_vi dX9_learnFrom_36) dX9_learnFrom_38 (by decide) (ri_neg (ri_vi dX9_learnFrom_41) dX9_learnFrom_43)) dX9_learnFrom_44 (ol_ltn rfl)) (rs_seq (p2 := 57) (rs_setn (ri_if (pT := 51) (pF := 55) (p3 := 56) (rc_zF (pF := 55) ol_j1_lt_F (ri_vi dX9_learnFrom_46) dX9_learnFrom_48 (by decide)) (ri_ic dX9_learnFrom_51 (by unfold ol_inR; omega)) dX9_learnFrom_52 (by decide) (ri_ic dX9_learnFrom_55 (by unfold ol_inR; omega))) dX9_learnFrom_56 rfl (ol_ltn rfl)) (rs_setn (ri_if (pT := 64) (pF := 68) (p3 := 69) (rc_2F (pF := 68) ol_j2_gt_F (ri_vi dX9_learnFrom_57) (ri_bi dX9_learnFrom_59 (by unfold ol_inR; omega) (by decide)) dX9_learnFrom_61 (by decide)) (ri_ic dX9_learnFrom_64 (by unfold ol_inR; omega)) dX9_learnFrom_65 (by decide) (ri_ic dX9_learnFrom_68 (by unfold ol_inR; omega))) dX9_learnFrom_69 rfl (ol_ltn rfl))))) rs_skip) (rs_seq (p2 := 92) (rs_pf (rr_vn dX9_learnFrom_70 rfl) (ri_if (pT := 79) (pF := 88) (p3 := 89) (rc_or (p2 := 75) (pT := 79) (pF := 88) (rc_zT (pT := 79) ol_j1_ne_T (ri_vn dX9_learnFrom_71 rfl) dX9_learnFrom_72 (by decide)) (rc_zF (pF := 88) ol_j1_eq_F (ri_vn dX9_learnFrom_75 rfl) dX9_learnFrom_76 (by decide))) (ri_2 ol_op_add (ri_f (rr_vn dX9_learnFrom_79 rfl) gfX9_27 dX9_learnFrom_80) (ri_ic dX9_learnFrom_83 (by unfold ol_inR; omega)) dX9_learnFrom_84) dX9_learnFrom_85 (by decide) (ri_ic dX9_learnFrom_88 (by unfold ol_inR; omega))) pfX9_27 rfl dX9_learnFrom_89) (rs_seq (p2 := 152) (rs_if (pT := 100) (pF := 109) (pE := 152) (rc_2F (pF := 109) ol_j2_ne_F (ri_f (rr_vn dX9_learnFrom_92 rfl) gfX9_24 dX9_learnFrom_93) (ri_ic dX9_learnFrom_96 (by unfold ol_inR; omega)) dX9_learnFrom_97 (by decide)) (rs_goto (p3 := 152) (rs_k (rk_v (Mc := mX9_moveBehind) (conX9_moveBehind _ K) (ra_r (rr_vn dX9_learnFrom_100 rfl) (ra_i (ri_vn dX9_learnFrom_101 rfl) (ra_i (ri_vn dX9_learnFrom_102 rfl) (ra_0)))) dX9_learnFrom_103 cwX9_42 tw_725 tw_17 (by decide) rfl rfl ⟨rfl, rfl, Nat.le_of_ble_eq_true rfl⟩ (by decide) (by decide) (al_r (al_i (al_i al_0))))) dX9_learnFrom_106 (by decide)) (rs_if (pT := 125) (pF := 152) (pE := 152) (rc_and (p2 := 117) (pT := 125) (pF := 152) (rc_2F (pF := 152) ol_j2_ne_F (ri_f (rr_vn dX9_learnFrom_109 rfl) gfX9_24 dX9_learnFrom_110) (ri_ic dX9_learnFrom_113 (by unfold ol_inR; omega)) dX9_learnFrom_114 (by decide)) (rc_2F (pF := 152) ol_j2_lt_F (ri_f (rr_vn dX9_learnFrom_117 rfl) gfX9_27 dX9_learnFrom_118) (ri_ic dX9_learnFrom_121 (by unfold ol_inR; omega)) dX9_learnFrom_122 (by decide))) (rs_seq (p2 := 147) (rs_pf (rr_vn dX9_learnFrom_125 rfl) (ri_if (pT := 134) (pF := 138) (p3 := 144) (rc_2F (pF := 138) ol_j2_lt_F (ri_f (rr_vn dX9_learnFrom_126 rfl) gfX9_21 dX9_learnFrom_127) (ri_ic dX9_learnFrom_130 (by unfold ol_inR; omega)) dX9_learnFrom_131 (by decide)) (ri_ic dX9_learnFrom_134 (by unfold ol_inR; omega)) dX9_learnFrom_135 (by decide) (ri_2 ol_op_add (ri_f (rr_vn dX9_learnFrom_138 rfl) gfX9_21 dX9_learnFrom_139) (ri_ic dX9_learnFrom_142 (by unfold ol_inR; omega)) dX9_learnFrom_143)) pfX9_21 rfl dX9_learnFrom_144) (rs_pf (rr_vn dX9_learnFrom_147 rfl) (ri_ic dX9_learnFrom_148 (by unfold ol_inR; omega)) pfX9_27 rfl dX9_learnFrom_149)) rs_skip)) (rs_retv rfl dX9_learnFrom_152)))))
theorem conX9_learnFrom (l : Launch) (K : ol_K) : ol_Con l K yX9_learnFrom mX9_learnFrom fX9_learnFrom := ol_con (M := mX9_learnFrom) (by decide) rfl rfl (imX9_learnFrom · K)
