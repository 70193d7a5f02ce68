/-! by program: what each method does, and that its code does it -/
theorem dX11_pattern_0 : decode cX11_pattern 0 = .ok (.iload_n 1, 1) := by decide +kernel
theorem dX11_pattern_1 : decode cX11_pattern 1 = .ok (.iconst 0, 1) := by decide +kernel
theorem dX11_pattern_2 : decode cX11_pattern 2 = .ok (.iconst 3, 1) := by decide +kernel
theorem dX11_pattern_3 : decode cX11_pattern 3 = .ok (.invokestatic 63, 3) := by decide +kernel
theorem dX11_pattern_6 : decode cX11_pattern 6 = .ok (.ifCond .ne 5, 3) := by decide +kernel
theorem dX11_pattern_9 : decode cX11_pattern 9 = .ok (.iconst (-1), 1) := by decide +kernel
theorem dX11_pattern_10 : decode cX11_pattern 10 = .ok (.ireturn, 1) := by decide +kernel
theorem dX11_pattern_11 : decode cX11_pattern 11 = .ok (.aload_n 0, 1) := by decide +kernel
theorem dX11_pattern_12 : decode cX11_pattern 12 = .ok (.iconst 0, 1) := by decide +kernel
theorem dX11_pattern_13 : decode cX11_pattern 13 = .ok (.putfield 73, 3) := by decide +kernel
theorem dX11_pattern_16 : decode cX11_pattern 16 = .ok (.aload_n 0, 1) := by decide +kernel
theorem dX11_pattern_17 : decode cX11_pattern 17 = .ok (.bipush (-9), 2) := by decide +kernel
theorem dX11_pattern_19 : decode cX11_pattern 19 = .ok (.putfield 90, 3) := by decide +kernel
theorem dX11_pattern_22 : decode cX11_pattern 22 = .ok (.iconst 0, 1) := by decide +kernel
theorem dX11_pattern_23 : decode cX11_pattern 23 = .ok (.istore_n 2, 1) := by decide +kernel
theorem dX11_pattern_24 : decode cX11_pattern 24 = .ok (.iload_n 2, 1) := by decide +kernel
theorem dX11_pattern_25 : decode cX11_pattern 25 = .ok (.sipush 780, 3) := by decide +kernel
theorem dX11_pattern_28 : decode cX11_pattern 28 = .ok (.if_icmp .ge 20, 3) := by decide +kernel
theorem dX11_pattern_31 : decode cX11_pattern 31 = .ok (.aload_n 0, 1) := by decide +kernel
theorem dX11_pattern_32 : decode cX11_pattern 32 = .ok (.getfield 13, 3) := by decide +kernel
theorem dX11_pattern_35 : decode cX11_pattern 35 = .ok (.sipush 6240, 3) := by decide +kernel
theorem dX11_pattern_38 : decode cX11_pattern 38 = .ok (.iload_n 2, 1) := by decide +kernel
theorem dX11_pattern_39 : decode cX11_pattern 39 = .ok (.iadd, 1) := by decide +kernel
theorem dX11_pattern_40 : decode cX11_pattern 40 = .ok (.iconst 0, 1) := by decide +kernel
theorem dX11_pattern_41 : decode cX11_pattern 41 = .ok (.iastore, 1) := by decide +kernel
theorem dX11_pattern_42 : decode cX11_pattern 42 = .ok (.iinc 2 1, 3) := by decide +kernel
theorem dX11_pattern_45 : decode cX11_pattern 45 = .ok (.goto (-21), 3) := by decide +kernel
theorem dX11_pattern_48 : decode cX11_pattern 48 = .ok (.iconst 0, 1) := by decide +kernel
theorem dX11_pattern_49 : decode cX11_pattern 49 = .ok (.istore_n 2, 1) := by decide +kernel
theorem dX11_pattern_50 : decode cX11_pattern 50 = .ok (.aload_n 0, 1) := by decide +kernel
theorem dX11_pattern_51 : decode cX11_pattern 51 = .ok (.invokevirtual 93, 3) := by decide +kernel
theorem dX11_pattern_54 : decode cX11_pattern 54 = .ok (.aload_n 0, 1) := by decide +kernel
theorem dX11_pattern_55 : decode cX11_pattern 55 = .ok (.getfield 90, 3) := by decide +kernel
theorem dX11_pattern_58 : decode cX11_pattern 58 = .ok (.bipush (-9), 2) := by decide +kernel
theorem dX11_pattern_60 : decode cX11_pattern 60 = .ok (.if_icmp .ne 61, 3) := by decide +kernel
theorem dX11_pattern_63 : decode cX11_pattern 63 = .ok (.aload_n 0, 1) := by decide +kernel
theorem dX11_pattern_64 : decode cX11_pattern 64 = .ok (.getfield 86, 3) := by decide +kernel
theorem dX11_pattern_67 : decode cX11_pattern 67 = .ok (.ifCond .eq 54, 3) := by decide +kernel
theorem dX11_pattern_70 : decode cX11_pattern 70 = .ok (.aload_n 0, 1) := by decide +kernel
theorem dX11_pattern_71 : decode cX11_pattern 71 = .ok (.getfield 86, 3) := by decide +kernel
theorem dX11_pattern_74 : decode cX11_pattern 74 = .ok (.istore_n 3, 1) := by decide +kernel
theorem dX11_pattern_75 : decode cX11_pattern 75 = .ok (.aload_n 0, 1) := by decide +kernel
theorem dX11_pattern_76 : decode cX11_pattern 76 = .ok (.iload_n 3, 1) := by decide +kernel
theorem dX11_pattern_77 : decode cX11_pattern 77 = .ok (.iconst 1, 1) := by decide +kernel
theorem dX11_pattern_78 : decode cX11_pattern 78 = .ok (.if_icmp .eq 8, 3) := by decide +kernel
theorem dX11_pattern_81 : decode cX11_pattern 81 = .ok (.iload_n 3, 1) := by decide +kernel
theorem dX11_pattern_82 : decode cX11_pattern 82 = .ok (.iconst 2, 1) := by decide +kernel
theorem dX11_pattern_83 : decode cX11_pattern 83 = .ok (.if_icmp .ne 13, 3) := by decide +kernel
theorem dX11_pattern_86 : decode cX11_pattern 86 = .ok (.iload_n 2, 1) := by decide +kernel
theorem dX11_pattern_87 : decode cX11_pattern 87 = .ok (.bipush 12, 2) := by decide +kernel
theorem dX11_pattern_89 : decode cX11_pattern 89 = .ok (.if_icmp .ge 7, 3) := by decide +kernel
theorem dX11_pattern_92 : decode cX11_pattern 92 = .ok (.iconst 1, 1) := by decide +kernel
theorem dX11_pattern_93 : decode cX11_pattern 93 = .ok (.goto 4, 3) := by decide +kernel
theorem dX11_pattern_96 : decode cX11_pattern 96 = .ok (.iconst 0, 1) := by decide +kernel
theorem dX11_pattern_97 : decode cX11_pattern 97 = .ok (.invokevirtual 96, 3) := by decide +kernel
theorem dX11_pattern_100 : decode cX11_pattern 100 = .ok (.pop, 1) := by decide +kernel
theorem dX11_pattern_101 : decode cX11_pattern 101 = .ok (.aload_n 0, 1) := by decide +kernel
theorem dX11_pattern_102 : decode cX11_pattern 102 = .ok (.getfield 90, 3) := by decide +kernel
theorem dX11_pattern_105 : decode cX11_pattern 105 = .ok (.bipush (-9), 2) := by decide +kernel
theorem dX11_pattern_107 : decode cX11_pattern 107 = .ok (.if_icmp .ne 11, 3) := by decide +kernel
theorem dX11_pattern_110 : decode cX11_pattern 110 = .ok (.aload_n 0, 1) := by decide +kernel
theorem dX11_pattern_111 : decode cX11_pattern 111 = .ok (.iload_n 3, 1) := by decide +kernel
theorem dX11_pattern_112 : decode cX11_pattern 112 = .ok (.invokevirtual 104, 3) := by decide +kernel
theorem dX11_pattern_115 : decode cX11_pattern 115 = .ok (.iinc 2 1, 3) := by decide +kernel
theorem dX11_pattern_118 : decode cX11_pattern 118 = .ok (.goto (-64), 3) := by decide +kernel
theorem dX11_pattern_121 : decode cX11_pattern 121 = .ok (.aload_n 0, 1) := by decide +kernel
theorem dX11_pattern_122 : decode cX11_pattern 122 = .ok (.getfield 90, 3) := by decide +kernel
theorem dX11_pattern_125 : decode cX11_pattern 125 = .ok (.bipush (-9), 2) := by decide +kernel
theorem dX11_pattern_127 : decode cX11_pattern 127 = .ok (.if_icmp .eq 11, 3) := by decide +kernel
theorem dX11_pattern_130 : decode cX11_pattern 130 = .ok (.bipush (-10), 2) := by decide +kernel
theorem dX11_pattern_132 : decode cX11_pattern 132 = .ok (.aload_n 0, 1) := by decide +kernel
theorem dX11_pattern_133 : decode cX11_pattern 133 = .ok (.getfield 90, 3) := by decide +kernel
theorem dX11_pattern_136 : decode cX11_pattern 136 = .ok (.isub, 1) := by decide +kernel
theorem dX11_pattern_137 : decode cX11_pattern 137 = .ok (.ireturn, 1) := by decide +kernel
theorem dX11_pattern_138 : decode cX11_pattern 138 = .ok (.aload_n 0, 1) := by decide +kernel
theorem dX11_pattern_139 : decode cX11_pattern 139 = .ok (.sipush 6240, 3) := by decide +kernel
theorem dX11_pattern_142 : decode cX11_pattern 142 = .ok (.sipush 1560, 3) := by decide +kernel
theorem dX11_pattern_145 : decode cX11_pattern 145 = .ok (.sipush 780, 3) := by decide +kernel
theorem dX11_pattern_148 : decode cX11_pattern 148 = .ok (.iload_n 1, 1) := by decide +kernel
theorem dX11_pattern_149 : decode cX11_pattern 149 = .ok (.imul, 1) := by decide +kernel
theorem dX11_pattern_150 : decode cX11_pattern 150 = .ok (.iadd, 1) := by decide +kernel
theorem dX11_pattern_151 : decode cX11_pattern 151 = .ok (.invokevirtual 108, 3) := by decide +kernel
theorem dX11_pattern_154 : decode cX11_pattern 154 = .ok (.aload_n 0, 1) := by decide +kernel
theorem dX11_pattern_155 : decode cX11_pattern 155 = .ok (.dup, 1) := by decide +kernel
theorem dX11_pattern_156 : decode cX11_pattern 156 = .ok (.getfield 112, 3) := by decide +kernel
theorem dX11_pattern_159 : decode cX11_pattern 159 = .ok (.iconst 1, 1) := by decide +kernel
theorem dX11_pattern_160 : decode cX11_pattern 160 = .ok (.iload_n 1, 1) := by decide +kernel
theorem dX11_pattern_161 : decode cX11_pattern 161 = .ok (.ishl, 1) := by decide +kernel
theorem dX11_pattern_162 : decode cX11_pattern 162 = .ok (.ior, 1) := by decide +kernel
theorem dX11_pattern_163 : decode cX11_pattern 163 = .ok (.putfield 112, 3) := by decide +kernel
theorem dX11_pattern_166 : decode cX11_pattern 166 = .ok (.aload_n 0, 1) := by decide +kernel
theorem dX11_pattern_167 : decode cX11_pattern 167 = .ok (.iconst 0, 1) := by decide +kernel
theorem dX11_pattern_168 : decode cX11_pattern 168 = .ok (.putfield 67, 3) := by decide +kernel
theorem dX11_pattern_171 : decode cX11_pattern 171 = .ok (.iload_n 2, 1) := by decide +kernel
theorem dX11_pattern_172 : decode cX11_pattern 172 = .ok (.ireturn, 1) := by decide +kernel
def bX11_pattern : ol_SE := es_seq (es_if (ec_not (ec_z ol_ne (ei_of (ea_cs fX11_in (ea_i (ei_v 1) (ea_i (ei_c 0) (ea_i (ei_c 3) (ea_0)))))))) (es_ret (ei_c (-1))) es_skip) (es_seq (es_pf 11 5 (er_v 0) (ei_c 0)) (es_seq (es_pf 11 9 (er_v 0) (ei_c (-9))) (es_seq (es_seq (es_set 2 (ei_c 0)) (es_wh (ec_2 ol_lt (ei_v 2) (ei_c 780)) (es_seq (es_as 100 (er_f 11 3 (er_v 0)) (ei_2 ol_add (ei_c 6240) (ei_v 2)) (ei_c 0)) (es_inc 2 1)))) (es_seq (es_set 2 (ei_c 0)) (es_seq (es_of (ea_cv 11 fX11_next (ea_r (er_v 0) (ea_0)))) (es_seq (es_wh (ec_and (ec_2 ol_eq (ei_f 11 9 (er_v 0)) (ei_c (-9))) (ec_z ol_ne (ei_f 11 7 (er_v 0)))) (es_seq (es_set 3 (ei_f 11 7 (er_v 0))) (es_seq (es_of (ea_cv 11 fX11_due (ea_r (er_v 0) (ea_i (ei_if (ec_and (ec_or (ec_2 ol_eq (ei_v 3) (ei_c 1)) (ec_2 ol_eq (ei_v 3) (ei_c 2))) (ec_2 ol_lt (ei_v 2) (ei_c 12))) (ei_c 1) (ei_c 0)) (ea_0))))) (es_if (ec_2 ol_eq (ei_f 11 9 (er_v 0)) (ei_c (-9))) (es_seq (es_of (ea_cv 11 fX11_item (ea_r (er_v 0) (ea_i (ei_v 3) (ea_0))))) (es_inc 2 1)) es_skip)))) (es_seq (es_if (ec_2 ol_ne (ei_f 11 9 (er_v 0)) (ei_c (-9))) (es_ret (ei_2 ol_sub (ei_c (-10)) (ei_f 11 9 (er_v 0)))) es_skip) (es_seq (es_of (ea_cv 11 fX11_copy (ea_r (er_v 0) (ea_i (ei_c 6240) (ea_i (ei_2 ol_add (ei_c 1560) (ei_2 ol_mul (ei_c 780) (ei_v 1))) (ea_0)))))) (es_seq (es_uf 11 4 (er_v 0) ol_or (ei_2 ol_shl (ei_c 1) (ei_v 1))) (es_seq (es_pf 11 2 (er_v 0) (ei_c 0)) (es_ret (ei_v 2))))))))))))
def fX11_pattern : ol_FE := ol_fe 4 bX11_pattern
set_option maxRecDepth 20000 in
theorem imX11_pattern (x : ol_X) (K : ol_K) : IM_S x K mX11_pattern 0 0 bX11_pattern := rs_seq (p2 := 11) (rs_if (pT := 9) (pF := 11) (pE := 11) (rc_not (rc_zT (pT := 11) ol_j1_ne_T (ri_k (rk_s (Mc := mX11_in) (conX11_in _ K) (ra_i (ri_vn dX11_pattern_0 rfl) (ra_i (ri_ic dX11_pattern_1 (by unfold ol_inR; omega)) (ra_i (ri_ic dX11_pattern_2 (by unfold ol_inR; omega)) (ra_0)))) dX11_pattern_3 cwX11_63 tw_981 ⟨rfl, rfl, Nat.le_of_ble_eq_true rfl⟩ (by decide) (by decide) (al_i (al_i (al_i al_0)))) (Or.inr (Or.inl rfl))) dX11_pattern_6 (by decide))) (rs_ret (ri_ic dX11_pattern_9 (by unfold ol_inR; omega)) rfl dX11_pattern_10) rs_skip) (rs_seq (p2 := 16) (rs_pf (rr_vn dX11_pattern_11 rfl) (ri_ic dX11_pattern_12 (by unfold ol_inR; omega)) pfX11_73 rfl dX11_pattern_13) (rs_seq (p2 := 22) (rs_pf (rr_vn dX11_pattern_16 rfl) (ri_bi dX11_pattern_17 (by unfold ol_inR; omega) (by decide)) pfX11_90 rfl dX11_pattern_19) (rs_seq (p2 := 48) (rs_seq (p2 := 24) (rs_setn (ri_ic dX11_pattern_22 (by unfold ol_inR; omega)) dX11_pattern_23 rfl (ol_ltn rfl)) (rs_wh (pH := 24) (pB := 31) (pE := 48) (pG := 45) (rc_2F (pF := 48) ol_j2_ge_F (ri_vn dX11_pattern_24 rfl) (ri_si dX11_pattern_25 (by unfold ol_inR; omega) (by decide)) dX11_pattern_28 (by decide)) (rs_seq (p2 := 42) (rs_as (rr_f (rr_vn dX11_pattern_31 rfl) gfX11_13 dX11_pattern_32) (ri_2 ol_op_add (ri_si dX11_pattern_35 (by unfold ol_inR; omega) (by decide)) (ri_vn dX11_pattern_38 rfl) dX11_pattern_39) (ri_ic dX11_pattern_40 (by unfold ol_inR; omega)) dX11_pattern_41) (rs_inc dX11_pattern_42 (ol_ltn rfl))) dX11_pattern_45 (by decide))) (rs_seq (p2 := 50) (rs_setn (ri_ic dX11_pattern_48 (by unfold ol_inR; omega)) dX11_pattern_49 rfl (ol_ltn rfl)) (rs_seq (p2 := 54) (rs_k (rk_v (Mc := mX11_next) (conX11_next _ K) (ra_r (rr_vn dX11_pattern_50 rfl) (ra_0)) dX11_pattern_51 cwX11_93 tw_994 tw_25 (by decide) rfl rfl ⟨rfl, rfl, Nat.le_of_ble_eq_true rfl⟩ (by decide) (by decide) (al_r al_0))) (rs_seq (p2 := 121) (rs_wh (pH := 54) (pB := 70) (pE := 121) (pG := 118) (rc_and (p2 := 63) (pT := 70) (pF := 121) (rc_2F (pF := 121) ol_j2_ne_F (ri_f (rr_vn dX11_pattern_54 rfl) gfX11_90 dX11_pattern_55) (ri_bi dX11_pattern_58 (by unfold ol_inR; omega) (by decide)) dX11_pattern_60 (by decide)) (rc_zF (pF := 121) ol_j1_eq_F (ri_f (rr_vn dX11_pattern_63 rfl) gfX11_86 dX11_pattern_64) dX11_pattern_67 (by decide))) (rs_seq (p2 := 75) (rs_setn (ri_f (rr_vn dX11_pattern_70 rfl) gfX11_86 dX11_pattern_71) dX11_pattern_74 rfl (ol_ltn rfl)) (rs_seq (p2 := 101) (rs_kp (rk_v (Mc := mX11_due) (conX11_due _ K) (ra_r (rr_vn dX11_pattern_75 rfl) (ra_i (ri_if (pT := 92) (pF := 96) (p3 := 97) (rc_and (p2 := 86) (pT := 92) (pF := 96) (rc_or (p2 := 81) (pT := 86) (pF := 96) (rc_2T (pT := 86) ol_j2_eq_T (ri_vn dX11_pattern_76 rfl) (ri_ic dX11_pattern_77 (by unfold ol_inR; omega)) dX11_pattern_78 (by decide)) (rc_2F (pF := 96) ol_j2_ne_F (ri_vn dX11_pattern_81 rfl) (ri_ic dX11_pattern_82 (by unfold ol_inR; omega)) dX11_pattern_83 (by decide))) (rc_2F (pF := 96) ol_j2_ge_F (ri_vn dX11_pattern_86 rfl) (ri_bi dX11_pattern_87 (by unfold ol_inR; omega) (by decide)) dX11_pattern_89 (by decide))) (ri_ic dX11_pattern_92 (by unfold ol_inR; omega)) dX11_pattern_93 (by decide) (ri_ic dX11_pattern_96 (by unfold ol_inR; omega))) (ra_0))) dX11_pattern_97 cwX11_96 tw_1003 tw_27 (by decide) rfl rfl ⟨rfl, rfl, Nat.le_of_ble_eq_true rfl⟩ (by decide) (by decide) (al_r (al_i al_0))) dX11_pattern_100) (rs_if (pT := 110) (pF := 118) (pE := 118) (rc_2F (pF := 118) ol_j2_ne_F (ri_f (rr_vn dX11_pattern_101 rfl) gfX11_90 dX11_pattern_102) (ri_bi dX11_pattern_105 (by unfold ol_inR; omega) (by decide)) dX11_pattern_107 (by decide)) (rs_seq (p2 := 115) (rs_k (rk_v (Mc := mX11_item) (conX11_item _ K) (ra_r (rr_vn dX11_pattern_110 rfl) (ra_i (ri_vn dX11_pattern_111 rfl) (ra_0))) dX11_pattern_112 cwX11_104 tw_1007 tw_28 (by decide) rfl rfl ⟨rfl, rfl, Nat.le_of_ble_eq_true rfl⟩ (by decide) (by decide) (al_r (al_i al_0)))) (rs_inc dX11_pattern_115 (ol_ltn rfl))) rs_skip))) dX11_pattern_118 (by decide)) (rs_seq (p2 := 138) (rs_if (pT := 130) (pF := 138) (pE := 138) (rc_2F (pF := 138) ol_j2_eq_F (ri_f (rr_vn dX11_pattern_121 rfl) gfX11_90 dX11_pattern_122) (ri_bi dX11_pattern_125 (by unfold ol_inR; omega) (by decide)) dX11_pattern_127 (by decide)) (rs_ret (ri_2 ol_op_sub (ri_bi dX11_pattern_130 (by unfold ol_inR; omega) (by decide)) (ri_f (rr_vn dX11_pattern_132 rfl) gfX11_90 dX11_pattern_133) dX11_pattern_136) rfl dX11_pattern_137) rs_skip) (rs_seq (p2 := 154) (rs_k (rk_v (Mc := mX11_copy) (conX11_copy _ K) (ra_r (rr_vn dX11_pattern_138 rfl) (ra_i (ri_si dX11_pattern_139 (by unfold ol_inR; omega) (by decide)) (ra_i (ri_2 ol_op_add (ri_si dX11_pattern_142 (by unfold ol_inR; omega) (by decide)) (ri_2 ol_op_mul (ri_si dX11_pattern_145 (by unfold ol_inR; omega) (by decide)) (ri_vn dX11_pattern_148 rfl) dX11_pattern_149) dX11_pattern_150) (ra_0)))) dX11_pattern_151 cwX11_108 tw_1015 tw_30 (by decide) rfl rfl ⟨rfl, rfl, Nat.le_of_ble_eq_true rfl⟩ (by decide) (by decide) (al_r (al_i (al_i al_0))))) (rs_seq (p2 := 166) (rs_uf ol_op_or (rr_vn dX11_pattern_154 rfl) dX11_pattern_155 dX11_pattern_156 (ri_2 ol_op_shl (ri_ic dX11_pattern_159 (by unfold ol_inR; omega)) (ri_vn dX11_pattern_160 rfl) dX11_pattern_161) dX11_pattern_162 gfX11_112 pfX11_112 rfl dX11_pattern_163) (rs_seq (p2 := 171) (rs_pf (rr_vn dX11_pattern_166 rfl) (ri_ic dX11_pattern_167 (by unfold ol_inR; omega)) pfX11_67 rfl dX11_pattern_168) (rs_ret (ri_vn dX11_pattern_171 rfl) rfl dX11_pattern_172)))))))))))
theorem conX11_pattern (l : Launch) (K : ol_K) : ol_Con l K yX11_pattern mX11_pattern fX11_pattern := ol_con (M := mX11_pattern) (by decide) rfl rfl (imX11_pattern · K)
theorem dX11_mean_0 : decode cX11_mean 0 = .ok (.iload_n 1, 1) := by decide +kernel
theorem dX11_mean_1 : decode cX11_mean 1 = .ok (.invokestatic 209, 3) := by decide +kernel
theorem dX11_mean_4 : decode cX11_mean 4 = .ok (.ifCond .eq 15, 3) := by decide +kernel
theorem dX11_mean_7 : decode cX11_mean 7 = .ok (.iload_n 2, 1) := by decide +kernel
theorem dX11_mean_8 : decode cX11_mean 8 = .ok (.iload_n 3, 1) := by decide +kernel
theorem dX11_mean_9 : decode cX11_mean 9 = .ok (.iload 4, 2) := by decide +kernel
theorem dX11_mean_11 : decode cX11_mean 11 = .ok (.iload 5, 2) := by decide +kernel
theorem dX11_mean_13 : decode cX11_mean 13 = .ok (.invokestatic 176, 3) := by decide +kernel
theorem dX11_mean_16 : decode cX11_mean 16 = .ok (.ifCond .ne 5, 3) := by decide +kernel
theorem dX11_mean_19 : decode cX11_mean 19 = .ok (.iconst (-1), 1) := by decide +kernel
theorem dX11_mean_20 : decode cX11_mean 20 = .ok (.ireturn, 1) := by decide +kernel
theorem dX11_mean_21 : decode cX11_mean 21 = .ok (.aload_n 0, 1) := by decide +kernel
theorem dX11_mean_22 : decode cX11_mean 22 = .ok (.iconst 0, 1) := by decide +kernel
theorem dX11_mean_23 : decode cX11_mean 23 = .ok (.iload_n 3, 1) := by decide +kernel
theorem dX11_mean_24 : decode cX11_mean 24 = .ok (.iload 4, 2) := by decide +kernel
theorem dX11_mean_26 : decode cX11_mean 26 = .ok (.iload 5, 2) := by decide +kernel
theorem dX11_mean_28 : decode cX11_mean 28 = .ok (.invokevirtual 212, 3) := by decide +kernel
theorem dX11_mean_31 : decode cX11_mean 31 = .ok (.aload_n 0, 1) := by decide +kernel
theorem dX11_mean_32 : decode cX11_mean 32 = .ok (.iload_n 1, 1) := by decide +kernel
theorem dX11_mean_33 : decode cX11_mean 33 = .ok (.iload_n 2, 1) := by decide +kernel
theorem dX11_mean_34 : decode cX11_mean 34 = .ok (.invokevirtual 216, 3) := by decide +kernel
theorem dX11_mean_37 : decode cX11_mean 37 = .ok (.ireturn, 1) := by decide +kernel
def bX11_mean : ol_SE := es_seq (es_if (ec_or (ec_not (ec_z ol_ne (ei_of (ea_cs fX11_isHand (ea_i (ei_v 1) (ea_0)))))) (ec_not (ec_z ol_ne (ei_of (ea_cs fX11_isShot (ea_i (ei_v 2) (ea_i (ei_v 3) (ea_i (ei_v 4) (ea_i (ei_v 5) (ea_0)))))))))) (es_ret (ei_c (-1))) es_skip) (es_seq (es_of (ea_cv 11 fX11_findFells (ea_r (er_v 0) (ea_i (ei_c 0) (ea_i (ei_v 3) (ea_i (ei_v 4) (ea_i (ei_v 5) (ea_0)))))))) (es_ret (ei_of (ea_cv 11 fX11_meanAt (ea_r (er_v 0) (ea_i (ei_v 1) (ea_i (ei_v 2) (ea_0))))))))
def fX11_mean : ol_FE := ol_fe 6 bX11_mean
set_option maxRecDepth 20000 in
theorem imX11_mean (x : ol_X) (K : ol_K) : IM_S x K mX11_mean 0 0 bX11_mean := rs_seq (p2 := 21) (rs_if (pT := 19) (pF := 21) (pE := 21) (rc_or (p2 := 7) (pT := 19) (pF := 21) (rc_not (rc_zF (pF := 19) ol_j1_eq_F (ri_k (rk_s (Mc := mX11_isHand) (conX11_isHand _ K) (ra_i (ri_vn dX11_mean_0 rfl) (ra_0)) dX11_mean_1 cwX11_209 tw_1120 ⟨rfl, rfl, Nat.le_of_ble_eq_true rfl⟩ (by decide) (by decide) (al_i al_0)) (Or.inr (Or.inl rfl))) dX11_mean_4 (by decide))) (rc_not (rc_zT (pT := 21) ol_j1_ne_T (ri_k (rk_s (Mc := mX11_isShot) (conX11_isShot _ K) (ra_i (ri_vn dX11_mean_7 rfl) (ra_i (ri_vn dX11_mean_8 rfl) (ra_i (ri_vi dX11_mean_9) (ra_i (ri_vi dX11_mean_11) (ra_0))))) dX11_mean_13 cwX11_176 tw_1061 ⟨rfl, rfl, Nat.le_of_ble_eq_true rfl⟩ (by decide) (by decide) (al_i (al_i (al_i (al_i al_0))))) (Or.inr (Or.inl rfl))) dX11_mean_16 (by decide)))) (rs_ret (ri_ic dX11_mean_19 (by unfold ol_inR; omega)) rfl dX11_mean_20) rs_skip) (rs_seq (p2 := 31) (rs_k (rk_v (Mc := mX11_findFells) (conX11_findFells _ K) (ra_r (rr_vn dX11_mean_21 rfl) (ra_i (ri_ic dX11_mean_22 (by unfold ol_inR; omega)) (ra_i (ri_vn dX11_mean_23 rfl) (ra_i (ri_vi dX11_mean_24) (ra_i (ri_vi dX11_mean_26) (ra_0)))))) dX11_mean_28 cwX11_212 tw_1128 tw_42 (by decide) rfl rfl ⟨rfl, rfl, Nat.le_of_ble_eq_true rfl⟩ (by decide) (by decide) (al_r (al_i (al_i (al_i (al_i al_0))))))) (rs_ret (ri_k (rk_v (Mc := mX11_meanAt) (conX11_meanAt _ K) (ra_r (rr_vn dX11_mean_31 rfl) (ra_i (ri_vn dX11_mean_32 rfl) (ra_i (ri_vn dX11_mean_33 rfl) (ra_0)))) dX11_mean_34 cwX11_216 tw_1132 tw_43 (by decide) rfl rfl ⟨rfl, rfl, Nat.le_of_ble_eq_true rfl⟩ (by decide) (by decide) (al_r (al_i (al_i al_0)))) (Or.inl rfl)) rfl dX11_mean_37))
theorem conX11_mean (l : Launch) (K : ol_K) : ol_Con l K yX11_mean mX11_mean fX11_mean := ol_con (M := mX11_mean) (by decide) rfl rfl (imX11_mean · K)
theorem dX11_best_0 : decode cX11_best 0 = .ok (.iload_n 1, 1) := by decide +kernel
theorem dX11_best_1 : decode cX11_best 1 = .ok (.invokestatic 209, 3) := by decide +kernel
theorem dX11_best_4 : decode cX11_best 4 = .ok (.ifCond .eq 23, 3) := by decide +kernel
theorem dX11_best_7 : decode cX11_best 7 = .ok (.iload_n 2, 1) := by decide +kernel
theorem dX11_best_8 : decode cX11_best 8 = .ok (.bipush (-30), 2) := by decide +kernel
theorem dX11_best_10 : decode cX11_best 10 = .ok (.bipush 30, 2) := by decide +kernel
theorem dX11_best_12 : decode cX11_best 12 = .ok (.invokestatic 63, 3) := by decide +kernel
theorem dX11_best_15 : decode cX11_best 15 = .ok (.ifCond .eq 12, 3) := by decide +kernel
theorem dX11_best_18 : decode cX11_best 18 = .ok (.iload_n 3, 1) := by decide +kernel
theorem dX11_best_19 : decode cX11_best 19 = .ok (.iconst 0, 1) := by decide +kernel
theorem dX11_best_20 : decode cX11_best 20 = .ok (.iconst 3, 1) := by decide +kernel
theorem dX11_best_21 : decode cX11_best 21 = .ok (.invokestatic 63, 3) := by decide +kernel
theorem dX11_best_24 : decode cX11_best 24 = .ok (.ifCond .ne 6, 3) := by decide +kernel
theorem dX11_best_27 : decode cX11_best 27 = .ok (.ldc 187, 2) := by decide +kernel
theorem dX11_best_29 : decode cX11_best 29 = .ok (.ireturn, 1) := by decide +kernel
theorem dX11_best_30 : decode cX11_best 30 = .ok (.iconst (-1), 1) := by decide +kernel
theorem dX11_best_31 : decode cX11_best 31 = .ok (.istore 4, 2) := by decide +kernel
theorem dX11_best_33 : decode cX11_best 33 = .ok (.iconst 0, 1) := by decide +kernel
theorem dX11_best_34 : decode cX11_best 34 = .ok (.istore 5, 2) := by decide +kernel
theorem dX11_best_36 : decode cX11_best 36 = .ok (.iconst 0, 1) := by decide +kernel
theorem dX11_best_37 : decode cX11_best 37 = .ok (.istore 6, 2) := by decide +kernel
theorem dX11_best_39 : decode cX11_best 39 = .ok (.iconst 0, 1) := by decide +kernel
theorem dX11_best_40 : decode cX11_best 40 = .ok (.istore 7, 2) := by decide +kernel
theorem dX11_best_42 : decode cX11_best 42 = .ok (.iconst 0, 1) := by decide +kernel
theorem dX11_best_43 : decode cX11_best 43 = .ok (.istore 8, 2) := by decide +kernel
theorem dX11_best_45 : decode cX11_best 45 = .ok (.iload 8, 2) := by decide +kernel
theorem dX11_best_47 : decode cX11_best 47 = .ok (.bipush 6, 2) := by decide +kernel
theorem dX11_best_49 : decode cX11_best 49 = .ok (.if_icmp .ge 105, 3) := by decide +kernel
theorem dX11_best_52 : decode cX11_best 52 = .ok (.bipush (-6), 2) := by decide +kernel
theorem dX11_best_54 : decode cX11_best 54 = .ok (.istore 9, 2) := by decide +kernel
theorem dX11_best_56 : decode cX11_best 56 = .ok (.iload 9, 2) := by decide +kernel
theorem dX11_best_58 : decode cX11_best 58 = .ok (.bipush 6, 2) := by decide +kernel
theorem dX11_best_60 : decode cX11_best 60 = .ok (.if_icmp .gt 88, 3) := by decide +kernel
theorem dX11_best_63 : decode cX11_best 63 = .ok (.aload_n 0, 1) := by decide +kernel
theorem dX11_best_64 : decode cX11_best 64 = .ok (.iconst 0, 1) := by decide +kernel
theorem dX11_best_65 : decode cX11_best 65 = .ok (.iload 9, 2) := by decide +kernel
theorem dX11_best_67 : decode cX11_best 67 = .ok (.iload_n 2, 1) := by decide +kernel
theorem dX11_best_68 : decode cX11_best 68 = .ok (.iload 8, 2) := by decide +kernel
theorem dX11_best_70 : decode cX11_best 70 = .ok (.invokevirtual 212, 3) := by decide +kernel
theorem dX11_best_73 : decode cX11_best 73 = .ok (.iconst 0, 1) := by decide +kernel
theorem dX11_best_74 : decode cX11_best 74 = .ok (.istore 10, 2) := by decide +kernel
theorem dX11_best_76 : decode cX11_best 76 = .ok (.iload 10, 2) := by decide +kernel
theorem dX11_best_78 : decode cX11_best 78 = .ok (.bipush 39, 2) := by decide +kernel
theorem dX11_best_80 : decode cX11_best 80 = .ok (.if_icmp .ge 62, 3) := by decide +kernel
theorem dX11_best_83 : decode cX11_best 83 = .ok (.aload_n 0, 1) := by decide +kernel
theorem dX11_best_84 : decode cX11_best 84 = .ok (.iload_n 1, 1) := by decide +kernel
theorem dX11_best_85 : decode cX11_best 85 = .ok (.iload 10, 2) := by decide +kernel
theorem dX11_best_87 : decode cX11_best 87 = .ok (.invokevirtual 216, 3) := by decide +kernel
theorem dX11_best_90 : decode cX11_best 90 = .ok (.istore 11, 2) := by decide +kernel
theorem dX11_best_92 : decode cX11_best 92 = .ok (.iload 11, 2) := by decide +kernel
theorem dX11_best_94 : decode cX11_best 94 = .ok (.iload 4, 2) := by decide +kernel
theorem dX11_best_96 : decode cX11_best 96 = .ok (.if_icmp .gt 24, 3) := by decide +kernel
theorem dX11_best_99 : decode cX11_best 99 = .ok (.iload 11, 2) := by decide +kernel
theorem dX11_best_101 : decode cX11_best 101 = .ok (.iload 4, 2) := by decide +kernel
theorem dX11_best_103 : decode cX11_best 103 = .ok (.if_icmp .ne 33, 3) := by decide +kernel
theorem dX11_best_106 : decode cX11_best 106 = .ok (.iload 5, 2) := by decide +kernel
theorem dX11_best_108 : decode cX11_best 108 = .ok (.iload 8, 2) := by decide +kernel
theorem dX11_best_110 : decode cX11_best 110 = .ok (.if_icmp .ne 26, 3) := by decide +kernel
theorem dX11_best_113 : decode cX11_best 113 = .ok (.iload 10, 2) := by decide +kernel
theorem dX11_best_115 : decode cX11_best 115 = .ok (.iload 6, 2) := by decide +kernel
theorem dX11_best_117 : decode cX11_best 117 = .ok (.if_icmp .ge 19, 3) := by decide +kernel
theorem dX11_best_120 : decode cX11_best 120 = .ok (.iload 11, 2) := by decide +kernel
theorem dX11_best_122 : decode cX11_best 122 = .ok (.istore 4, 2) := by decide +kernel
theorem dX11_best_124 : decode cX11_best 124 = .ok (.iload 8, 2) := by decide +kernel
theorem dX11_best_126 : decode cX11_best 126 = .ok (.istore 5, 2) := by decide +kernel
theorem dX11_best_128 : decode cX11_best 128 = .ok (.iload 10, 2) := by decide +kernel
theorem dX11_best_130 : decode cX11_best 130 = .ok (.istore 6, 2) := by decide +kernel
theorem dX11_best_132 : decode cX11_best 132 = .ok (.iload 9, 2) := by decide +kernel
theorem dX11_best_134 : decode cX11_best 134 = .ok (.istore 7, 2) := by decide +kernel
theorem dX11_best_136 : decode cX11_best 136 = .ok (.iinc 10 1, 3) := by decide +kernel
theorem dX11_best_139 : decode cX11_best 139 = .ok (.goto (-63), 3) := by decide +kernel
theorem dX11_best_142 : decode cX11_best 142 = .ok (.iinc 9 1, 3) := by decide +kernel
theorem dX11_best_145 : decode cX11_best 145 = .ok (.goto (-89), 3) := by decide +kernel
theorem dX11_best_148 : decode cX11_best 148 = .ok (.iinc 8 1, 3) := by decide +kernel
theorem dX11_best_151 : decode cX11_best 151 = .ok (.goto (-106), 3) := by decide +kernel
theorem dX11_best_154 : decode cX11_best 154 = .ok (.iload_n 3, 1) := by decide +kernel
theorem dX11_best_155 : decode cX11_best 155 = .ok (.ifCond .ne 8, 3) := by decide +kernel
theorem dX11_best_158 : decode cX11_best 158 = .ok (.iload 4, 2) := by decide +kernel
theorem dX11_best_160 : decode cX11_best 160 = .ok (.goto 25, 3) := by decide +kernel
theorem dX11_best_163 : decode cX11_best 163 = .ok (.iload_n 3, 1) := by decide +kernel
theorem dX11_best_164 : decode cX11_best 164 = .ok (.iconst 1, 1) := by decide +kernel
theorem dX11_best_165 : decode cX11_best 165 = .ok (.if_icmp .ne 8, 3) := by decide +kernel
theorem dX11_best_168 : decode cX11_best 168 = .ok (.iload 5, 2) := by decide +kernel
theorem dX11_best_170 : decode cX11_best 170 = .ok (.goto 15, 3) := by decide +kernel
theorem dX11_best_173 : decode cX11_best 173 = .ok (.iload_n 3, 1) := by decide +kernel
theorem dX11_best_174 : decode cX11_best 174 = .ok (.iconst 2, 1) := by decide +kernel
theorem dX11_best_175 : decode cX11_best 175 = .ok (.if_icmp .ne 8, 3) := by decide +kernel
theorem dX11_best_178 : decode cX11_best 178 = .ok (.iload 6, 2) := by decide +kernel
theorem dX11_best_180 : decode cX11_best 180 = .ok (.goto 5, 3) := by decide +kernel
theorem dX11_best_183 : decode cX11_best 183 = .ok (.iload 7, 2) := by decide +kernel
theorem dX11_best_185 : decode cX11_best 185 = .ok (.ireturn, 1) := by decide +kernel
def bX11_best : ol_SE := es_seq (es_if (ec_or (ec_or (ec_not (ec_z ol_ne (ei_of (ea_cs fX11_isHand (ea_i (ei_v 1) (ea_0)))))) (ec_not (ec_z ol_ne (ei_of (ea_cs fX11_in (ea_i (ei_v 2) (ea_i (ei_c (-30)) (ea_i (ei_c 30) (ea_0))))))))) (ec_not (ec_z ol_ne (ei_of (ea_cs fX11_in (ea_i (ei_v 3) (ea_i (ei_c 0) (ea_i (ei_c 3) (ea_0))))))))) (es_ret (ei_c (-1000000))) es_skip) (es_seq (es_set 4 (ei_c (-1))) (es_seq (es_set 5 (ei_c 0)) (es_seq (es_set 6 (ei_c 0)) (es_seq (es_set 7 (ei_c 0)) (es_seq (es_seq (es_set 8 (ei_c 0)) (es_wh (ec_2 ol_lt (ei_v 8) (ei_c 6)) (es_seq (es_seq (es_set 9 (ei_c (-6))) (es_wh (ec_2 ol_le (ei_v 9) (ei_c 6)) (es_seq (es_seq (es_of (ea_cv 11 fX11_findFells (ea_r (er_v 0) (ea_i (ei_c 0) (ea_i (ei_v 9) (ea_i (ei_v 2) (ea_i (ei_v 8) (ea_0)))))))) (es_seq (es_set 10 (ei_c 0)) (es_wh (ec_2 ol_lt (ei_v 10) (ei_c 39)) (es_seq (es_seq (es_set 11 (ei_of (ea_cv 11 fX11_meanAt (ea_r (er_v 0) (ea_i (ei_v 1) (ea_i (ei_v 10) (ea_0))))))) (es_if (ec_or (ec_2 ol_gt (ei_v 11) (ei_v 4)) (ec_and (ec_and (ec_2 ol_eq (ei_v 11) (ei_v 4)) (ec_2 ol_eq (ei_v 5) (ei_v 8))) (ec_2 ol_lt (ei_v 10) (ei_v 6)))) (es_seq (es_set 4 (ei_v 11)) (es_seq (es_set 5 (ei_v 8)) (es_seq (es_set 6 (ei_v 10)) (es_set 7 (ei_v 9))))) es_skip)) (es_inc 10 1))))) (es_inc 9 1)))) (es_inc 8 1)))) (es_ret (ei_if (ec_z ol_eq (ei_v 3)) (ei_v 4) (ei_if (ec_2 ol_eq (ei_v 3) (ei_c 1)) (ei_v 5) (ei_if (ec_2 ol_eq (ei_v 3) (ei_c 2)) (ei_v 6) (ei_v 7))))))))))
def fX11_best : ol_FE := ol_fe 12 bX11_best
set_option maxRecDepth 20000 in
theorem imX11_best (x : ol_X) (K : ol_K) : IM_S x K mX11_best 0 0 bX11_best := rs_seq (p2 := 30) (rs_if (pT := 27) (pF := 30) (pE := 30) (rc_or (p2 := 18) (pT := 27) (pF := 30) (rc_or (p2 := 7) (pT := 27) (pF := 18) (rc_not (rc_zF (pF := 27) ol_j1_eq_F (ri_k (rk_s (Mc := mX11_isHand) (conX11_isHand _ K) (ra_i (ri_vn dX11_best_0 rfl) (ra_0)) dX11_best_1 cwX11_209 tw_1120 ⟨rfl, rfl, Nat.le_of_ble_eq_true rfl⟩ (by decide) (by decide) (al_i al_0)) (Or.inr (Or.inl rfl))) dX11_best_4 (by decide))) (rc_not (rc_zF (pF := 27) ol_j1_eq_F (ri_k (rk_s (Mc := mX11_in) (conX11_in _ K) (ra_i (ri_vn dX11_best_7 rfl) (ra_i (ri_bi dX11_best_8 (by unfold ol_inR; omega) (by decide)) (ra_i (ri_bi dX11_best_10 (by unfold ol_inR; omega) (by decide)) (ra_0)))) dX11_best_12 cwX11_63 tw_981 ⟨rfl, rfl, Nat.le_of_ble_eq_true rfl⟩ (by decide) (by decide) (al_i (al_i (al_i al_0)))) (Or.inr (Or.inl rfl))) dX11_best_15 (by decide)))) (rc_not (rc_zT (pT := 30) ol_j1_ne_T (ri_k (rk_s (Mc := mX11_in) (conX11_in _ K) (ra_i (ri_vn dX11_best_18 rfl) (ra_i (ri_ic dX11_best_19 (by unfold ol_inR; omega)) (ra_i (ri_ic dX11_best_20 (by unfold ol_inR; omega)) (ra_0)))) dX11_best_21 cwX11_63 tw_981 ⟨rfl, rfl, Nat.le_of_ble_eq_true rfl⟩ (by decide) (by decide) (al_i (al_i (al_i al_0)))) (Or.inr (Or.inl rfl))) dX11_best_24 (by decide)))) (rs_ret (ri_ldc dX11_best_27 (by unfold ol_inR; omega) tw_1086) rfl dX11_best_29) rs_skip) (rs_seq (p2 := 33) (rs_set (ri_ic dX11_best_30 (by unfold ol_inR; omega)) dX11_best_31 (ol_ltn rfl)) (rs_seq (p2 := 36) (rs_set (ri_ic dX11_best_33 (by unfold ol_inR; omega)) dX11_best_34 (ol_ltn rfl)) (rs_seq (p2 := 39) (rs_set (ri_ic dX11_best_36 (by unfold ol_inR; omega)) dX11_best_37 (ol_ltn rfl)) (rs_seq (p2 := 42) (rs_set (ri_ic dX11_best_39 (by unfold ol_inR; omega)) dX11_best_40 (ol_ltn rfl)) (rs_seq (p2 := 154) (rs_seq (p2 := 45) (rs_set (ri_ic dX11_best_42 (by unfold ol_inR; omega)) dX11_best_43 (ol_ltn rfl)) (rs_wh (pH := 45) (pB := 52) (pE := 154) (pG := 151) (rc_2F (pF := 154) ol_j2_ge_F (ri_vi dX11_best_45) (ri_bi dX11_best_47 (by unfold ol_inR; omega) (by decide)) dX11_best_49 (by decide)) (rs_seq (p2 := 148) (rs_seq (p2 := 56) (rs_set (ri_bi dX11_best_52 (by unfold ol_inR; omega) (by decide)) dX11_best_54 (ol_ltn rfl)) (rs_wh (pH := 56) (pB := 63) (pE := 148) (pG := 145) (rc_2F (pF := 148) ol_j2_gt_F (ri_vi dX11_best_56) (ri_bi dX11_best_58 (by unfold ol_inR; omega) (by decide)) dX11_best_60 (by decide)) (rs_seq (p2 := 142) (rs_seq (p2 := 73) (rs_k (rk_v (Mc := mX11_findFells) (conX11_findFells _ K) (ra_r (rr_vn dX11_best_63 rfl) (ra_i (ri_ic dX11_best_64 (by unfold ol_inR; omega)) (ra_i (ri_vi dX11_best_65) (ra_i (ri_vn dX11_best_67 rfl) (ra_i (ri_vi dX11_best_68) (ra_0)))))) dX11_best_70 cwX11_212 tw_1128 tw_42 (by decide) rfl rfl ⟨rfl, rfl, Nat.le_of_ble_eq_true rfl⟩ (by decide) (by decide) (al_r (al_i (al_i (al_i (al_i al_0))))))) (rs_seq (p2 := 76) (rs_set (ri_ic dX11_best_73 (by unfold ol_inR; omega)) dX11_best_74 (ol_ltn rfl)) (rs_wh (pH := 76) (pB := 83) (pE := 142) (pG := 139) (rc_2F (pF := 142) ol_j2_ge_F (ri_vi dX11_best_76) (ri_bi dX11_best_78 (by unfold ol_inR; omega) (by decide)) dX11_best_80 (by decide)) (rs_seq (p2 := 136) (rs_seq (p2 := 92) (rs_set (ri_k (rk_v (Mc := mX11_meanAt) (conX11_meanAt _ K) (ra_r (rr_vn dX11_best_83 rfl) (ra_i (ri_vn dX11_best_84 rfl) (ra_i (ri_vi dX11_best_85) (ra_0)))) dX11_best_87 cwX11_216 tw_1132 tw_43 (by decide) rfl rfl ⟨rfl, rfl, Nat.le_of_ble_eq_true rfl⟩ (by decide) (by decide) (al_r (al_i (al_i al_0)))) (Or.inl rfl)) dX11_best_90 (ol_ltn rfl)) (rs_if (pT := 120) (pF := 136) (pE := 136) (rc_or (p2 := 99) (pT := 120) (pF := 136) (rc_2T (pT := 120) ol_j2_gt_T (ri_vi dX11_best_92) (ri_vi dX11_best_94) dX11_best_96 (by decide)) (rc_and (p2 := 113) (pT := 120) (pF := 136) (rc_and (p2 := 106) (pT := 113) (pF := 136) (rc_2F (pF := 136) ol_j2_ne_F (ri_vi dX11_best_99) (ri_vi dX11_best_101) dX11_best_103 (by decide)) (rc_2F (pF := 136) ol_j2_ne_F (ri_vi dX11_best_106) (ri_vi dX11_best_108) dX11_best_110 (by decide))) (rc_2F (pF := 136) ol_j2_ge_F (ri_vi dX11_best_113) (ri_vi dX11_best_115) dX11_best_117 (by decide)))) (rs_seq (p2 := 124) (rs_set (ri_vi dX11_best_120) dX11_best_122 (ol_ltn rfl)) (rs_seq (p2 := 128) (rs_set (ri_vi dX11_best_124) dX11_best_126 (ol_ltn rfl)) (rs_seq (p2 := 132) (rs_set (ri_vi dX11_best_128) dX11_best_130 (ol_ltn rfl)) (rs_set (ri_vi dX11_best_132) dX11_best_134 (ol_ltn rfl))))) rs_skip)) (rs_inc dX11_best_136 (ol_ltn rfl))) dX11_best_139 (by decide)))) (rs_inc dX11_best_142 (ol_ltn rfl))) dX11_best_145 (by decide))) (rs_inc dX11_best_148 (ol_ltn rfl))) dX11_best_151 (by decide))) (rs_ret (ri_if (pT := 158) (pF := 163) (p3 := 185) (rc_zF (pF := 163) ol_j1_ne_F (ri_vn dX11_best_154 rfl) dX11_best_155 (by decide)) (ri_vi dX11_best_158) dX11_best_160 (by decide) (ri_if (pT := 168) (pF := 173) (p3 := 185) (rc_2F (pF := 173) ol_j2_ne_F (ri_vn dX11_best_163 rfl) (ri_ic dX11_best_164 (by unfold ol_inR; omega)) dX11_best_165 (by decide)) (ri_vi dX11_best_168) dX11_best_170 (by decide) (ri_if (pT := 178) (pF := 183) (p3 := 185) (rc_2F (pF := 183) ol_j2_ne_F (ri_vn dX11_best_173 rfl) (ri_ic dX11_best_174 (by unfold ol_inR; omega)) dX11_best_175 (by decide)) (ri_vi dX11_best_178) dX11_best_180 (by decide) (ri_vi dX11_best_183)))) rfl dX11_best_185))))))
theorem conX11_best (l : Launch) (K : ol_K) : ol_Con l K yX11_best mX11_best fX11_best := ol_con (M := mX11_best) (by decide) rfl rfl (imX11_best · K)
theorem dX11_findGreatest_0 : decode cX11_findGreatest 0 = .ok (.iconst 0, 1) := by decide +kernel
theorem dX11_findGreatest_1 : decode cX11_findGreatest 1 = .ok (.istore_n 2, 1) := by decide +kernel
theorem dX11_findGreatest_2 : decode cX11_findGreatest 2 = .ok (.iload_n 2, 1) := by decide +kernel
theorem dX11_findGreatest_3 : decode cX11_findGreatest 3 = .ok (.bipush 24, 2) := by decide +kernel
theorem dX11_findGreatest_5 : decode cX11_findGreatest 5 = .ok (.if_icmp .ge 117, 3) := by decide +kernel
theorem dX11_findGreatest_8 : decode cX11_findGreatest 8 = .ok (.aload_n 0, 1) := by decide +kernel
theorem dX11_findGreatest_9 : decode cX11_findGreatest 9 = .ok (.getfield 56, 3) := by decide +kernel
theorem dX11_findGreatest_12 : decode cX11_findGreatest 12 = .ok (.iload_n 2, 1) := by decide +kernel
theorem dX11_findGreatest_13 : decode cX11_findGreatest 13 = .ok (.iconst 0, 1) := by decide +kernel
theorem dX11_findGreatest_14 : decode cX11_findGreatest 14 = .ok (.iastore, 1) := by decide +kernel
theorem dX11_findGreatest_15 : decode cX11_findGreatest 15 = .ok (.bipush (-6), 2) := by decide +kernel
theorem dX11_findGreatest_17 : decode cX11_findGreatest 17 = .ok (.istore_n 3, 1) := by decide +kernel
theorem dX11_findGreatest_18 : decode cX11_findGreatest 18 = .ok (.iload_n 3, 1) := by decide +kernel
theorem dX11_findGreatest_19 : decode cX11_findGreatest 19 = .ok (.bipush 6, 2) := by decide +kernel
theorem dX11_findGreatest_21 : decode cX11_findGreatest 21 = .ok (.if_icmp .gt 95, 3) := by decide +kernel
theorem dX11_findGreatest_24 : decode cX11_findGreatest 24 = .ok (.aload_n 0, 1) := by decide +kernel
theorem dX11_findGreatest_25 : decode cX11_findGreatest 25 = .ok (.iload_n 2, 1) := by decide +kernel
theorem dX11_findGreatest_26 : decode cX11_findGreatest 26 = .ok (.bipush 6, 2) := by decide +kernel
theorem dX11_findGreatest_28 : decode cX11_findGreatest 28 = .ok (.idiv, 1) := by decide +kernel
theorem dX11_findGreatest_29 : decode cX11_findGreatest 29 = .ok (.invokevirtual 115, 3) := by decide +kernel
theorem dX11_findGreatest_32 : decode cX11_findGreatest 32 = .ok (.ifCond .eq 84, 3) := by decide +kernel
theorem dX11_findGreatest_35 : decode cX11_findGreatest 35 = .ok (.aload_n 0, 1) := by decide +kernel
theorem dX11_findGreatest_36 : decode cX11_findGreatest 36 = .ok (.sipush 1560, 3) := by decide +kernel
theorem dX11_findGreatest_39 : decode cX11_findGreatest 39 = .ok (.sipush 780, 3) := by decide +kernel
theorem dX11_findGreatest_42 : decode cX11_findGreatest 42 = .ok (.iload_n 2, 1) := by decide +kernel
theorem dX11_findGreatest_43 : decode cX11_findGreatest 43 = .ok (.bipush 6, 2) := by decide +kernel
theorem dX11_findGreatest_45 : decode cX11_findGreatest 45 = .ok (.idiv, 1) := by decide +kernel
theorem dX11_findGreatest_46 : decode cX11_findGreatest 46 = .ok (.imul, 1) := by decide +kernel
theorem dX11_findGreatest_47 : decode cX11_findGreatest 47 = .ok (.iadd, 1) := by decide +kernel
theorem dX11_findGreatest_48 : decode cX11_findGreatest 48 = .ok (.iload_n 3, 1) := by decide +kernel
theorem dX11_findGreatest_49 : decode cX11_findGreatest 49 = .ok (.iload_n 1, 1) := by decide +kernel
theorem dX11_findGreatest_50 : decode cX11_findGreatest 50 = .ok (.iload_n 2, 1) := by decide +kernel
theorem dX11_findGreatest_51 : decode cX11_findGreatest 51 = .ok (.bipush 6, 2) := by decide +kernel
theorem dX11_findGreatest_53 : decode cX11_findGreatest 53 = .ok (.irem, 1) := by decide +kernel
theorem dX11_findGreatest_54 : decode cX11_findGreatest 54 = .ok (.invokevirtual 212, 3) := by decide +kernel
theorem dX11_findGreatest_57 : decode cX11_findGreatest 57 = .ok (.iconst 0, 1) := by decide +kernel
theorem dX11_findGreatest_58 : decode cX11_findGreatest 58 = .ok (.istore 4, 2) := by decide +kernel
theorem dX11_findGreatest_60 : decode cX11_findGreatest 60 = .ok (.iload 4, 2) := by decide +kernel
theorem dX11_findGreatest_62 : decode cX11_findGreatest 62 = .ok (.bipush 35, 2) := by decide +kernel
theorem dX11_findGreatest_64 : decode cX11_findGreatest 64 = .ok (.if_icmp .gt 46, 3) := by decide +kernel
theorem dX11_findGreatest_67 : decode cX11_findGreatest 67 = .ok (.aload_n 0, 1) := by decide +kernel
theorem dX11_findGreatest_68 : decode cX11_findGreatest 68 = .ok (.iconst 0, 1) := by decide +kernel
theorem dX11_findGreatest_69 : decode cX11_findGreatest 69 = .ok (.iload 4, 2) := by decide +kernel
theorem dX11_findGreatest_71 : decode cX11_findGreatest 71 = .ok (.invokevirtual 216, 3) := by decide +kernel
theorem dX11_findGreatest_74 : decode cX11_findGreatest 74 = .ok (.istore 5, 2) := by decide +kernel
theorem dX11_findGreatest_76 : decode cX11_findGreatest 76 = .ok (.aload_n 0, 1) := by decide +kernel
theorem dX11_findGreatest_77 : decode cX11_findGreatest 77 = .ok (.getfield 56, 3) := by decide +kernel
theorem dX11_findGreatest_80 : decode cX11_findGreatest 80 = .ok (.iload_n 2, 1) := by decide +kernel
theorem dX11_findGreatest_81 : decode cX11_findGreatest 81 = .ok (.iload 5, 2) := by decide +kernel
theorem dX11_findGreatest_83 : decode cX11_findGreatest 83 = .ok (.aload_n 0, 1) := by decide +kernel
theorem dX11_findGreatest_84 : decode cX11_findGreatest 84 = .ok (.getfield 56, 3) := by decide +kernel
theorem dX11_findGreatest_87 : decode cX11_findGreatest 87 = .ok (.iload_n 2, 1) := by decide +kernel
theorem dX11_findGreatest_88 : decode cX11_findGreatest 88 = .ok (.iaload, 1) := by decide +kernel
theorem dX11_findGreatest_89 : decode cX11_findGreatest 89 = .ok (.if_icmp .le 8, 3) := by decide +kernel
theorem dX11_findGreatest_92 : decode cX11_findGreatest 92 = .ok (.iload 5, 2) := by decide +kernel
theorem dX11_findGreatest_94 : decode cX11_findGreatest 94 = .ok (.goto 9, 3) := by decide +kernel
theorem dX11_findGreatest_97 : decode cX11_findGreatest 97 = .ok (.aload_n 0, 1) := by decide +kernel
theorem dX11_findGreatest_98 : decode cX11_findGreatest 98 = .ok (.getfield 56, 3) := by decide +kernel
theorem dX11_findGreatest_101 : decode cX11_findGreatest 101 = .ok (.iload_n 2, 1) := by decide +kernel
theorem dX11_findGreatest_102 : decode cX11_findGreatest 102 = .ok (.iaload, 1) := by decide +kernel
theorem dX11_findGreatest_103 : decode cX11_findGreatest 103 = .ok (.iastore, 1) := by decide +kernel
theorem dX11_findGreatest_104 : decode cX11_findGreatest 104 = .ok (.iinc 4 5, 3) := by decide +kernel
theorem dX11_findGreatest_107 : decode cX11_findGreatest 107 = .ok (.goto (-47), 3) := by decide +kernel
theorem dX11_findGreatest_110 : decode cX11_findGreatest 110 = .ok (.iinc 3 3, 3) := by decide +kernel
theorem dX11_findGreatest_113 : decode cX11_findGreatest 113 = .ok (.goto (-95), 3) := by decide +kernel
theorem dX11_findGreatest_116 : decode cX11_findGreatest 116 = .ok (.iinc 2 1, 3) := by decide +kernel
theorem dX11_findGreatest_119 : decode cX11_findGreatest 119 = .ok (.goto (-117), 3) := by decide +kernel
theorem dX11_findGreatest_122 : decode cX11_findGreatest 122 = .ok (.return_, 1) := by decide +kernel
def bX11_findGreatest : ol_SE := es_seq (es_seq (es_set 2 (ei_c 0)) (es_wh (ec_2 ol_lt (ei_v 2) (ei_c 24)) (es_seq (es_seq (es_as 100 (er_f 11 40 (er_v 0)) (ei_v 2) (ei_c 0)) (es_seq (es_set 3 (ei_c (-6))) (es_wh (ec_and (ec_2 ol_le (ei_v 3) (ei_c 6)) (ec_z ol_ne (ei_of (ea_cv 11 fX11_isTold (ea_r (er_v 0) (ea_i (ei_2 ol_div (ei_v 2) (ei_c 6)) (ea_0))))))) (es_seq (es_seq (es_of (ea_cv 11 fX11_findFells (ea_r (er_v 0) (ea_i (ei_2 ol_add (ei_c 1560) (ei_2 ol_mul (ei_c 780) (ei_2 ol_div (ei_v 2) (ei_c 6)))) (ea_i (ei_v 3) (ea_i (ei_v 1) (ea_i (ei_2 ol_rem (ei_v 2) (ei_c 6)) (ea_0)))))))) (es_seq (es_set 4 (ei_c 0)) (es_wh (ec_2 ol_le (ei_v 4) (ei_c 35)) (es_seq (es_seq (es_set 5 (ei_of (ea_cv 11 fX11_meanAt (ea_r (er_v 0) (ea_i (ei_c 0) (ea_i (ei_v 4) (ea_0))))))) (es_as 100 (er_f 11 40 (er_v 0)) (ei_v 2) (ei_if (ec_2 ol_gt (ei_v 5) (ei_a 100 (er_f 11 40 (er_v 0)) (ei_v 2))) (ei_v 5) (ei_a 100 (er_f 11 40 (er_v 0)) (ei_v 2))))) (es_inc 4 5))))) (es_inc 3 3))))) (es_inc 2 1)))) (es_retv)
def fX11_findGreatest : ol_FE := ol_fe 6 bX11_findGreatest
set_option maxRecDepth 20000 in
theorem imX11_findGreatest (x : ol_X) (K : ol_K) : IM_S x K mX11_findGreatest 0 0 bX11_findGreatest := rs_seq (p2 := 122) (rs_seq (p2 := 2) (rs_setn (ri_ic dX11_findGreatest_0 (by unfold ol_inR; omega)) dX11_findGreatest_1 rfl (ol_ltn rfl)) (rs_wh (pH := 2) (pB := 8) (pE := 122) (pG := 119) (rc_2F (pF := 122) ol_j2_ge_F (ri_vn dX11_findGreatest_2 rfl) (ri_bi dX11_findGreatest_3 (by unfold ol_inR; omega) (by decide)) dX11_findGreatest_5 (by decide)) (rs_seq (p2 := 116) (rs_seq (p2 := 15) (rs_as (rr_f (rr_vn dX11_findGreatest_8 rfl) gfX11_56 dX11_findGreatest_9) (ri_vn dX11_findGreatest_12 rfl) (ri_ic dX11_findGreatest_13 (by unfold ol_inR; omega)) dX11_findGreatest_14) (rs_seq (p2 := 18) (rs_setn (ri_bi dX11_findGreatest_15 (by unfold ol_inR; omega) (by decide)) dX11_findGreatest_17 rfl (ol_ltn rfl)) (rs_wh (pH := 18) (pB := 35) (pE := 116) (pG := 113) (rc_and (p2 := 24) (pT := 35) (pF := 116) (rc_2F (pF := 116) ol_j2_gt_F (ri_vn dX11_findGreatest_18 rfl) (ri_bi dX11_findGreatest_19 (by unfold ol_inR; omega) (by decide)) dX11_findGreatest_21 (by decide)) (rc_zF (pF := 116) ol_j1_eq_F (ri_k (rk_v (Mc := mX11_isTold) (conX11_isTold _ K) (ra_r (rr_vn dX11_findGreatest_24 rfl) (ra_i (ri_2 ol_op_div (ri_vn dX11_findGreatest_25 rfl) (ri_bi dX11_findGreatest_26 (by unfold ol_inR; omega) (by decide)) dX11_findGreatest_28) (ra_0))) dX11_findGreatest_29 cwX11_115 tw_1023 tw_31 (by decide) rfl rfl ⟨rfl, rfl, Nat.le_of_ble_eq_true rfl⟩ (by decide) (by decide) (al_r (al_i al_0))) (Or.inr (Or.inl rfl))) dX11_findGreatest_32 (by decide))) (rs_seq (p2 := 110) (rs_seq (p2 := 57) (rs_k (rk_v (Mc := mX11_findFells) (conX11_findFells _ K) (ra_r (rr_vn dX11_findGreatest_35 rfl) (ra_i (ri_2 ol_op_add (ri_si dX11_findGreatest_36 (by unfold ol_inR; omega) (by decide)) (ri_2 ol_op_mul (ri_si dX11_findGreatest_39 (by unfold ol_inR; omega) (by decide)) (ri_2 ol_op_div (ri_vn dX11_findGreatest_42 rfl) (ri_bi dX11_findGreatest_43 (by unfold ol_inR; omega) (by decide)) dX11_findGreatest_45) dX11_findGreatest_46) dX11_findGreatest_47) (ra_i (ri_vn dX11_findGreatest_48 rfl) (ra_i (ri_vn dX11_findGreatest_49 rfl) (ra_i (ri_2 ol_op_rem (ri_vn dX11_findGreatest_50 rfl) (ri_bi dX11_findGreatest_51 (by unfold ol_inR; omega) (by decide)) dX11_findGreatest_53) (ra_0)))))) dX11_findGreatest_54 cwX11_212 tw_1128 tw_42 (by decide) rfl rfl ⟨rfl, rfl, Nat.le_of_ble_eq_true rfl⟩ (by decide) (by decide) (al_r (al_i (al_i (al_i (al_i al_0))))))) (rs_seq (p2 := 60) (rs_set (ri_ic dX11_findGreatest_57 (by unfold ol_inR; omega)) dX11_findGreatest_58 (ol_ltn rfl)) (rs_wh (pH := 60) (pB := 67) (pE := 110) (pG := 107) (rc_2F (pF := 110) ol_j2_gt_F (ri_vi dX11_findGreatest_60) (ri_bi dX11_findGreatest_62 (by unfold ol_inR; omega) (by decide)) dX11_findGreatest_64 (by decide)) (rs_seq (p2 := 104) (rs_seq (p2 := 76) (rs_set (ri_k (rk_v (Mc := mX11_meanAt) (conX11_meanAt _ K) (ra_r (rr_vn dX11_findGreatest_67 rfl) (ra_i (ri_ic dX11_findGreatest_68 (by unfold ol_inR; omega)) (ra_i (ri_vi dX11_findGreatest_69) (ra_0)))) dX11_findGreatest_71 cwX11_216 tw_1132 tw_43 (by decide) rfl rfl ⟨rfl, rfl, Nat.le_of_ble_eq_true rfl⟩ (by decide) (by decide) (al_r (al_i (al_i al_0)))) (Or.inl rfl)) dX11_findGreatest_74 (ol_ltn rfl)) (rs_as (rr_f (rr_vn dX11_findGreatest_76 rfl) gfX11_56 dX11_findGreatest_77) (ri_vn dX11_findGreatest_80 rfl) (ri_if (pT := 92) (pF := 97) (p3 := 103) (rc_2F (pF := 97) ol_j2_le_F (ri_vi dX11_findGreatest_81) (ri_a (rr_f (rr_vn dX11_findGreatest_83 rfl) gfX11_56 dX11_findGreatest_84) (ri_vn dX11_findGreatest_87 rfl) rfl dX11_findGreatest_88) dX11_findGreatest_89 (by decide)) (ri_vi dX11_findGreatest_92) dX11_findGreatest_94 (by decide) (ri_a (rr_f (rr_vn dX11_findGreatest_97 rfl) gfX11_56 dX11_findGreatest_98) (ri_vn dX11_findGreatest_101 rfl) rfl dX11_findGreatest_102)) dX11_findGreatest_103)) (rs_inc dX11_findGreatest_104 (ol_ltn rfl))) dX11_findGreatest_107 (by decide)))) (rs_inc dX11_findGreatest_110 (ol_ltn rfl))) dX11_findGreatest_113 (by decide)))) (rs_inc dX11_findGreatest_116 (ol_ltn rfl))) dX11_findGreatest_119 (by decide))) (rs_retv rfl dX11_findGreatest_122)
theorem conX11_findGreatest (l : Launch) (K : ol_K) : ol_Con l K yX11_findGreatest mX11_findGreatest fX11_findGreatest := ol_con (M := mX11_findGreatest) (by decide) rfl rfl (imX11_findGreatest · K)
theorem dX7_readNumber_0 : decode cX7_readNumber 0 = .ok (.aload_n 0, 1) := by decide +kernel
theorem dX7_readNumber_1 : decode cX7_readNumber 1 = .ok (.invokevirtual 32, 3) := by decide +kernel
theorem dX7_readNumber_4 : decode cX7_readNumber 4 = .ok (.aload_n 0, 1) := by decide +kernel
theorem dX7_readNumber_5 : decode cX7_readNumber 5 = .ok (.getfield 35, 3) := by decide +kernel
theorem dX7_readNumber_8 : decode cX7_readNumber 8 = .ok (.iconst 3, 1) := by decide +kernel
theorem dX7_readNumber_9 : decode cX7_readNumber 9 = .ok (.if_icmp .ne 23, 3) := by decide +kernel
theorem dX7_readNumber_12 : decode cX7_readNumber 12 = .ok (.aload_n 0, 1) := by decide +kernel
theorem dX7_readNumber_13 : decode cX7_readNumber 13 = .ok (.getfield 52, 3) := by decide +kernel
theorem dX7_readNumber_16 : decode cX7_readNumber 16 = .ok (.iload_n 1, 1) := by decide +kernel
theorem dX7_readNumber_17 : decode cX7_readNumber 17 = .ok (.if_icmp .lt 15, 3) := by decide +kernel
theorem dX7_readNumber_20 : decode cX7_readNumber 20 = .ok (.aload_n 0, 1) := by decide +kernel
theorem dX7_readNumber_21 : decode cX7_readNumber 21 = .ok (.getfield 52, 3) := by decide +kernel
theorem dX7_readNumber_24 : decode cX7_readNumber 24 = .ok (.iload_n 2, 1) := by decide +kernel
theorem dX7_readNumber_25 : decode cX7_readNumber 25 = .ok (.if_icmp .gt 7, 3) := by decide +kernel
theorem dX7_readNumber_28 : decode cX7_readNumber 28 = .ok (.iconst 1, 1) := by decide +kernel
theorem dX7_readNumber_29 : decode cX7_readNumber 29 = .ok (.goto 4, 3) := by decide +kernel
theorem dX7_readNumber_32 : decode cX7_readNumber 32 = .ok (.iconst 0, 1) := by decide +kernel
theorem dX7_readNumber_33 : decode cX7_readNumber 33 = .ok (.ireturn, 1) := by decide +kernel
def bX7_readNumber : ol_SE := es_seq (es_of (ea_cv 7 fX7_readToken (ea_r (er_v 0) (ea_0)))) (es_retz (ei_if (ec_and (ec_and (ec_2 ol_eq (ei_f 7 5 (er_v 0)) (ei_c 3)) (ec_2 ol_ge (ei_f 7 6 (er_v 0)) (ei_v 1))) (ec_2 ol_le (ei_f 7 6 (er_v 0)) (ei_v 2))) (ei_c 1) (ei_c 0)))
def fX7_readNumber : ol_FE := ol_fe 3 bX7_readNumber
set_option maxRecDepth 20000 in
theorem imX7_readNumber (x : ol_X) (K : ol_K) : IM_S x K mX7_readNumber 0 0 bX7_readNumber := rs_seq (p2 := 4) (rs_k (rk_v (Mc := mX7_readToken) (conX7_readToken _ K) (ra_r (rr_vn dX7_readNumber_0 rfl) (ra_0)) dX7_readNumber_1 cwX7_32 tw_425 tw_0 (by decide) rfl rfl ⟨rfl, rfl, Nat.le_of_ble_eq_true rfl⟩ (by decide) (by decide) (al_r al_0))) (rs_retz (ri_if (pT := 28) (pF := 32) (p3 := 33) (rc_and (p2 := 20) (pT := 28) (pF := 32) (rc_and (p2 := 12) (pT := 20) (pF := 32) (rc_2F (pF := 32) ol_j2_ne_F (ri_f (rr_vn dX7_readNumber_4 rfl) gfX7_35 dX7_readNumber_5) (ri_ic dX7_readNumber_8 (by unfold ol_inR; omega)) dX7_readNumber_9 (by decide)) (rc_2F (pF := 32) ol_j2_lt_F (ri_f (rr_vn dX7_readNumber_12 rfl) gfX7_52 dX7_readNumber_13) (ri_vn dX7_readNumber_16 rfl) dX7_readNumber_17 (by decide))) (rc_2F (pF := 32) ol_j2_gt_F (ri_f (rr_vn dX7_readNumber_20 rfl) gfX7_52 dX7_readNumber_21) (ri_vn dX7_readNumber_24 rfl) dX7_readNumber_25 (by decide))) (ri_ic dX7_readNumber_28 (by unfold ol_inR; omega)) dX7_readNumber_29 (by decide) (ri_ic dX7_readNumber_32 (by unfold ol_inR; omega))) rfl dX7_readNumber_33)
theorem conX7_readNumber (l : Launch) (K : ol_K) : ol_Con l K yX7_readNumber mX7_readNumber fX7_readNumber := ol_con (M := mX7_readNumber) (by decide) rfl rfl (imX7_readNumber · K)
theorem dX11_trunk_0 : decode cX11_trunk 0 = .ok (.iload_n 1, 1) := by decide +kernel
theorem dX11_trunk_1 : decode cX11_trunk 1 = .ok (.iconst 1, 1) := by decide +kernel
theorem dX11_trunk_2 : decode cX11_trunk 2 = .ok (.iconst 3, 1) := by decide +kernel
theorem dX11_trunk_3 : decode cX11_trunk 3 = .ok (.invokestatic 63, 3) := by decide +kernel
theorem dX11_trunk_6 : decode cX11_trunk 6 = .ok (.ifCond .eq 23, 3) := by decide +kernel
theorem dX11_trunk_9 : decode cX11_trunk 9 = .ok (.iload_n 2, 1) := by decide +kernel
theorem dX11_trunk_10 : decode cX11_trunk 10 = .ok (.bipush (-30), 2) := by decide +kernel
theorem dX11_trunk_12 : decode cX11_trunk 12 = .ok (.bipush 30, 2) := by decide +kernel
theorem dX11_trunk_14 : decode cX11_trunk 14 = .ok (.invokestatic 63, 3) := by decide +kernel
theorem dX11_trunk_17 : decode cX11_trunk 17 = .ok (.ifCond .eq 12, 3) := by decide +kernel
theorem dX11_trunk_20 : decode cX11_trunk 20 = .ok (.iload_n 3, 1) := by decide +kernel
theorem dX11_trunk_21 : decode cX11_trunk 21 = .ok (.iconst 0, 1) := by decide +kernel
theorem dX11_trunk_22 : decode cX11_trunk 22 = .ok (.iconst 1, 1) := by decide +kernel
theorem dX11_trunk_23 : decode cX11_trunk 23 = .ok (.invokestatic 63, 3) := by decide +kernel
theorem dX11_trunk_26 : decode cX11_trunk 26 = .ok (.ifCond .ne 5, 3) := by decide +kernel
theorem dX11_trunk_29 : decode cX11_trunk 29 = .ok (.iconst (-1), 1) := by decide +kernel
theorem dX11_trunk_30 : decode cX11_trunk 30 = .ok (.ireturn, 1) := by decide +kernel
theorem dX11_trunk_31 : decode cX11_trunk 31 = .ok (.aload_n 0, 1) := by decide +kernel
theorem dX11_trunk_32 : decode cX11_trunk 32 = .ok (.iload_n 2, 1) := by decide +kernel
theorem dX11_trunk_33 : decode cX11_trunk 33 = .ok (.invokevirtual 243, 3) := by decide +kernel
theorem dX11_trunk_36 : decode cX11_trunk 36 = .ok (.iconst 0, 1) := by decide +kernel
theorem dX11_trunk_37 : decode cX11_trunk 37 = .ok (.istore 4, 2) := by decide +kernel
theorem dX11_trunk_39 : decode cX11_trunk 39 = .ok (.iconst (-1), 1) := by decide +kernel
theorem dX11_trunk_40 : decode cX11_trunk 40 = .ok (.istore 5, 2) := by decide +kernel
theorem dX11_trunk_42 : decode cX11_trunk 42 = .ok (.iconst 1, 1) := by decide +kernel
theorem dX11_trunk_43 : decode cX11_trunk 43 = .ok (.istore 6, 2) := by decide +kernel
theorem dX11_trunk_45 : decode cX11_trunk 45 = .ok (.iload 6, 2) := by decide +kernel
theorem dX11_trunk_47 : decode cX11_trunk 47 = .ok (.bipush 64, 2) := by decide +kernel
theorem dX11_trunk_49 : decode cX11_trunk 49 = .ok (.if_icmp .ge 153, 3) := by decide +kernel
theorem dX11_trunk_52 : decode cX11_trunk 52 = .ok (.iconst 0, 1) := by decide +kernel
theorem dX11_trunk_53 : decode cX11_trunk 53 = .ok (.istore 7, 2) := by decide +kernel
theorem dX11_trunk_55 : decode cX11_trunk 55 = .ok (.iconst 0, 1) := by decide +kernel
theorem dX11_trunk_56 : decode cX11_trunk 56 = .ok (.istore 8, 2) := by decide +kernel
theorem dX11_trunk_58 : decode cX11_trunk 58 = .ok (.iload 8, 2) := by decide +kernel
theorem dX11_trunk_60 : decode cX11_trunk 60 = .ok (.iconst 4, 1) := by decide +kernel
theorem dX11_trunk_61 : decode cX11_trunk 61 = .ok (.if_icmp .ge 84, 3) := by decide +kernel
theorem dX11_trunk_64 : decode cX11_trunk 64 = .ok (.iconst 0, 1) := by decide +kernel
theorem dX11_trunk_65 : decode cX11_trunk 65 = .ok (.istore 9, 2) := by decide +kernel
theorem dX11_trunk_67 : decode cX11_trunk 67 = .ok (.iconst 0, 1) := by decide +kernel
theorem dX11_trunk_68 : decode cX11_trunk 68 = .ok (.istore 10, 2) := by decide +kernel
theorem dX11_trunk_70 : decode cX11_trunk 70 = .ok (.iload 10, 2) := by decide +kernel
theorem dX11_trunk_72 : decode cX11_trunk 72 = .ok (.bipush 6, 2) := by decide +kernel
theorem dX11_trunk_74 : decode cX11_trunk 74 = .ok (.if_icmp .ge 58, 3) := by decide +kernel
theorem dX11_trunk_77 : decode cX11_trunk 77 = .ok (.iload 6, 2) := by decide +kernel
theorem dX11_trunk_79 : decode cX11_trunk 79 = .ok (.iload 10, 2) := by decide +kernel
theorem dX11_trunk_81 : decode cX11_trunk 81 = .ok (.ishr, 1) := by decide +kernel
theorem dX11_trunk_82 : decode cX11_trunk 82 = .ok (.iconst 1, 1) := by decide +kernel
theorem dX11_trunk_83 : decode cX11_trunk 83 = .ok (.iand, 1) := by decide +kernel
theorem dX11_trunk_84 : decode cX11_trunk 84 = .ok (.iconst 1, 1) := by decide +kernel
theorem dX11_trunk_85 : decode cX11_trunk 85 = .ok (.if_icmp .ne 37, 3) := by decide +kernel
theorem dX11_trunk_88 : decode cX11_trunk 88 = .ok (.aload_n 0, 1) := by decide +kernel
theorem dX11_trunk_89 : decode cX11_trunk 89 = .ok (.getfield 56, 3) := by decide +kernel
theorem dX11_trunk_92 : decode cX11_trunk 92 = .ok (.bipush 6, 2) := by decide +kernel
theorem dX11_trunk_94 : decode cX11_trunk 94 = .ok (.iload 8, 2) := by decide +kernel
theorem dX11_trunk_96 : decode cX11_trunk 96 = .ok (.imul, 1) := by decide +kernel
theorem dX11_trunk_97 : decode cX11_trunk 97 = .ok (.iload 10, 2) := by decide +kernel
theorem dX11_trunk_99 : decode cX11_trunk 99 = .ok (.iadd, 1) := by decide +kernel
theorem dX11_trunk_100 : decode cX11_trunk 100 = .ok (.iaload, 1) := by decide +kernel
theorem dX11_trunk_101 : decode cX11_trunk 101 = .ok (.iload 9, 2) := by decide +kernel
theorem dX11_trunk_103 : decode cX11_trunk 103 = .ok (.if_icmp .le 19, 3) := by decide +kernel
theorem dX11_trunk_106 : decode cX11_trunk 106 = .ok (.aload_n 0, 1) := by decide +kernel
theorem dX11_trunk_107 : decode cX11_trunk 107 = .ok (.getfield 56, 3) := by decide +kernel
theorem dX11_trunk_110 : decode cX11_trunk 110 = .ok (.bipush 6, 2) := by decide +kernel
theorem dX11_trunk_112 : decode cX11_trunk 112 = .ok (.iload 8, 2) := by decide +kernel
theorem dX11_trunk_114 : decode cX11_trunk 114 = .ok (.imul, 1) := by decide +kernel
theorem dX11_trunk_115 : decode cX11_trunk 115 = .ok (.iload 10, 2) := by decide +kernel
theorem dX11_trunk_117 : decode cX11_trunk 117 = .ok (.iadd, 1) := by decide +kernel
theorem dX11_trunk_118 : decode cX11_trunk 118 = .ok (.iaload, 1) := by decide +kernel
theorem dX11_trunk_119 : decode cX11_trunk 119 = .ok (.goto 5, 3) := by decide +kernel
theorem dX11_trunk_122 : decode cX11_trunk 122 = .ok (.iload 9, 2) := by decide +kernel
theorem dX11_trunk_124 : decode cX11_trunk 124 = .ok (.istore 9, 2) := by decide +kernel
theorem dX11_trunk_126 : decode cX11_trunk 126 = .ok (.iinc 10 1, 3) := by decide +kernel
theorem dX11_trunk_129 : decode cX11_trunk 129 = .ok (.goto (-59), 3) := by decide +kernel
theorem dX11_trunk_132 : decode cX11_trunk 132 = .ok (.iload 7, 2) := by decide +kernel
theorem dX11_trunk_134 : decode cX11_trunk 134 = .ok (.iload 9, 2) := by decide +kernel
theorem dX11_trunk_136 : decode cX11_trunk 136 = .ok (.iadd, 1) := by decide +kernel
theorem dX11_trunk_137 : decode cX11_trunk 137 = .ok (.istore 7, 2) := by decide +kernel
theorem dX11_trunk_139 : decode cX11_trunk 139 = .ok (.iinc 8 1, 3) := by decide +kernel
theorem dX11_trunk_142 : decode cX11_trunk 142 = .ok (.goto (-84), 3) := by decide +kernel
theorem dX11_trunk_145 : decode cX11_trunk 145 = .ok (.iload 6, 2) := by decide +kernel
theorem dX11_trunk_147 : decode cX11_trunk 147 = .ok (.invokestatic 183, 3) := by decide +kernel
theorem dX11_trunk_150 : decode cX11_trunk 150 = .ok (.iload_n 1, 1) := by decide +kernel
theorem dX11_trunk_151 : decode cX11_trunk 151 = .ok (.if_icmp .ne 14, 3) := by decide +kernel
theorem dX11_trunk_154 : decode cX11_trunk 154 = .ok (.iload 7, 2) := by decide +kernel
theorem dX11_trunk_156 : decode cX11_trunk 156 = .ok (.iload 5, 2) := by decide +kernel
theorem dX11_trunk_158 : decode cX11_trunk 158 = .ok (.if_icmp .le 7, 3) := by decide +kernel
theorem dX11_trunk_161 : decode cX11_trunk 161 = .ok (.iconst 1, 1) := by decide +kernel
theorem dX11_trunk_162 : decode cX11_trunk 162 = .ok (.goto 4, 3) := by decide +kernel
theorem dX11_trunk_165 : decode cX11_trunk 165 = .ok (.iconst 0, 1) := by decide +kernel
theorem dX11_trunk_166 : decode cX11_trunk 166 = .ok (.istore 8, 2) := by decide +kernel
theorem dX11_trunk_168 : decode cX11_trunk 168 = .ok (.iload 8, 2) := by decide +kernel
theorem dX11_trunk_170 : decode cX11_trunk 170 = .ok (.ifCond .eq 8, 3) := by decide +kernel
theorem dX11_trunk_173 : decode cX11_trunk 173 = .ok (.iload 6, 2) := by decide +kernel
theorem dX11_trunk_175 : decode cX11_trunk 175 = .ok (.goto 5, 3) := by decide +kernel
theorem dX11_trunk_178 : decode cX11_trunk 178 = .ok (.iload 4, 2) := by decide +kernel
theorem dX11_trunk_180 : decode cX11_trunk 180 = .ok (.istore 4, 2) := by decide +kernel
theorem dX11_trunk_182 : decode cX11_trunk 182 = .ok (.iload 8, 2) := by decide +kernel
theorem dX11_trunk_184 : decode cX11_trunk 184 = .ok (.ifCond .eq 8, 3) := by decide +kernel
theorem dX11_trunk_187 : decode cX11_trunk 187 = .ok (.iload 7, 2) := by decide +kernel
theorem dX11_trunk_189 : decode cX11_trunk 189 = .ok (.goto 5, 3) := by decide +kernel
theorem dX11_trunk_192 : decode cX11_trunk 192 = .ok (.iload 5, 2) := by decide +kernel
theorem dX11_trunk_194 : decode cX11_trunk 194 = .ok (.istore 5, 2) := by decide +kernel
theorem dX11_trunk_196 : decode cX11_trunk 196 = .ok (.iinc 6 1, 3) := by decide +kernel
theorem dX11_trunk_199 : decode cX11_trunk 199 = .ok (.goto (-154), 3) := by decide +kernel
theorem dX11_trunk_202 : decode cX11_trunk 202 = .ok (.iload_n 3, 1) := by decide +kernel
theorem dX11_trunk_203 : decode cX11_trunk 203 = .ok (.ifCond .ne 8, 3) := by decide +kernel
theorem dX11_trunk_206 : decode cX11_trunk 206 = .ok (.iload 4, 2) := by decide +kernel
theorem dX11_trunk_208 : decode cX11_trunk 208 = .ok (.goto 5, 3) := by decide +kernel
theorem dX11_trunk_211 : decode cX11_trunk 211 = .ok (.iload 5, 2) := by decide +kernel
theorem dX11_trunk_213 : decode cX11_trunk 213 = .ok (.ireturn, 1) := by decide +kernel
def bX11_trunk : ol_SE := es_seq (es_if (ec_or (ec_or (ec_not (ec_z ol_ne (ei_of (ea_cs fX11_in (ea_i (ei_v 1) (ea_i (ei_c 1) (ea_i (ei_c 3) (ea_0)))))))) (ec_not (ec_z ol_ne (ei_of (ea_cs fX11_in (ea_i (ei_v 2) (ea_i (ei_c (-30)) (ea_i (ei_c 30) (ea_0))))))))) (ec_not (ec_z ol_ne (ei_of (ea_cs fX11_in (ea_i (ei_v 3) (ea_i (ei_c 0) (ea_i (ei_c 1) (ea_0))))))))) (es_ret (ei_c (-1))) es_skip) (es_seq (es_of (ea_cv 11 fX11_findGreatest (ea_r (er_v 0) (ea_i (ei_v 2) (ea_0))))) (es_seq (es_set 4 (ei_c 0)) (es_seq (es_set 5 (ei_c (-1))) (es_seq (es_seq (es_set 6 (ei_c 1)) (es_wh (ec_2 ol_lt (ei_v 6) (ei_c 64)) (es_seq (es_seq (es_set 7 (ei_c 0)) (es_seq (es_seq (es_set 8 (ei_c 0)) (es_wh (ec_2 ol_lt (ei_v 8) (ei_c 4)) (es_seq (es_seq (es_set 9 (ei_c 0)) (es_seq (es_seq (es_set 10 (ei_c 0)) (es_wh (ec_2 ol_lt (ei_v 10) (ei_c 6)) (es_seq (es_set 9 (ei_if (ec_and (ec_2 ol_eq (ei_2 ol_and (ei_2 ol_shr (ei_v 6) (ei_v 10)) (ei_c 1)) (ei_c 1)) (ec_2 ol_gt (ei_a 100 (er_f 11 40 (er_v 0)) (ei_2 ol_add (ei_2 ol_mul (ei_c 6) (ei_v 8)) (ei_v 10))) (ei_v 9))) (ei_a 100 (er_f 11 40 (er_v 0)) (ei_2 ol_add (ei_2 ol_mul (ei_c 6) (ei_v 8)) (ei_v 10))) (ei_v 9))) (es_inc 10 1)))) (es_set 7 (ei_2 ol_add (ei_v 7) (ei_v 9))))) (es_inc 8 1)))) (es_seq (es_set 8 (ei_if (ec_and (ec_2 ol_eq (ei_of (ea_cs fX11_bitsIn (ea_i (ei_v 6) (ea_0)))) (ei_v 1)) (ec_2 ol_gt (ei_v 7) (ei_v 5))) (ei_c 1) (ei_c 0))) (es_seq (es_set 4 (ei_if (ec_z ol_ne (ei_v 8)) (ei_v 6) (ei_v 4))) (es_set 5 (ei_if (ec_z ol_ne (ei_v 8)) (ei_v 7) (ei_v 5))))))) (es_inc 6 1)))) (es_ret (ei_if (ec_z ol_eq (ei_v 3)) (ei_v 4) (ei_v 5)))))))
def fX11_trunk : ol_FE := ol_fe 11 bX11_trunk
set_option maxRecDepth 20000 in
theorem imX11_trunk (x : ol_X) (K : ol_K) : IM_S x K mX11_trunk 0 0 bX11_trunk := rs_seq (p2 := 31) (rs_if (pT := 29) (pF := 31) (pE := 31) (rc_or (p2 := 20) (pT := 29) (pF := 31) (rc_or (p2 := 9) (pT := 29) (pF := 20) (rc_not (rc_zF (pF := 29) ol_j1_eq_F (ri_k (rk_s (Mc := mX11_in) (conX11_in _ K) (ra_i (ri_vn dX11_trunk_0 rfl) (ra_i (ri_ic dX11_trunk_1 (by unfold ol_inR; omega)) (ra_i (ri_ic dX11_trunk_2 (by unfold ol_inR; omega)) (ra_0)))) dX11_trunk_3 cwX11_63 tw_981 ⟨rfl, rfl, Nat.le_of_ble_eq_true rfl⟩ (by decide) (by decide) (al_i (al_i (al_i al_0)))) (Or.inr (Or.inl rfl))) dX11_trunk_6 (by decide))) (rc_not (rc_zF (pF := 29) ol_j1_eq_F (ri_k (rk_s (Mc := mX11_in) (conX11_in _ K) (ra_i (ri_vn dX11_trunk_9 rfl) (ra_i (ri_bi dX11_trunk_10 (by unfold ol_inR; omega) (by decide)) (ra_i (ri_bi dX11_trunk_12 (by unfold ol_inR; omega) (by decide)) (ra_0)))) dX11_trunk_14 cwX11_63 tw_981 ⟨rfl, rfl, Nat.le_of_ble_eq_true rfl⟩ (by decide) (by decide) (al_i (al_i (al_i al_0)))) (Or.inr (Or.inl rfl))) dX11_trunk_17 (by decide)))) (rc_not (rc_zT (pT := 31) ol_j1_ne_T (ri_k (rk_s (Mc := mX11_in) (conX11_in _ K) (ra_i (ri_vn dX11_trunk_20 rfl) (ra_i (ri_ic dX11_trunk_21 (by unfold ol_inR; omega)) (ra_i (ri_ic dX11_trunk_22 (by unfold ol_inR; omega)) (ra_0)))) dX11_trunk_23 cwX11_63 tw_981 ⟨rfl, rfl, Nat.le_of_ble_eq_true rfl⟩ (by decide) (by decide) (al_i (al_i (al_i al_0)))) (Or.inr (Or.inl rfl))) dX11_trunk_26 (by decide)))) (rs_ret (ri_ic dX11_trunk_29 (by unfold ol_inR; omega)) rfl dX11_trunk_30) rs_skip) (rs_seq (p2 := 36) (rs_k (rk_v (Mc := mX11_findGreatest) (conX11_findGreatest _ K) (ra_r (rr_vn dX11_trunk_31 rfl) (ra_i (ri_vn dX11_trunk_32 rfl) (ra_0))) dX11_trunk_33 cwX11_243 tw_1196 tw_50 (by decide) rfl rfl ⟨rfl, rfl, Nat.le_of_ble_eq_true rfl⟩ (by decide) (by decide) (al_r (al_i al_0)))) (rs_seq (p2 := 39) (rs_set (ri_ic dX11_trunk_36 (by unfold ol_inR; omega)) dX11_trunk_37 (ol_ltn rfl)) (rs_seq (p2 := 42) (rs_set (ri_ic dX11_trunk_39 (by unfold ol_inR; omega)) dX11_trunk_40 (ol_ltn rfl)) (rs_seq (p2 := 202) (rs_seq (p2 := 45) (rs_set (ri_ic dX11_trunk_42 (by unfold ol_inR; omega)) dX11_trunk_43 (ol_ltn rfl)) (rs_wh (pH := 45) (pB := 52) (pE := 202) (pG := 199) (rc_2F (pF := 202) ol_j2_ge_F (ri_vi dX11_trunk_45) (ri_bi dX11_trunk_47 (by unfold ol_inR; omega) (by decide)) dX11_trunk_49 (by decide)) (rs_seq (p2 := 196) (rs_seq (p2 := 55) (rs_set (ri_ic dX11_trunk_52 (by unfold ol_inR; omega)) dX11_trunk_53 (ol_ltn rfl)) (rs_seq (p2 := 145) (rs_seq (p2 := 58) (rs_set (ri_ic dX11_trunk_55 (by unfold ol_inR; omega)) dX11_trunk_56 (ol_ltn rfl)) (rs_wh (pH := 58) (pB := 64) (pE := 145) (pG := 142) (rc_2F (pF := 145) ol_j2_ge_F (ri_vi dX11_trunk_58) (ri_ic dX11_trunk_60 (by unfold ol_inR; omega)) dX11_trunk_61 (by decide)) (rs_seq (p2 := 139) (rs_seq (p2 := 67) (rs_set (ri_ic dX11_trunk_64 (by unfold ol_inR; omega)) dX11_trunk_65 (ol_ltn rfl)) (rs_seq (p2 := 132) (rs_seq (p2 := 70) (rs_set (ri_ic dX11_trunk_67 (by unfold ol_inR; omega)) dX11_trunk_68 (ol_ltn rfl)) (rs_wh (pH := 70) (pB := 77) (pE := 132) (pG := 129) (rc_2F (pF := 132) ol_j2_ge_F (ri_vi dX11_trunk_70) (ri_bi dX11_trunk_72 (by unfold ol_inR; omega) (by decide)) dX11_trunk_74 (by decide)) (rs_seq (p2 := 126) (rs_set (ri_if (pT := 106) (pF := 122) (p3 := 124) (rc_and (p2 := 88) (pT := 106) (pF := 122) (rc_2F (pF := 122) ol_j2_ne_F (ri_2 ol_op_and (ri_2 ol_op_shr (ri_vi dX11_trunk_77) (ri_vi dX11_trunk_79) dX11_trunk_81) (ri_ic dX11_trunk_82 (by unfold ol_inR; omega)) dX11_trunk_83) (ri_ic dX11_trunk_84 (by unfold ol_inR; omega)) dX11_trunk_85 (by decide)) (rc_2F (pF := 122) ol_j2_le_F (ri_a (rr_f (rr_vn dX11_trunk_88 rfl) gfX11_56 dX11_trunk_89) (ri_2 ol_op_add (ri_2 ol_op_mul (ri_bi dX11_trunk_92 (by unfold ol_inR; omega) (by decide)) (ri_vi dX11_trunk_94) dX11_trunk_96) (ri_vi dX11_trunk_97) dX11_trunk_99) rfl dX11_trunk_100) (ri_vi dX11_trunk_101) dX11_trunk_103 (by decide))) (ri_a (rr_f (rr_vn dX11_trunk_106 rfl) gfX11_56 dX11_trunk_107) (ri_2 ol_op_add (ri_2 ol_op_mul (ri_bi dX11_trunk_110 (by unfold ol_inR; omega) (by decide)) (ri_vi dX11_trunk_112) dX11_trunk_114) (ri_vi dX11_trunk_115) dX11_trunk_117) rfl dX11_trunk_118) dX11_trunk_119 (by decide) (ri_vi dX11_trunk_122)) dX11_trunk_124 (ol_ltn rfl)) (rs_inc dX11_trunk_126 (ol_ltn rfl))) dX11_trunk_129 (by decide))) (rs_set (ri_2 ol_op_add (ri_vi dX11_trunk_132) (ri_vi dX11_trunk_134) dX11_trunk_136) dX11_trunk_137 (ol_ltn rfl)))) (rs_inc dX11_trunk_139 (ol_ltn rfl))) dX11_trunk_142 (by decide))) (rs_seq (p2 := 168) (rs_set (ri_if (pT := 161) (pF := 165) (p3 := 166) (rc_and (p2 := 154) (pT := 161) (pF := 165) (rc_2F (pF := 165) ol_j2_ne_F (ri_k (rk_s (Mc := mX11_bitsIn) (conX11_bitsIn _ K) (ra_i (ri_vi dX11_trunk_145) (ra_0)) dX11_trunk_147 cwX11_183 tw_1080 ⟨rfl, rfl, Nat.le_of_ble_eq_true rfl⟩ (by decide) (by decide) (al_i al_0)) (Or.inl rfl)) (ri_vn dX11_trunk_150 rfl) dX11_trunk_151 (by decide)) (rc_2F (pF := 165) ol_j2_le_F (ri_vi dX11_trunk_154) (ri_vi dX11_trunk_156) dX11_trunk_158 (by decide))) (ri_ic dX11_trunk_161 (by unfold ol_inR; omega)) dX11_trunk_162 (by decide) (ri_ic dX11_trunk_165 (by unfold ol_inR; omega))) dX11_trunk_166 (ol_ltn rfl)) (rs_seq (p2 := 182) (rs_set (ri_if (pT := 173) (pF := 178) (p3 := 180) (rc_zF (pF := 178) ol_j1_eq_F (ri_vi dX11_trunk_168) dX11_trunk_170 (by decide)) (ri_vi dX11_trunk_173) dX11_trunk_175 (by decide) (ri_vi dX11_trunk_178)) dX11_trunk_180 (ol_ltn rfl)) (rs_set (ri_if (pT := 187) (pF := 192) (p3 := 194) (rc_zF (pF := 192) ol_j1_eq_F (ri_vi dX11_trunk_182) dX11_trunk_184 (by decide)) (ri_vi dX11_trunk_187) dX11_trunk_189 (by decide) (ri_vi dX11_trunk_192)) dX11_trunk_194 (ol_ltn rfl)))))) (rs_inc dX11_trunk_196 (ol_ltn rfl))) dX11_trunk_199 (by decide))) (rs_ret (ri_if (pT := 206) (pF := 211) (p3 := 213) (rc_zF (pF := 211) ol_j1_ne_F (ri_vn dX11_trunk_202 rfl) dX11_trunk_203 (by decide)) (ri_vi dX11_trunk_206) dX11_trunk_208 (by decide) (ri_vi dX11_trunk_211)) rfl dX11_trunk_213)))))
theorem conX11_trunk (l : Launch) (K : ol_K) : ol_Con l K yX11_trunk mX11_trunk fX11_trunk := ol_con (M := mX11_trunk) (by decide) rfl rfl (imX11_trunk · K)
theorem dX7_readLay_0 : decode cX7_readLay 0 = .ok (.aload_n 0, 1) := by decide +kernel
theorem dX7_readLay_1 : decode cX7_readLay 1 = .ok (.iconst 0, 1) := by decide +kernel
theorem dX7_readLay_2 : decode cX7_readLay 2 = .ok (.bipush 38, 2) := by decide +kernel
theorem dX7_readLay_4 : decode cX7_readLay 4 = .ok (.invokevirtual 48, 3) := by decide +kernel
theorem dX7_readLay_7 : decode cX7_readLay 7 = .ok (.ifCond .ne 5, 3) := by decide +kernel
theorem dX7_readLay_10 : decode cX7_readLay 10 = .ok (.iconst 0, 1) := by decide +kernel
theorem dX7_readLay_11 : decode cX7_readLay 11 = .ok (.ireturn, 1) := by decide +kernel
theorem dX7_readLay_12 : decode cX7_readLay 12 = .ok (.aload_n 0, 1) := by decide +kernel
theorem dX7_readLay_13 : decode cX7_readLay 13 = .ok (.getfield 52, 3) := by decide +kernel
theorem dX7_readLay_16 : decode cX7_readLay 16 = .ok (.istore_n 1, 1) := by decide +kernel
theorem dX7_readLay_17 : decode cX7_readLay 17 = .ok (.aload_n 0, 1) := by decide +kernel
theorem dX7_readLay_18 : decode cX7_readLay 18 = .ok (.iload_n 1, 1) := by decide +kernel
theorem dX7_readLay_19 : decode cX7_readLay 19 = .ok (.bipush 38, 2) := by decide +kernel
theorem dX7_readLay_21 : decode cX7_readLay 21 = .ok (.invokevirtual 48, 3) := by decide +kernel
theorem dX7_readLay_24 : decode cX7_readLay 24 = .ok (.ifCond .ne 5, 3) := by decide +kernel
theorem dX7_readLay_27 : decode cX7_readLay 27 = .ok (.iconst 0, 1) := by decide +kernel
theorem dX7_readLay_28 : decode cX7_readLay 28 = .ok (.ireturn, 1) := by decide +kernel
theorem dX7_readLay_29 : decode cX7_readLay 29 = .ok (.aload_n 0, 1) := by decide +kernel
theorem dX7_readLay_30 : decode cX7_readLay 30 = .ok (.getfield 52, 3) := by decide +kernel
theorem dX7_readLay_33 : decode cX7_readLay 33 = .ok (.istore_n 2, 1) := by decide +kernel
theorem dX7_readLay_34 : decode cX7_readLay 34 = .ok (.aload_n 0, 1) := by decide +kernel
theorem dX7_readLay_35 : decode cX7_readLay 35 = .ok (.iconst 0, 1) := by decide +kernel
theorem dX7_readLay_36 : decode cX7_readLay 36 = .ok (.bipush 19, 2) := by decide +kernel
theorem dX7_readLay_38 : decode cX7_readLay 38 = .ok (.invokevirtual 48, 3) := by decide +kernel
theorem dX7_readLay_41 : decode cX7_readLay 41 = .ok (.ifCond .ne 5, 3) := by decide +kernel
theorem dX7_readLay_44 : decode cX7_readLay 44 = .ok (.iconst 0, 1) := by decide +kernel
theorem dX7_readLay_45 : decode cX7_readLay 45 = .ok (.ireturn, 1) := by decide +kernel
theorem dX7_readLay_46 : decode cX7_readLay 46 = .ok (.aload_n 0, 1) := by decide +kernel
theorem dX7_readLay_47 : decode cX7_readLay 47 = .ok (.getfield 52, 3) := by decide +kernel
theorem dX7_readLay_50 : decode cX7_readLay 50 = .ok (.istore_n 3, 1) := by decide +kernel
theorem dX7_readLay_51 : decode cX7_readLay 51 = .ok (.aload_n 0, 1) := by decide +kernel
theorem dX7_readLay_52 : decode cX7_readLay 52 = .ok (.iload_n 3, 1) := by decide +kernel
theorem dX7_readLay_53 : decode cX7_readLay 53 = .ok (.bipush 19, 2) := by decide +kernel
theorem dX7_readLay_55 : decode cX7_readLay 55 = .ok (.invokevirtual 48, 3) := by decide +kernel
theorem dX7_readLay_58 : decode cX7_readLay 58 = .ok (.ifCond .ne 5, 3) := by decide +kernel
theorem dX7_readLay_61 : decode cX7_readLay 61 = .ok (.iconst 0, 1) := by decide +kernel
theorem dX7_readLay_62 : decode cX7_readLay 62 = .ok (.ireturn, 1) := by decide +kernel
theorem dX7_readLay_63 : decode cX7_readLay 63 = .ok (.aload_n 0, 1) := by decide +kernel
theorem dX7_readLay_64 : decode cX7_readLay 64 = .ok (.getfield 52, 3) := by decide +kernel
theorem dX7_readLay_67 : decode cX7_readLay 67 = .ok (.istore 4, 2) := by decide +kernel
theorem dX7_readLay_69 : decode cX7_readLay 69 = .ok (.aload_n 0, 1) := by decide +kernel
theorem dX7_readLay_70 : decode cX7_readLay 70 = .ok (.iconst 1, 1) := by decide +kernel
theorem dX7_readLay_71 : decode cX7_readLay 71 = .ok (.bipush 30, 2) := by decide +kernel
theorem dX7_readLay_73 : decode cX7_readLay 73 = .ok (.invokevirtual 48, 3) := by decide +kernel
theorem dX7_readLay_76 : decode cX7_readLay 76 = .ok (.ifCond .ne 5, 3) := by decide +kernel
theorem dX7_readLay_79 : decode cX7_readLay 79 = .ok (.iconst 0, 1) := by decide +kernel
theorem dX7_readLay_80 : decode cX7_readLay 80 = .ok (.ireturn, 1) := by decide +kernel
theorem dX7_readLay_81 : decode cX7_readLay 81 = .ok (.aload_n 0, 1) := by decide +kernel
theorem dX7_readLay_82 : decode cX7_readLay 82 = .ok (.getfield 18, 3) := by decide +kernel
theorem dX7_readLay_85 : decode cX7_readLay 85 = .ok (.iload_n 1, 1) := by decide +kernel
theorem dX7_readLay_86 : decode cX7_readLay 86 = .ok (.iload_n 2, 1) := by decide +kernel
theorem dX7_readLay_87 : decode cX7_readLay 87 = .ok (.iload_n 3, 1) := by decide +kernel
theorem dX7_readLay_88 : decode cX7_readLay 88 = .ok (.iload 4, 2) := by decide +kernel
theorem dX7_readLay_90 : decode cX7_readLay 90 = .ok (.aload_n 0, 1) := by decide +kernel
theorem dX7_readLay_91 : decode cX7_readLay 91 = .ok (.getfield 52, 3) := by decide +kernel
theorem dX7_readLay_94 : decode cX7_readLay 94 = .ok (.invokevirtual 55, 3) := by decide +kernel
theorem dX7_readLay_97 : decode cX7_readLay 97 = .ok (.iconst 1, 1) := by decide +kernel
theorem dX7_readLay_98 : decode cX7_readLay 98 = .ok (.ireturn, 1) := by decide +kernel
def bX7_readLay : ol_SE := es_seq (es_if (ec_not (ec_z ol_ne (ei_of (ea_cv 7 fX7_readNumber (ea_r (er_v 0) (ea_i (ei_c 0) (ea_i (ei_c 38) (ea_0)))))))) (es_retz (ei_c 0)) es_skip) (es_seq (es_set 1 (ei_f 7 6 (er_v 0))) (es_seq (es_if (ec_not (ec_z ol_ne (ei_of (ea_cv 7 fX7_readNumber (ea_r (er_v 0) (ea_i (ei_v 1) (ea_i (ei_c 38) (ea_0)))))))) (es_retz (ei_c 0)) es_skip) (es_seq (es_set 2 (ei_f 7 6 (er_v 0))) (es_seq (es_if (ec_not (ec_z ol_ne (ei_of (ea_cv 7 fX7_readNumber (ea_r (er_v 0) (ea_i (ei_c 0) (ea_i (ei_c 19) (ea_0)))))))) (es_retz (ei_c 0)) es_skip) (es_seq (es_set 3 (ei_f 7 6 (er_v 0))) (es_seq (es_if (ec_not (ec_z ol_ne (ei_of (ea_cv 7 fX7_readNumber (ea_r (er_v 0) (ea_i (ei_v 3) (ea_i (ei_c 19) (ea_0)))))))) (es_retz (ei_c 0)) es_skip) (es_seq (es_set 4 (ei_f 7 6 (er_v 0))) (es_seq (es_if (ec_not (ec_z ol_ne (ei_of (ea_cv 7 fX7_readNumber (ea_r (er_v 0) (ea_i (ei_c 1) (ea_i (ei_c 30) (ea_0)))))))) (es_retz (ei_c 0)) es_skip) (es_seq (es_of (ea_cv 5 fX5_append (ea_r (er_f 7 1 (er_v 0)) (ea_i (ei_v 1) (ea_i (ei_v 2) (ea_i (ei_v 3) (ea_i (ei_v 4) (ea_i (ei_f 7 6 (er_v 0)) (ea_0))))))))) (es_retz (ei_c 1)))))))))))
def fX7_readLay : ol_FE := ol_fe 5 bX7_readLay
set_option maxRecDepth 20000 in
theorem imX7_readLay (x : ol_X) (K : ol_K) : IM_S x K mX7_readLay 0 0 bX7_readLay := rs_seq (p2 := 12) (rs_if (pT := 10) (pF := 12) (pE := 12) (rc_not (rc_zT (pT := 12) ol_j1_ne_T (ri_k (rk_v (Mc := mX7_readNumber) (conX7_readNumber _ K) (ra_r (rr_vn dX7_readLay_0 rfl) (ra_i (ri_ic dX7_readLay_1 (by unfold ol_inR; omega)) (ra_i (ri_bi dX7_readLay_2 (by unfold ol_inR; omega) (by decide)) (ra_0)))) dX7_readLay_4 cwX7_48 tw_501 tw_5 (by decide) rfl rfl ⟨rfl, rfl, Nat.le_of_ble_eq_true rfl⟩ (by decide) (by decide) (al_r (al_i (al_i al_0)))) (Or.inr (Or.inl rfl))) dX7_readLay_7 (by decide))) (rs_retz (ri_ic dX7_readLay_10 (by unfold ol_inR; omega)) rfl dX7_readLay_11) rs_skip) (rs_seq (p2 := 17) (rs_setn (ri_f (rr_vn dX7_readLay_12 rfl) gfX7_52 dX7_readLay_13) dX7_readLay_16 rfl (ol_ltn rfl)) (rs_seq (p2 := 29) (rs_if (pT := 27) (pF := 29) (pE := 29) (rc_not (rc_zT (pT := 29) ol_j1_ne_T (ri_k (rk_v (Mc := mX7_readNumber) (conX7_readNumber _ K) (ra_r (rr_vn dX7_readLay_17 rfl) (ra_i (ri_vn dX7_readLay_18 rfl) (ra_i (ri_bi dX7_readLay_19 (by unfold ol_inR; omega) (by decide)) (ra_0)))) dX7_readLay_21 cwX7_48 tw_501 tw_5 (by decide) rfl rfl ⟨rfl, rfl, Nat.le_of_ble_eq_true rfl⟩ (by decide) (by decide) (al_r (al_i (al_i al_0)))) (Or.inr (Or.inl rfl))) dX7_readLay_24 (by decide))) (rs_retz (ri_ic dX7_readLay_27 (by unfold ol_inR; omega)) rfl dX7_readLay_28) rs_skip) (rs_seq (p2 := 34) (rs_setn (ri_f (rr_vn dX7_readLay_29 rfl) gfX7_52 dX7_readLay_30) dX7_readLay_33 rfl (ol_ltn rfl)) (rs_seq (p2 := 46) (rs_if (pT := 44) (pF := 46) (pE := 46) (rc_not (rc_zT (pT := 46) ol_j1_ne_T (ri_k (rk_v (Mc := mX7_readNumber) (conX7_readNumber _ K) (ra_r (rr_vn dX7_readLay_34 rfl) (ra_i (ri_ic dX7_readLay_35 (by unfold ol_inR; omega)) (ra_i (ri_bi dX7_readLay_36 (by unfold ol_inR; omega) (by decide)) (ra_0)))) dX7_readLay_38 cwX7_48 tw_501 tw_5 (by decide) rfl rfl ⟨rfl, rfl, Nat.le_of_ble_eq_true rfl⟩ (by decide) (by decide) (al_r (al_i (al_i al_0)))) (Or.inr (Or.inl rfl))) dX7_readLay_41 (by decide))) (rs_retz (ri_ic dX7_readLay_44 (by unfold ol_inR; omega)) rfl dX7_readLay_45) rs_skip) (rs_seq (p2 := 51) (rs_setn (ri_f (rr_vn dX7_readLay_46 rfl) gfX7_52 dX7_readLay_47) dX7_readLay_50 rfl (ol_ltn rfl)) (rs_seq (p2 := 63) (rs_if (pT := 61) (pF := 63) (pE := 63) (rc_not (rc_zT (pT := 63) ol_j1_ne_T (ri_k (rk_v (Mc := mX7_readNumber) (conX7_readNumber _ K) (ra_r (rr_vn dX7_readLay_51 rfl) (ra_i (ri_vn dX7_readLay_52 rfl) (ra_i (ri_bi dX7_readLay_53 (by unfold ol_inR; omega) (by decide)) (ra_0)))) dX7_readLay_55 cwX7_48 tw_501 tw_5 (by decide) rfl rfl ⟨rfl, rfl, Nat.le_of_ble_eq_true rfl⟩ (by decide) (by decide) (al_r (al_i (al_i al_0)))) (Or.inr (Or.inl rfl))) dX7_readLay_58 (by decide))) (rs_retz (ri_ic dX7_readLay_61 (by unfold ol_inR; omega)) rfl dX7_readLay_62) rs_skip) (rs_seq (p2 := 69) (rs_set (ri_f (rr_vn dX7_readLay_63 rfl) gfX7_52 dX7_readLay_64) dX7_readLay_67 (ol_ltn rfl)) (rs_seq (p2 := 81) (rs_if (pT := 79) (pF := 81) (pE := 81) (rc_not (rc_zT (pT := 81) ol_j1_ne_T (ri_k (rk_v (Mc := mX7_readNumber) (conX7_readNumber _ K) (ra_r (rr_vn dX7_readLay_69 rfl) (ra_i (ri_ic dX7_readLay_70 (by unfold ol_inR; omega)) (ra_i (ri_bi dX7_readLay_71 (by unfold ol_inR; omega) (by decide)) (ra_0)))) dX7_readLay_73 cwX7_48 tw_501 tw_5 (by decide) rfl rfl ⟨rfl, rfl, Nat.le_of_ble_eq_true rfl⟩ (by decide) (by decide) (al_r (al_i (al_i al_0)))) (Or.inr (Or.inl rfl))) dX7_readLay_76 (by decide))) (rs_retz (ri_ic dX7_readLay_79 (by unfold ol_inR; omega)) rfl dX7_readLay_80) rs_skip) (rs_seq (p2 := 97) (rs_k (rk_v (Mc := mX5_append) (conX5_append _ K) (ra_r (rr_f (rr_vn dX7_readLay_81 rfl) gfX7_18 dX7_readLay_82) (ra_i (ri_vn dX7_readLay_85 rfl) (ra_i (ri_vn dX7_readLay_86 rfl) (ra_i (ri_vn dX7_readLay_87 rfl) (ra_i (ri_vi dX7_readLay_88) (ra_i (ri_f (rr_vn dX7_readLay_90 rfl) gfX7_52 dX7_readLay_91) (ra_0))))))) dX7_readLay_94 cwX7_55 tw_504 tw_505 (by decide) rfl rfl ⟨rfl, rfl, Nat.le_of_ble_eq_true rfl⟩ (by decide) (by decide) (al_r (al_i (al_i (al_i (al_i (al_i al_0)))))))) (rs_retz (ri_ic dX7_readLay_97 (by unfold ol_inR; omega)) rfl dX7_readLay_98))))))))))
theorem conX7_readLay (l : Launch) (K : ol_K) : ol_Con l K yX7_readLay mX7_readLay fX7_readLay := ol_con (M := mX7_readLay) (by decide) rfl rfl (imX7_readLay · K)
theorem dX7_readStrip_0 : decode cX7_readStrip 0 = .ok (.aload_n 0, 1) := by decide +kernel
theorem dX7_readStrip_1 : decode cX7_readStrip 1 = .ok (.iconst 0, 1) := by decide +kernel
theorem dX7_readStrip_2 : decode cX7_readStrip 2 = .ok (.bipush 19, 2) := by decide +kernel
theorem dX7_readStrip_4 : decode cX7_readStrip 4 = .ok (.invokevirtual 48, 3) := by decide +kernel
theorem dX7_readStrip_7 : decode cX7_readStrip 7 = .ok (.ifCond .ne 5, 3) := by decide +kernel
theorem dX7_readStrip_10 : decode cX7_readStrip 10 = .ok (.iconst 0, 1) := by decide +kernel
theorem dX7_readStrip_11 : decode cX7_readStrip 11 = .ok (.ireturn, 1) := by decide +kernel
theorem dX7_readStrip_12 : decode cX7_readStrip 12 = .ok (.aload_n 0, 1) := by decide +kernel
theorem dX7_readStrip_13 : decode cX7_readStrip 13 = .ok (.getfield 52, 3) := by decide +kernel
theorem dX7_readStrip_16 : decode cX7_readStrip 16 = .ok (.istore_n 1, 1) := by decide +kernel
theorem dX7_readStrip_17 : decode cX7_readStrip 17 = .ok (.aload_n 0, 1) := by decide +kernel
theorem dX7_readStrip_18 : decode cX7_readStrip 18 = .ok (.iload_n 1, 1) := by decide +kernel
theorem dX7_readStrip_19 : decode cX7_readStrip 19 = .ok (.bipush 19, 2) := by decide +kernel
theorem dX7_readStrip_21 : decode cX7_readStrip 21 = .ok (.invokevirtual 48, 3) := by decide +kernel
theorem dX7_readStrip_24 : decode cX7_readStrip 24 = .ok (.ifCond .ne 5, 3) := by decide +kernel
theorem dX7_readStrip_27 : decode cX7_readStrip 27 = .ok (.iconst 0, 1) := by decide +kernel
theorem dX7_readStrip_28 : decode cX7_readStrip 28 = .ok (.ireturn, 1) := by decide +kernel
theorem dX7_readStrip_29 : decode cX7_readStrip 29 = .ok (.aload_n 0, 1) := by decide +kernel
theorem dX7_readStrip_30 : decode cX7_readStrip 30 = .ok (.getfield 18, 3) := by decide +kernel
theorem dX7_readStrip_33 : decode cX7_readStrip 33 = .ok (.iconst 0, 1) := by decide +kernel
theorem dX7_readStrip_34 : decode cX7_readStrip 34 = .ok (.bipush 38, 2) := by decide +kernel
theorem dX7_readStrip_36 : decode cX7_readStrip 36 = .ok (.iload_n 1, 1) := by decide +kernel
theorem dX7_readStrip_37 : decode cX7_readStrip 37 = .ok (.aload_n 0, 1) := by decide +kernel
theorem dX7_readStrip_38 : decode cX7_readStrip 38 = .ok (.getfield 52, 3) := by decide +kernel
theorem dX7_readStrip_41 : decode cX7_readStrip 41 = .ok (.iconst 0, 1) := by decide +kernel
theorem dX7_readStrip_42 : decode cX7_readStrip 42 = .ok (.invokevirtual 55, 3) := by decide +kernel
theorem dX7_readStrip_45 : decode cX7_readStrip 45 = .ok (.iconst 1, 1) := by decide +kernel
theorem dX7_readStrip_46 : decode cX7_readStrip 46 = .ok (.ireturn, 1) := by decide +kernel
def bX7_readStrip : ol_SE := es_seq (es_if (ec_not (ec_z ol_ne (ei_of (ea_cv 7 fX7_readNumber (ea_r (er_v 0) (ea_i (ei_c 0) (ea_i (ei_c 19) (ea_0)))))))) (es_retz (ei_c 0)) es_skip) (es_seq (es_set 1 (ei_f 7 6 (er_v 0))) (es_seq (es_if (ec_not (ec_z ol_ne (ei_of (ea_cv 7 fX7_readNumber (ea_r (er_v 0) (ea_i (ei_v 1) (ea_i (ei_c 19) (ea_0)))))))) (es_retz (ei_c 0)) es_skip) (es_seq (es_of (ea_cv 5 fX5_append (ea_r (er_f 7 1 (er_v 0)) (ea_i (ei_c 0) (ea_i (ei_c 38) (ea_i (ei_v 1) (ea_i (ei_f 7 6 (er_v 0)) (ea_i (ei_c 0) (ea_0))))))))) (es_retz (ei_c 1)))))
def fX7_readStrip : ol_FE := ol_fe 2 bX7_readStrip
set_option maxRecDepth 20000 in
theorem imX7_readStrip (x : ol_X) (K : ol_K) : IM_S x K mX7_readStrip 0 0 bX7_readStrip := rs_seq (p2 := 12) (rs_if (pT := 10) (pF := 12) (pE := 12) (rc_not (rc_zT (pT := 12) ol_j1_ne_T (ri_k (rk_v (Mc := mX7_readNumber) (conX7_readNumber _ K) (ra_r (rr_vn dX7_readStrip_0 rfl) (ra_i (ri_ic dX7_readStrip_1 (by unfold ol_inR; omega)) (ra_i (ri_bi dX7_readStrip_2 (by unfold ol_inR; omega) (by decide)) (ra_0)))) dX7_readStrip_4 cwX7_48 tw_501 tw_5 (by decide) rfl rfl ⟨rfl, rfl, Nat.le_of_ble_eq_true rfl⟩ (by decide) (by decide) (al_r (al_i (al_i al_0)))) (Or.inr (Or.inl rfl))) dX7_readStrip_7 (by decide))) (rs_retz (ri_ic dX7_readStrip_10 (by unfold ol_inR; omega)) rfl dX7_readStrip_11) rs_skip) (rs_seq (p2 := 17) (rs_setn (ri_f (rr_vn dX7_readStrip_12 rfl) gfX7_52 dX7_readStrip_13) dX7_readStrip_16 rfl (ol_ltn rfl)) (rs_seq (p2 := 29) (rs_if (pT := 27) (pF := 29) (pE := 29) (rc_not (rc_zT (pT := 29) ol_j1_ne_T (ri_k (rk_v (Mc := mX7_readNumber) (conX7_readNumber _ K) (ra_r (rr_vn dX7_readStrip_17 rfl) (ra_i (ri_vn dX7_readStrip_18 rfl) (ra_i (ri_bi dX7_readStrip_19 (by unfold ol_inR; omega) (by decide)) (ra_0)))) dX7_readStrip_21 cwX7_48 tw_501 tw_5 (by decide) rfl rfl ⟨rfl, rfl, Nat.le_of_ble_eq_true rfl⟩ (by decide) (by decide) (al_r (al_i (al_i al_0)))) (Or.inr (Or.inl rfl))) dX7_readStrip_24 (by decide))) (rs_retz (ri_ic dX7_readStrip_27 (by unfold ol_inR; omega)) rfl dX7_readStrip_28) rs_skip) (rs_seq (p2 := 45) (rs_k (rk_v (Mc := mX5_append) (conX5_append _ K) (ra_r (rr_f (rr_vn dX7_readStrip_29 rfl) gfX7_18 dX7_readStrip_30) (ra_i (ri_ic dX7_readStrip_33 (by unfold ol_inR; omega)) (ra_i (ri_bi dX7_readStrip_34 (by unfold ol_inR; omega) (by decide)) (ra_i (ri_vn dX7_readStrip_36 rfl) (ra_i (ri_f (rr_vn dX7_readStrip_37 rfl) gfX7_52 dX7_readStrip_38) (ra_i (ri_ic dX7_readStrip_41 (by unfold ol_inR; omega)) (ra_0))))))) dX7_readStrip_42 cwX7_55 tw_504 tw_505 (by decide) rfl rfl ⟨rfl, rfl, Nat.le_of_ble_eq_true rfl⟩ (by decide) (by decide) (al_r (al_i (al_i (al_i (al_i (al_i al_0)))))))) (rs_retz (ri_ic dX7_readStrip_45 (by unfold ol_inR; omega)) rfl dX7_readStrip_46))))
theorem conX7_readStrip (l : Launch) (K : ol_K) : ol_Con l K yX7_readStrip mX7_readStrip fX7_readStrip := ol_con (M := mX7_readStrip) (by decide) rfl rfl (imX7_readStrip · K)
