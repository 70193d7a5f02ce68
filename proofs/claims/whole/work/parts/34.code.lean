/-! by program: what each method does, and that its code does it -/
theorem dX1_travel_0 : decode cX1_travel 0 = .ok (.aload_n 1, 1) := by decide +kernel
theorem dX1_travel_1 : decode cX1_travel 1 = .ok (.getfield 47, 3) := by decide +kernel
theorem dX1_travel_4 : decode cX1_travel 4 = .ok (.astore 7, 2) := by decide +kernel
theorem dX1_travel_6 : decode cX1_travel 6 = .ok (.aload_n 0, 1) := by decide +kernel
theorem dX1_travel_7 : decode cX1_travel 7 = .ok (.iload_n 2, 1) := by decide +kernel
theorem dX1_travel_8 : decode cX1_travel 8 = .ok (.bipush 10, 2) := by decide +kernel
theorem dX1_travel_10 : decode cX1_travel 10 = .ok (.imul, 1) := by decide +kernel
theorem dX1_travel_11 : decode cX1_travel 11 = .ok (.iconst 5, 1) := by decide +kernel
theorem dX1_travel_12 : decode cX1_travel 12 = .ok (.iadd, 1) := by decide +kernel
theorem dX1_travel_13 : decode cX1_travel 13 = .ok (.putfield 22, 3) := by decide +kernel
theorem dX1_travel_16 : decode cX1_travel 16 = .ok (.aload_n 0, 1) := by decide +kernel
theorem dX1_travel_17 : decode cX1_travel 17 = .ok (.iload_n 3, 1) := by decide +kernel
theorem dX1_travel_18 : decode cX1_travel 18 = .ok (.putfield 26, 3) := by decide +kernel
theorem dX1_travel_21 : decode cX1_travel 21 = .ok (.aload_n 0, 1) := by decide +kernel
theorem dX1_travel_22 : decode cX1_travel 22 = .ok (.iload 4, 2) := by decide +kernel
theorem dX1_travel_24 : decode cX1_travel 24 = .ok (.putfield 53, 3) := by decide +kernel
theorem dX1_travel_27 : decode cX1_travel 27 = .ok (.aload_n 0, 1) := by decide +kernel
theorem dX1_travel_28 : decode cX1_travel 28 = .ok (.iconst 0, 1) := by decide +kernel
theorem dX1_travel_29 : decode cX1_travel 29 = .ok (.putfield 56, 3) := by decide +kernel
theorem dX1_travel_32 : decode cX1_travel 32 = .ok (.aload_n 0, 1) := by decide +kernel
theorem dX1_travel_33 : decode cX1_travel 33 = .ok (.iconst 0, 1) := by decide +kernel
theorem dX1_travel_34 : decode cX1_travel 34 = .ok (.putfield 59, 3) := by decide +kernel
theorem dX1_travel_37 : decode cX1_travel 37 = .ok (.aload_n 0, 1) := by decide +kernel
theorem dX1_travel_38 : decode cX1_travel 38 = .ok (.iconst 0, 1) := by decide +kernel
theorem dX1_travel_39 : decode cX1_travel 39 = .ok (.putfield 62, 3) := by decide +kernel
theorem dX1_travel_42 : decode cX1_travel 42 = .ok (.iconst 0, 1) := by decide +kernel
theorem dX1_travel_43 : decode cX1_travel 43 = .ok (.istore 8, 2) := by decide +kernel
theorem dX1_travel_45 : decode cX1_travel 45 = .ok (.iload 8, 2) := by decide +kernel
theorem dX1_travel_47 : decode cX1_travel 47 = .ok (.sipush 780, 3) := by decide +kernel
theorem dX1_travel_50 : decode cX1_travel 50 = .ok (.if_icmp .ge 113, 3) := by decide +kernel
theorem dX1_travel_53 : decode cX1_travel 53 = .ok (.aload_n 0, 1) := by decide +kernel
theorem dX1_travel_54 : decode cX1_travel 54 = .ok (.getfield 22, 3) := by decide +kernel
theorem dX1_travel_57 : decode cX1_travel 57 = .ok (.iconst (-1), 1) := by decide +kernel
theorem dX1_travel_58 : decode cX1_travel 58 = .ok (.if_icmp .eq 105, 3) := by decide +kernel
theorem dX1_travel_61 : decode cX1_travel 61 = .ok (.iload 8, 2) := by decide +kernel
theorem dX1_travel_63 : decode cX1_travel 63 = .ok (.aload_n 0, 1) := by decide +kernel
theorem dX1_travel_64 : decode cX1_travel 64 = .ok (.getfield 22, 3) := by decide +kernel
theorem dX1_travel_67 : decode cX1_travel 67 = .ok (.bipush 10, 2) := by decide +kernel
theorem dX1_travel_69 : decode cX1_travel 69 = .ok (.idiv, 1) := by decide +kernel
theorem dX1_travel_70 : decode cX1_travel 70 = .ok (.iadd, 1) := by decide +kernel
theorem dX1_travel_71 : decode cX1_travel 71 = .ok (.istore 9, 2) := by decide +kernel
theorem dX1_travel_73 : decode cX1_travel 73 = .ok (.aload 7, 2) := by decide +kernel
theorem dX1_travel_75 : decode cX1_travel 75 = .ok (.iload 9, 2) := by decide +kernel
theorem dX1_travel_77 : decode cX1_travel 77 = .ok (.iaload, 1) := by decide +kernel
theorem dX1_travel_78 : decode cX1_travel 78 = .ok (.istore 10, 2) := by decide +kernel
theorem dX1_travel_80 : decode cX1_travel 80 = .ok (.aload_n 0, 1) := by decide +kernel
theorem dX1_travel_81 : decode cX1_travel 81 = .ok (.aload 5, 2) := by decide +kernel
theorem dX1_travel_83 : decode cX1_travel 83 = .ok (.getfield 65, 3) := by decide +kernel
theorem dX1_travel_86 : decode cX1_travel 86 = .ok (.iconst 0, 1) := by decide +kernel
theorem dX1_travel_87 : decode cX1_travel 87 = .ok (.bipush 10, 2) := by decide +kernel
theorem dX1_travel_89 : decode cX1_travel 89 = .ok (.iload 10, 2) := by decide +kernel
theorem dX1_travel_91 : decode cX1_travel 91 = .ok (.isub, 1) := by decide +kernel
theorem dX1_travel_92 : decode cX1_travel 92 = .ok (.invokestatic 68, 3) := by decide +kernel
theorem dX1_travel_95 : decode cX1_travel 95 = .ok (.imul, 1) := by decide +kernel
theorem dX1_travel_96 : decode cX1_travel 96 = .ok (.invokevirtual 74, 3) := by decide +kernel
theorem dX1_travel_99 : decode cX1_travel 99 = .ok (.aload_n 0, 1) := by decide +kernel
theorem dX1_travel_100 : decode cX1_travel 100 = .ok (.iload 10, 2) := by decide +kernel
theorem dX1_travel_102 : decode cX1_travel 102 = .ok (.invokevirtual 78, 3) := by decide +kernel
theorem dX1_travel_105 : decode cX1_travel 105 = .ok (.istore 11, 2) := by decide +kernel
theorem dX1_travel_107 : decode cX1_travel 107 = .ok (.iload 6, 2) := by decide +kernel
theorem dX1_travel_109 : decode cX1_travel 109 = .ok (.ifCond .eq 13, 3) := by decide +kernel
theorem dX1_travel_112 : decode cX1_travel 112 = .ok (.aload 7, 2) := by decide +kernel
theorem dX1_travel_114 : decode cX1_travel 114 = .ok (.iload 9, 2) := by decide +kernel
theorem dX1_travel_116 : decode cX1_travel 116 = .ok (.iload 10, 2) := by decide +kernel
theorem dX1_travel_118 : decode cX1_travel 118 = .ok (.iload 11, 2) := by decide +kernel
theorem dX1_travel_120 : decode cX1_travel 120 = .ok (.isub, 1) := by decide +kernel
theorem dX1_travel_121 : decode cX1_travel 121 = .ok (.iastore, 1) := by decide +kernel
theorem dX1_travel_122 : decode cX1_travel 122 = .ok (.aload_n 0, 1) := by decide +kernel
theorem dX1_travel_123 : decode cX1_travel 123 = .ok (.dup, 1) := by decide +kernel
theorem dX1_travel_124 : decode cX1_travel 124 = .ok (.getfield 22, 3) := by decide +kernel
theorem dX1_travel_127 : decode cX1_travel 127 = .ok (.aload_n 0, 1) := by decide +kernel
theorem dX1_travel_128 : decode cX1_travel 128 = .ok (.getfield 26, 3) := by decide +kernel
theorem dX1_travel_131 : decode cX1_travel 131 = .ok (.iadd, 1) := by decide +kernel
theorem dX1_travel_132 : decode cX1_travel 132 = .ok (.putfield 22, 3) := by decide +kernel
theorem dX1_travel_135 : decode cX1_travel 135 = .ok (.aload_n 0, 1) := by decide +kernel
theorem dX1_travel_136 : decode cX1_travel 136 = .ok (.getfield 22, 3) := by decide +kernel
theorem dX1_travel_139 : decode cX1_travel 139 = .ok (.ifCond .lt 13, 3) := by decide +kernel
theorem dX1_travel_142 : decode cX1_travel 142 = .ok (.aload_n 0, 1) := by decide +kernel
theorem dX1_travel_143 : decode cX1_travel 143 = .ok (.getfield 22, 3) := by decide +kernel
theorem dX1_travel_146 : decode cX1_travel 146 = .ok (.sipush 389, 3) := by decide +kernel
theorem dX1_travel_149 : decode cX1_travel 149 = .ok (.if_icmp .le 8, 3) := by decide +kernel
theorem dX1_travel_152 : decode cX1_travel 152 = .ok (.aload_n 0, 1) := by decide +kernel
theorem dX1_travel_153 : decode cX1_travel 153 = .ok (.iconst (-1), 1) := by decide +kernel
theorem dX1_travel_154 : decode cX1_travel 154 = .ok (.putfield 22, 3) := by decide +kernel
theorem dX1_travel_157 : decode cX1_travel 157 = .ok (.iinc 8 39, 3) := by decide +kernel
theorem dX1_travel_160 : decode cX1_travel 160 = .ok (.goto (-115), 3) := by decide +kernel
theorem dX1_travel_163 : decode cX1_travel 163 = .ok (.return_, 1) := by decide +kernel
def bX1_travel : ol_SE := es_seq (es_setr 7 (er_f 4 0 (er_v 1))) (es_seq (es_pf 1 1 (er_v 0) (ei_2 ol_add (ei_2 ol_mul (ei_v 2) (ei_c 10)) (ei_c 5))) (es_seq (es_pf 1 2 (er_v 0) (ei_v 3)) (es_seq (es_pf 1 3 (er_v 0) (ei_v 4)) (es_seq (es_pf 1 4 (er_v 0) (ei_c 0)) (es_seq (es_pf 1 5 (er_v 0) (ei_c 0)) (es_seq (es_pf 1 6 (er_v 0) (ei_c 0)) (es_seq (es_seq (es_set 8 (ei_c 0)) (es_wh (ec_and (ec_2 ol_lt (ei_v 8) (ei_c 780)) (ec_2 ol_ne (ei_f 1 1 (er_v 0)) (ei_c (-1)))) (es_seq (es_seq (es_set 9 (ei_2 ol_add (ei_v 8) (ei_2 ol_div (ei_f 1 1 (er_v 0)) (ei_c 10)))) (es_seq (es_set 10 (ei_a 100 (er_v 7) (ei_v 9))) (es_seq (es_of (ea_cv 1 fX1_turnOn (ea_r (er_v 0) (ea_i (ei_2 ol_mul (ei_f 0 0 (er_v 5)) (ei_2 ol_max (ei_c 0) (ei_2 ol_sub (ei_c 10) (ei_v 10)))) (ea_0))))) (es_seq (es_set 11 (ei_of (ea_cv 1 fX1_takeOil (ea_r (er_v 0) (ea_i (ei_v 10) (ea_0)))))) (es_seq (es_if (ec_z ol_ne (ei_v 6)) (es_as 100 (er_v 7) (ei_v 9) (ei_2 ol_sub (ei_v 10) (ei_v 11))) es_skip) (es_seq (es_uf 1 1 (er_v 0) ol_add (ei_f 1 2 (er_v 0))) (es_if (ec_or (ec_z ol_lt (ei_f 1 1 (er_v 0))) (ec_2 ol_gt (ei_f 1 1 (er_v 0)) (ei_c 389))) (es_pf 1 1 (er_v 0) (ei_c (-1))) es_skip))))))) (es_inc 8 39)))) (es_retv))))))))
def fX1_travel : ol_FE := ol_fe 12 bX1_travel
set_option maxRecDepth 20000 in
theorem imX1_travel (x : ol_X) (K : ol_K) : IM_S x K mX1_travel 0 0 bX1_travel := rs_seq (p2 := 6) (rs_setr (rr_f (rr_vn dX1_travel_0 rfl) gfX1_47 dX1_travel_1) dX1_travel_4 (ol_ltn rfl)) (rs_seq (p2 := 16) (rs_pf (rr_vn dX1_travel_6 rfl) (ri_2 ol_op_add (ri_2 ol_op_mul (ri_vn dX1_travel_7 rfl) (ri_bi dX1_travel_8 (by unfold ol_inR; omega) (by decide)) dX1_travel_10) (ri_ic dX1_travel_11 (by unfold ol_inR; omega)) dX1_travel_12) pfX1_22 rfl dX1_travel_13) (rs_seq (p2 := 21) (rs_pf (rr_vn dX1_travel_16 rfl) (ri_vn dX1_travel_17 rfl) pfX1_26 rfl dX1_travel_18) (rs_seq (p2 := 27) (rs_pf (rr_vn dX1_travel_21 rfl) (ri_vi dX1_travel_22) pfX1_53 rfl dX1_travel_24) (rs_seq (p2 := 32) (rs_pf (rr_vn dX1_travel_27 rfl) (ri_ic dX1_travel_28 (by unfold ol_inR; omega)) pfX1_56 rfl dX1_travel_29) (rs_seq (p2 := 37) (rs_pf (rr_vn dX1_travel_32 rfl) (ri_ic dX1_travel_33 (by unfold ol_inR; omega)) pfX1_59 rfl dX1_travel_34) (rs_seq (p2 := 42) (rs_pf (rr_vn dX1_travel_37 rfl) (ri_ic dX1_travel_38 (by unfold ol_inR; omega)) pfX1_62 rfl dX1_travel_39) (rs_seq (p2 := 163) (rs_seq (p2 := 45) (rs_set (ri_ic dX1_travel_42 (by unfold ol_inR; omega)) dX1_travel_43 (ol_ltn rfl)) (rs_wh (pH := 45) (pB := 61) (pE := 163) (pG := 160) (rc_and (p2 := 53) (pT := 61) (pF := 163) (rc_2F (pF := 163) ol_j2_ge_F (ri_vi dX1_travel_45) (ri_si dX1_travel_47 (by unfold ol_inR; omega) (by decide)) dX1_travel_50 (by decide)) (rc_2F (pF := 163) ol_j2_eq_F (ri_f (rr_vn dX1_travel_53 rfl) gfX1_22 dX1_travel_54) (ri_ic dX1_travel_57 (by unfold ol_inR; omega)) dX1_travel_58 (by decide))) (rs_seq (p2 := 157) (rs_seq (p2 := 73) (rs_set (ri_2 ol_op_add (ri_vi dX1_travel_61) (ri_2 ol_op_div (ri_f (rr_vn dX1_travel_63 rfl) gfX1_22 dX1_travel_64) (ri_bi dX1_travel_67 (by unfold ol_inR; omega) (by decide)) dX1_travel_69) dX1_travel_70) dX1_travel_71 (ol_ltn rfl)) (rs_seq (p2 := 80) (rs_set (ri_a (rr_vi dX1_travel_73) (ri_vi dX1_travel_75) rfl dX1_travel_77) dX1_travel_78 (ol_ltn rfl)) (rs_seq (p2 := 99) (rs_k (rk_v (Mc := mX1_turnOn) (conX1_turnOn _ K) (ra_r (rr_vn dX1_travel_80 rfl) (ra_i (ri_2 ol_op_mul (ri_f (rr_vi dX1_travel_81) gfX1_65 dX1_travel_83) (ri_mx (ri_ic dX1_travel_86 (by unfold ol_inR; omega)) (ri_2 ol_op_sub (ri_bi dX1_travel_87 (by unfold ol_inR; omega) (by decide)) (ri_vi dX1_travel_89) dX1_travel_91) dX1_travel_92 tw_579 ⟨tw_580, tw_69, tw_581⟩ (by decide) (by decide)) dX1_travel_95) (ra_0))) dX1_travel_96 cwX1_74 tw_584 tw_8 (by decide) rfl rfl ⟨rfl, rfl, Nat.le_of_ble_eq_true rfl⟩ (by decide) (by decide) (al_r (al_i al_0)))) (rs_seq (p2 := 107) (rs_set (ri_k (rk_v (Mc := mX1_takeOil) (conX1_takeOil _ K) (ra_r (rr_vn dX1_travel_99 rfl) (ra_i (ri_vi dX1_travel_100) (ra_0))) dX1_travel_102 cwX1_78 tw_589 tw_9 (by decide) rfl rfl ⟨rfl, rfl, Nat.le_of_ble_eq_true rfl⟩ (by decide) (by decide) (al_r (al_i al_0))) (Or.inl rfl)) dX1_travel_105 (ol_ltn rfl)) (rs_seq (p2 := 122) (rs_if (pT := 112) (pF := 122) (pE := 122) (rc_zF (pF := 122) ol_j1_eq_F (ri_vi dX1_travel_107) dX1_travel_109 (by decide)) (rs_as (rr_vi dX1_travel_112) (ri_vi dX1_travel_114) (ri_2 ol_op_sub (ri_vi dX1_travel_116) (ri_vi dX1_travel_118) dX1_travel_120) dX1_travel_121) rs_skip) (rs_seq (p2 := 135) (rs_uf ol_op_add (rr_vn dX1_travel_122 rfl) dX1_travel_123 dX1_travel_124 (ri_f (rr_vn dX1_travel_127 rfl) gfX1_26 dX1_travel_128) dX1_travel_131 gfX1_22 pfX1_22 rfl dX1_travel_132) (rs_if (pT := 152) (pF := 157) (pE := 157) (rc_or (p2 := 142) (pT := 152) (pF := 157) (rc_zT (pT := 152) ol_j1_lt_T (ri_f (rr_vn dX1_travel_135 rfl) gfX1_22 dX1_travel_136) dX1_travel_139 (by decide)) (rc_2F (pF := 157) ol_j2_le_F (ri_f (rr_vn dX1_travel_142 rfl) gfX1_22 dX1_travel_143) (ri_si dX1_travel_146 (by unfold ol_inR; omega) (by decide)) dX1_travel_149 (by decide))) (rs_pf (rr_vn dX1_travel_152 rfl) (ri_ic dX1_travel_153 (by unfold ol_inR; omega)) pfX1_22 rfl dX1_travel_154) rs_skip))))))) (rs_inc dX1_travel_157 (ol_ltn rfl))) dX1_travel_160 (by decide))) (rs_retv rfl dX1_travel_163))))))))
theorem conX1_travel (l : Launch) (K : ol_K) : ol_Con l K yX1_travel mX1_travel fX1_travel := ol_con (M := mX1_travel) (by decide) rfl rfl (imX1_travel · K)
theorem dX6_knock_0 : decode cX6_knock 0 = .ok (.iload_n 3, 1) := by decide +kernel
theorem dX6_knock_1 : decode cX6_knock 1 = .ok (.ifCond .gt 5, 3) := by decide +kernel
theorem dX6_knock_4 : decode cX6_knock 4 = .ok (.iconst 0, 1) := by decide +kernel
theorem dX6_knock_5 : decode cX6_knock 5 = .ok (.ireturn, 1) := by decide +kernel
theorem dX6_knock_6 : decode cX6_knock 6 = .ok (.aload_n 0, 1) := by decide +kernel
theorem dX6_knock_7 : decode cX6_knock 7 = .ok (.iconst 0, 1) := by decide +kernel
theorem dX6_knock_8 : decode cX6_knock 8 = .ok (.putfield 15, 3) := by decide +kernel
theorem dX6_knock_11 : decode cX6_knock 11 = .ok (.aload_n 0, 1) := by decide +kernel
theorem dX6_knock_12 : decode cX6_knock 12 = .ok (.iconst 0, 1) := by decide +kernel
theorem dX6_knock_13 : decode cX6_knock 13 = .ok (.putfield 19, 3) := by decide +kernel
theorem dX6_knock_16 : decode cX6_knock 16 = .ok (.iload_n 1, 1) := by decide +kernel
theorem dX6_knock_17 : decode cX6_knock 17 = .ok (.istore 5, 2) := by decide +kernel
theorem dX6_knock_19 : decode cX6_knock 19 = .ok (.iconst 0, 1) := by decide +kernel
theorem dX6_knock_20 : decode cX6_knock 20 = .ok (.istore 6, 2) := by decide +kernel
theorem dX6_knock_22 : decode cX6_knock 22 = .ok (.iconst 0, 1) := by decide +kernel
theorem dX6_knock_23 : decode cX6_knock 23 = .ok (.istore 7, 2) := by decide +kernel
theorem dX6_knock_25 : decode cX6_knock 25 = .ok (.iload 7, 2) := by decide +kernel
theorem dX6_knock_27 : decode cX6_knock 27 = .ok (.iconst 4, 1) := by decide +kernel
theorem dX6_knock_28 : decode cX6_knock 28 = .ok (.if_icmp .ge 167, 3) := by decide +kernel
theorem dX6_knock_31 : decode cX6_knock 31 = .ok (.iload 6, 2) := by decide +kernel
theorem dX6_knock_33 : decode cX6_knock 33 = .ok (.iload 7, 2) := by decide +kernel
theorem dX6_knock_35 : decode cX6_knock 35 = .ok (.iadd, 1) := by decide +kernel
theorem dX6_knock_36 : decode cX6_knock 36 = .ok (.istore 8, 2) := by decide +kernel
theorem dX6_knock_38 : decode cX6_knock 38 = .ok (.iload 6, 2) := by decide +kernel
theorem dX6_knock_40 : decode cX6_knock 40 = .ok (.istore 9, 2) := by decide +kernel
theorem dX6_knock_42 : decode cX6_knock 42 = .ok (.iload 9, 2) := by decide +kernel
theorem dX6_knock_44 : decode cX6_knock 44 = .ok (.iload 8, 2) := by decide +kernel
theorem dX6_knock_46 : decode cX6_knock 46 = .ok (.if_icmp .gt 68, 3) := by decide +kernel
theorem dX6_knock_49 : decode cX6_knock 49 = .ok (.getstatic 22, 3) := by decide +kernel
theorem dX6_knock_52 : decode cX6_knock 52 = .ok (.iload 9, 2) := by decide +kernel
theorem dX6_knock_54 : decode cX6_knock 54 = .ok (.iaload, 1) := by decide +kernel
theorem dX6_knock_55 : decode cX6_knock 55 = .ok (.iload 5, 2) := by decide +kernel
theorem dX6_knock_57 : decode cX6_knock 57 = .ok (.isub, 1) := by decide +kernel
theorem dX6_knock_58 : decode cX6_knock 58 = .ok (.istore 10, 2) := by decide +kernel
theorem dX6_knock_60 : decode cX6_knock 60 = .ok (.iload 4, 2) := by decide +kernel
theorem dX6_knock_62 : decode cX6_knock 62 = .ok (.iload 9, 2) := by decide +kernel
theorem dX6_knock_64 : decode cX6_knock 64 = .ok (.ishr, 1) := by decide +kernel
theorem dX6_knock_65 : decode cX6_knock 65 = .ok (.iconst 1, 1) := by decide +kernel
theorem dX6_knock_66 : decode cX6_knock 66 = .ok (.iand, 1) := by decide +kernel
theorem dX6_knock_67 : decode cX6_knock 67 = .ok (.ifCond .eq 41, 3) := by decide +kernel
theorem dX6_knock_70 : decode cX6_knock 70 = .ok (.iload 10, 2) := by decide +kernel
theorem dX6_knock_72 : decode cX6_knock 72 = .ok (.bipush (-25), 2) := by decide +kernel
theorem dX6_knock_74 : decode cX6_knock 74 = .ok (.if_icmp .lt 34, 3) := by decide +kernel
theorem dX6_knock_77 : decode cX6_knock 77 = .ok (.iload 10, 2) := by decide +kernel
theorem dX6_knock_79 : decode cX6_knock 79 = .ok (.bipush 25, 2) := by decide +kernel
theorem dX6_knock_81 : decode cX6_knock 81 = .ok (.if_icmp .gt 27, 3) := by decide +kernel
theorem dX6_knock_84 : decode cX6_knock 84 = .ok (.aload_n 0, 1) := by decide +kernel
theorem dX6_knock_85 : decode cX6_knock 85 = .ok (.iload 9, 2) := by decide +kernel
theorem dX6_knock_87 : decode cX6_knock 87 = .ok (.iload 7, 2) := by decide +kernel
theorem dX6_knock_89 : decode cX6_knock 89 = .ok (.iload 10, 2) := by decide +kernel
theorem dX6_knock_91 : decode cX6_knock 91 = .ok (.invokevirtual 25, 3) := by decide +kernel
theorem dX6_knock_94 : decode cX6_knock 94 = .ok (.iload 5, 2) := by decide +kernel
theorem dX6_knock_96 : decode cX6_knock 96 = .ok (.iload 10, 2) := by decide +kernel
theorem dX6_knock_98 : decode cX6_knock 98 = .ok (.iconst 5, 1) := by decide +kernel
theorem dX6_knock_99 : decode cX6_knock 99 = .ok (.idiv, 1) := by decide +kernel
theorem dX6_knock_100 : decode cX6_knock 100 = .ok (.bipush 12, 2) := by decide +kernel
theorem dX6_knock_102 : decode cX6_knock 102 = .ok (.imul, 1) := by decide +kernel
theorem dX6_knock_103 : decode cX6_knock 103 = .ok (.iload_n 3, 1) := by decide +kernel
theorem dX6_knock_104 : decode cX6_knock 104 = .ok (.idiv, 1) := by decide +kernel
theorem dX6_knock_105 : decode cX6_knock 105 = .ok (.isub, 1) := by decide +kernel
theorem dX6_knock_106 : decode cX6_knock 106 = .ok (.istore 5, 2) := by decide +kernel
theorem dX6_knock_108 : decode cX6_knock 108 = .ok (.iinc 9 1, 3) := by decide +kernel
theorem dX6_knock_111 : decode cX6_knock 111 = .ok (.goto (-69), 3) := by decide +kernel
theorem dX6_knock_114 : decode cX6_knock 114 = .ok (.aload_n 0, 1) := by decide +kernel
theorem dX6_knock_115 : decode cX6_knock 115 = .ok (.getfield 15, 3) := by decide +kernel
theorem dX6_knock_118 : decode cX6_knock 118 = .ok (.iload 4, 2) := by decide +kernel
theorem dX6_knock_120 : decode cX6_knock 120 = .ok (.iand, 1) := by decide +kernel
theorem dX6_knock_121 : decode cX6_knock 121 = .ok (.aload_n 0, 1) := by decide +kernel
theorem dX6_knock_122 : decode cX6_knock 122 = .ok (.getfield 19, 3) := by decide +kernel
theorem dX6_knock_125 : decode cX6_knock 125 = .ok (.iconst (-1), 1) := by decide +kernel
theorem dX6_knock_126 : decode cX6_knock 126 = .ok (.ixor, 1) := by decide +kernel
theorem dX6_knock_127 : decode cX6_knock 127 = .ok (.iand, 1) := by decide +kernel
theorem dX6_knock_128 : decode cX6_knock 128 = .ok (.istore 9, 2) := by decide +kernel
theorem dX6_knock_130 : decode cX6_knock 130 = .ok (.iload 6, 2) := by decide +kernel
theorem dX6_knock_132 : decode cX6_knock 132 = .ok (.istore 10, 2) := by decide +kernel
theorem dX6_knock_134 : decode cX6_knock 134 = .ok (.iload 10, 2) := by decide +kernel
theorem dX6_knock_136 : decode cX6_knock 136 = .ok (.iload 8, 2) := by decide +kernel
theorem dX6_knock_138 : decode cX6_knock 138 = .ok (.if_icmp .gt 39, 3) := by decide +kernel
theorem dX6_knock_141 : decode cX6_knock 141 = .ok (.iload 9, 2) := by decide +kernel
theorem dX6_knock_143 : decode cX6_knock 143 = .ok (.ifCond .eq 34, 3) := by decide +kernel
theorem dX6_knock_146 : decode cX6_knock 146 = .ok (.iload 9, 2) := by decide +kernel
theorem dX6_knock_148 : decode cX6_knock 148 = .ok (.iload 10, 2) := by decide +kernel
theorem dX6_knock_150 : decode cX6_knock 150 = .ok (.ishr, 1) := by decide +kernel
theorem dX6_knock_151 : decode cX6_knock 151 = .ok (.iconst 1, 1) := by decide +kernel
theorem dX6_knock_152 : decode cX6_knock 152 = .ok (.iand, 1) := by decide +kernel
theorem dX6_knock_153 : decode cX6_knock 153 = .ok (.ifCond .eq 18, 3) := by decide +kernel
theorem dX6_knock_156 : decode cX6_knock 156 = .ok (.aload_n 0, 1) := by decide +kernel
theorem dX6_knock_157 : decode cX6_knock 157 = .ok (.iload 10, 2) := by decide +kernel
theorem dX6_knock_159 : decode cX6_knock 159 = .ok (.iload 7, 2) := by decide +kernel
theorem dX6_knock_161 : decode cX6_knock 161 = .ok (.aload_n 0, 1) := by decide +kernel
theorem dX6_knock_162 : decode cX6_knock 162 = .ok (.getfield 9, 3) := by decide +kernel
theorem dX6_knock_165 : decode cX6_knock 165 = .ok (.iload 10, 2) := by decide +kernel
theorem dX6_knock_167 : decode cX6_knock 167 = .ok (.iaload, 1) := by decide +kernel
theorem dX6_knock_168 : decode cX6_knock 168 = .ok (.invokevirtual 25, 3) := by decide +kernel
theorem dX6_knock_171 : decode cX6_knock 171 = .ok (.iinc 10 1, 3) := by decide +kernel
theorem dX6_knock_174 : decode cX6_knock 174 = .ok (.goto (-40), 3) := by decide +kernel
theorem dX6_knock_177 : decode cX6_knock 177 = .ok (.iload 5, 2) := by decide +kernel
theorem dX6_knock_179 : decode cX6_knock 179 = .ok (.iload_n 2, 1) := by decide +kernel
theorem dX6_knock_180 : decode cX6_knock 180 = .ok (.iadd, 1) := by decide +kernel
theorem dX6_knock_181 : decode cX6_knock 181 = .ok (.istore 5, 2) := by decide +kernel
theorem dX6_knock_183 : decode cX6_knock 183 = .ok (.iload 8, 2) := by decide +kernel
theorem dX6_knock_185 : decode cX6_knock 185 = .ok (.iconst 1, 1) := by decide +kernel
theorem dX6_knock_186 : decode cX6_knock 186 = .ok (.iadd, 1) := by decide +kernel
theorem dX6_knock_187 : decode cX6_knock 187 = .ok (.istore 6, 2) := by decide +kernel
theorem dX6_knock_189 : decode cX6_knock 189 = .ok (.iinc 7 1, 3) := by decide +kernel
theorem dX6_knock_192 : decode cX6_knock 192 = .ok (.goto (-167), 3) := by decide +kernel
theorem dX6_knock_195 : decode cX6_knock 195 = .ok (.aload_n 0, 1) := by decide +kernel
theorem dX6_knock_196 : decode cX6_knock 196 = .ok (.getfield 19, 3) := by decide +kernel
theorem dX6_knock_199 : decode cX6_knock 199 = .ok (.ireturn, 1) := by decide +kernel
def bX6_knock : ol_SE := es_seq (es_if (ec_z ol_le (ei_v 3)) (es_ret (ei_c 0)) es_skip) (es_seq (es_pf 6 1 (er_v 0) (ei_c 0)) (es_seq (es_pf 6 2 (er_v 0) (ei_c 0)) (es_seq (es_set 5 (ei_v 1)) (es_seq (es_set 6 (ei_c 0)) (es_seq (es_seq (es_set 7 (ei_c 0)) (es_wh (ec_2 ol_lt (ei_v 7) (ei_c 4)) (es_seq (es_seq (es_set 8 (ei_2 ol_add (ei_v 6) (ei_v 7))) (es_seq (es_seq (es_set 9 (ei_v 6)) (es_wh (ec_2 ol_le (ei_v 9) (ei_v 8)) (es_seq (es_seq (es_set 10 (ei_2 ol_sub (ei_t 0 (ei_v 9)) (ei_v 5))) (es_if (ec_and (ec_and (ec_z ol_ne (ei_2 ol_and (ei_2 ol_shr (ei_v 4) (ei_v 9)) (ei_c 1))) (ec_2 ol_ge (ei_v 10) (ei_c (-25)))) (ec_2 ol_le (ei_v 10) (ei_c 25))) (es_seq (es_of (ea_cv 6 fX6_topple (ea_r (er_v 0) (ea_i (ei_v 9) (ea_i (ei_v 7) (ea_i (ei_v 10) (ea_0))))))) (es_set 5 (ei_2 ol_sub (ei_v 5) (ei_2 ol_div (ei_2 ol_mul (ei_2 ol_div (ei_v 10) (ei_c 5)) (ei_c 12)) (ei_v 3))))) es_skip)) (es_inc 9 1)))) (es_seq (es_set 9 (ei_2 ol_and (ei_2 ol_and (ei_f 6 1 (er_v 0)) (ei_v 4)) (ei_2 ol_xor (ei_f 6 2 (er_v 0)) (ei_c (-1))))) (es_seq (es_seq (es_set 10 (ei_v 6)) (es_wh (ec_and (ec_2 ol_le (ei_v 10) (ei_v 8)) (ec_z ol_ne (ei_v 9))) (es_seq (es_if (ec_z ol_ne (ei_2 ol_and (ei_2 ol_shr (ei_v 9) (ei_v 10)) (ei_c 1))) (es_of (ea_cv 6 fX6_topple (ea_r (er_v 0) (ea_i (ei_v 10) (ea_i (ei_v 7) (ea_i (ei_a 100 (er_f 6 0 (er_v 0)) (ei_v 10)) (ea_0))))))) es_skip) (es_inc 10 1)))) (es_seq (es_set 5 (ei_2 ol_add (ei_v 5) (ei_v 2))) (es_set 6 (ei_2 ol_add (ei_v 8) (ei_c 1)))))))) (es_inc 7 1)))) (es_ret (ei_f 6 2 (er_v 0))))))))
def fX6_knock : ol_FE := ol_fe 11 bX6_knock
set_option maxRecDepth 20000 in
theorem imX6_knock (x : ol_X) (K : ol_K) : IM_S x K mX6_knock 0 0 bX6_knock := rs_seq (p2 := 6) (rs_if (pT := 4) (pF := 6) (pE := 6) (rc_zF (pF := 6) ol_j1_gt_F (ri_vn dX6_knock_0 rfl) dX6_knock_1 (by decide)) (rs_ret (ri_ic dX6_knock_4 (by unfold ol_inR; omega)) rfl dX6_knock_5) rs_skip) (rs_seq (p2 := 11) (rs_pf (rr_vn dX6_knock_6 rfl) (ri_ic dX6_knock_7 (by unfold ol_inR; omega)) pfX6_15 rfl dX6_knock_8) (rs_seq (p2 := 16) (rs_pf (rr_vn dX6_knock_11 rfl) (ri_ic dX6_knock_12 (by unfold ol_inR; omega)) pfX6_19 rfl dX6_knock_13) (rs_seq (p2 := 19) (rs_set (ri_vn dX6_knock_16 rfl) dX6_knock_17 (ol_ltn rfl)) (rs_seq (p2 := 22) (rs_set (ri_ic dX6_knock_19 (by unfold ol_inR; omega)) dX6_knock_20 (ol_ltn rfl)) (rs_seq (p2 := 195) (rs_seq (p2 := 25) (rs_set (ri_ic dX6_knock_22 (by unfold ol_inR; omega)) dX6_knock_23 (ol_ltn rfl)) (rs_wh (pH := 25) (pB := 31) (pE := 195) (pG := 192) (rc_2F (pF := 195) ol_j2_ge_F (ri_vi dX6_knock_25) (ri_ic dX6_knock_27 (by unfold ol_inR; omega)) dX6_knock_28 (by decide)) (rs_seq (p2 := 189) (rs_seq (p2 := 38) (rs_set (ri_2 ol_op_add (ri_vi dX6_knock_31) (ri_vi dX6_knock_33) dX6_knock_35) dX6_knock_36 (ol_ltn rfl)) (rs_seq (p2 := 114) (rs_seq (p2 := 42) (rs_set (ri_vi dX6_knock_38) dX6_knock_40 (ol_ltn rfl)) (rs_wh (pH := 42) (pB := 49) (pE := 114) (pG := 111) (rc_2F (pF := 114) ol_j2_gt_F (ri_vi dX6_knock_42) (ri_vi dX6_knock_44) dX6_knock_46 (by decide)) (rs_seq (p2 := 108) (rs_seq (p2 := 60) (rs_set (ri_2 ol_op_sub (ri_tn (by decide) dX6_knock_49 rfl (ri_vi dX6_knock_52) dX6_knock_54) (ri_vi dX6_knock_55) dX6_knock_57) dX6_knock_58 (ol_ltn rfl)) (rs_if (pT := 84) (pF := 108) (pE := 108) (rc_and (p2 := 77) (pT := 84) (pF := 108) (rc_and (p2 := 70) (pT := 77) (pF := 108) (rc_zF (pF := 108) ol_j1_eq_F (ri_2 ol_op_and (ri_2 ol_op_shr (ri_vi dX6_knock_60) (ri_vi dX6_knock_62) dX6_knock_64) (ri_ic dX6_knock_65 (by unfold ol_inR; omega)) dX6_knock_66) dX6_knock_67 (by decide)) (rc_2F (pF := 108) ol_j2_lt_F (ri_vi dX6_knock_70) (ri_bi dX6_knock_72 (by unfold ol_inR; omega) (by decide)) dX6_knock_74 (by decide))) (rc_2F (pF := 108) ol_j2_gt_F (ri_vi dX6_knock_77) (ri_bi dX6_knock_79 (by unfold ol_inR; omega) (by decide)) dX6_knock_81 (by decide))) (rs_seq (p2 := 94) (rs_k (rk_v (Mc := mX6_topple) (conX6_topple _ K) (ra_r (rr_vn dX6_knock_84 rfl) (ra_i (ri_vi dX6_knock_85) (ra_i (ri_vi dX6_knock_87) (ra_i (ri_vi dX6_knock_89) (ra_0))))) dX6_knock_91 cwX6_25 tw_599 tw_10 (by decide) rfl rfl ⟨rfl, rfl, Nat.le_of_ble_eq_true rfl⟩ (by decide) (by decide) (al_r (al_i (al_i (al_i al_0)))))) (rs_set (ri_2 ol_op_sub (ri_vi dX6_knock_94) (ri_2 ol_op_div (ri_2 ol_op_mul (ri_2 ol_op_div (ri_vi dX6_knock_96) (ri_ic dX6_knock_98 (by unfold ol_inR; omega)) dX6_knock_99) (ri_bi dX6_knock_100 (by unfold ol_inR; omega) (by decide)) dX6_knock_102) (ri_vn dX6_knock_103 rfl) dX6_knock_104) dX6_knock_105) dX6_knock_106 (ol_ltn rfl))) rs_skip)) (rs_inc dX6_knock_108 (ol_ltn rfl))) dX6_knock_111 (by decide))) (rs_seq (p2 := 130) (rs_set (ri_2 ol_op_and (ri_2 ol_op_and (ri_f (rr_vn dX6_knock_114 rfl) gfX6_15 dX6_knock_115) (ri_vi dX6_knock_118) dX6_knock_120) (ri_2 ol_op_xor (ri_f (rr_vn dX6_knock_121 rfl) gfX6_19 dX6_knock_122) (ri_ic dX6_knock_125 (by unfold ol_inR; omega)) dX6_knock_126) dX6_knock_127) dX6_knock_128 (ol_ltn rfl)) (rs_seq (p2 := 177) (rs_seq (p2 := 134) (rs_set (ri_vi dX6_knock_130) dX6_knock_132 (ol_ltn rfl)) (rs_wh (pH := 134) (pB := 146) (pE := 177) (pG := 174) (rc_and (p2 := 141) (pT := 146) (pF := 177) (rc_2F (pF := 177) ol_j2_gt_F (ri_vi dX6_knock_134) (ri_vi dX6_knock_136) dX6_knock_138 (by decide)) (rc_zF (pF := 177) ol_j1_eq_F (ri_vi dX6_knock_141) dX6_knock_143 (by decide))) (rs_seq (p2 := 171) (rs_if (pT := 156) (pF := 171) (pE := 171) (rc_zF (pF := 171) ol_j1_eq_F (ri_2 ol_op_and (ri_2 ol_op_shr (ri_vi dX6_knock_146) (ri_vi dX6_knock_148) dX6_knock_150) (ri_ic dX6_knock_151 (by unfold ol_inR; omega)) dX6_knock_152) dX6_knock_153 (by decide)) (rs_k (rk_v (Mc := mX6_topple) (conX6_topple _ K) (ra_r (rr_vn dX6_knock_156 rfl) (ra_i (ri_vi dX6_knock_157) (ra_i (ri_vi dX6_knock_159) (ra_i (ri_a (rr_f (rr_vn dX6_knock_161 rfl) gfX6_9 dX6_knock_162) (ri_vi dX6_knock_165) rfl dX6_knock_167) (ra_0))))) dX6_knock_168 cwX6_25 tw_599 tw_10 (by decide) rfl rfl ⟨rfl, rfl, Nat.le_of_ble_eq_true rfl⟩ (by decide) (by decide) (al_r (al_i (al_i (al_i al_0)))))) rs_skip) (rs_inc dX6_knock_171 (ol_ltn rfl))) dX6_knock_174 (by decide))) (rs_seq (p2 := 183) (rs_set (ri_2 ol_op_add (ri_vi dX6_knock_177) (ri_vn dX6_knock_179 rfl) dX6_knock_180) dX6_knock_181 (ol_ltn rfl)) (rs_set (ri_2 ol_op_add (ri_vi dX6_knock_183) (ri_ic dX6_knock_185 (by unfold ol_inR; omega)) dX6_knock_186) dX6_knock_187 (ol_ltn rfl))))))) (rs_inc dX6_knock_189 (ol_ltn rfl))) dX6_knock_192 (by decide))) (rs_ret (ri_f (rr_vn dX6_knock_195 rfl) gfX6_19 dX6_knock_196) rfl dX6_knock_199))))))
theorem conX6_knock (l : Launch) (K : ol_K) : ol_Con l K yX6_knock mX6_knock fX6_knock := ol_con (M := mX6_knock) (by decide) rfl rfl (imX6_knock · K)
theorem dX1_pins_0 : decode cX1_pins 0 = .ok (.aload_n 0, 1) := by decide +kernel
theorem dX1_pins_1 : decode cX1_pins 1 = .ok (.getfield 38, 3) := by decide +kernel
theorem dX1_pins_4 : decode cX1_pins 4 = .ok (.invokestatic 41, 3) := by decide +kernel
theorem dX1_pins_7 : decode cX1_pins 7 = .ok (.ireturn, 1) := by decide +kernel
def bX1_pins : ol_SE := es_ret (ei_of (ea_cs fJ6_bitCount_0f7a4 (ea_i (ei_f 1 7 (er_v 0)) (ea_0))))
def fX1_pins : ol_FE := ol_fe 1 bX1_pins
set_option maxRecDepth 20000 in
theorem imX1_pins (x : ol_X) (K : ol_K) : IM_S x K mX1_pins 0 0 bX1_pins := rs_ret (ri_k (rk_s (Mc := mJ6_bitCount_0f7a4) (conJ6_bitCount_0f7a4 _ K) (ra_i (ri_f (rr_vn dX1_pins_0 rfl) gfX1_38 dX1_pins_1) (ra_0)) dX1_pins_4 cwX1_41 tw_606 ⟨rfl, rfl, Nat.le_of_ble_eq_true rfl⟩ (by decide) (by decide) (al_i al_0)) (Or.inl rfl)) rfl dX1_pins_7
theorem conX1_pins (l : Launch) (K : ol_K) : ol_Con l K yX1_pins mX1_pins fX1_pins := ol_con (M := mX1_pins) (by decide) rfl rfl (imX1_pins · K)
theorem dX3_reckonTenth_0 : decode cX3_reckonTenth 0 = .ok (.aload_n 0, 1) := by decide +kernel
theorem dX3_reckonTenth_1 : decode cX3_reckonTenth 1 = .ok (.getfield 15, 3) := by decide +kernel
theorem dX3_reckonTenth_4 : decode cX3_reckonTenth 4 = .ok (.iload_n 1, 1) := by decide +kernel
theorem dX3_reckonTenth_5 : decode cX3_reckonTenth 5 = .ok (.isub, 1) := by decide +kernel
theorem dX3_reckonTenth_6 : decode cX3_reckonTenth 6 = .ok (.istore_n 2, 1) := by decide +kernel
theorem dX3_reckonTenth_7 : decode cX3_reckonTenth 7 = .ok (.aload_n 0, 1) := by decide +kernel
theorem dX3_reckonTenth_8 : decode cX3_reckonTenth 8 = .ok (.iload_n 1, 1) := by decide +kernel
theorem dX3_reckonTenth_9 : decode cX3_reckonTenth 9 = .ok (.invokevirtual 32, 3) := by decide +kernel
theorem dX3_reckonTenth_12 : decode cX3_reckonTenth 12 = .ok (.istore_n 3, 1) := by decide +kernel
theorem dX3_reckonTenth_13 : decode cX3_reckonTenth 13 = .ok (.aload_n 0, 1) := by decide +kernel
theorem dX3_reckonTenth_14 : decode cX3_reckonTenth 14 = .ok (.iload_n 1, 1) := by decide +kernel
theorem dX3_reckonTenth_15 : decode cX3_reckonTenth 15 = .ok (.iconst 1, 1) := by decide +kernel
theorem dX3_reckonTenth_16 : decode cX3_reckonTenth 16 = .ok (.iadd, 1) := by decide +kernel
theorem dX3_reckonTenth_17 : decode cX3_reckonTenth 17 = .ok (.invokevirtual 32, 3) := by decide +kernel
theorem dX3_reckonTenth_20 : decode cX3_reckonTenth 20 = .ok (.istore 4, 2) := by decide +kernel
theorem dX3_reckonTenth_22 : decode cX3_reckonTenth 22 = .ok (.iload_n 3, 1) := by decide +kernel
theorem dX3_reckonTenth_23 : decode cX3_reckonTenth 23 = .ok (.bipush 10, 2) := by decide +kernel
theorem dX3_reckonTenth_25 : decode cX3_reckonTenth 25 = .ok (.if_icmp .ne 7, 3) := by decide +kernel
theorem dX3_reckonTenth_28 : decode cX3_reckonTenth 28 = .ok (.iconst 1, 1) := by decide +kernel
theorem dX3_reckonTenth_29 : decode cX3_reckonTenth 29 = .ok (.goto 4, 3) := by decide +kernel
theorem dX3_reckonTenth_32 : decode cX3_reckonTenth 32 = .ok (.iconst 0, 1) := by decide +kernel
theorem dX3_reckonTenth_33 : decode cX3_reckonTenth 33 = .ok (.istore 5, 2) := by decide +kernel
theorem dX3_reckonTenth_35 : decode cX3_reckonTenth 35 = .ok (.iload 5, 2) := by decide +kernel
theorem dX3_reckonTenth_37 : decode cX3_reckonTenth 37 = .ok (.ifCond .ne 16, 3) := by decide +kernel
theorem dX3_reckonTenth_40 : decode cX3_reckonTenth 40 = .ok (.iload_n 3, 1) := by decide +kernel
theorem dX3_reckonTenth_41 : decode cX3_reckonTenth 41 = .ok (.iload 4, 2) := by decide +kernel
theorem dX3_reckonTenth_43 : decode cX3_reckonTenth 43 = .ok (.iadd, 1) := by decide +kernel
theorem dX3_reckonTenth_44 : decode cX3_reckonTenth 44 = .ok (.bipush 10, 2) := by decide +kernel
theorem dX3_reckonTenth_46 : decode cX3_reckonTenth 46 = .ok (.if_icmp .ne 7, 3) := by decide +kernel
theorem dX3_reckonTenth_49 : decode cX3_reckonTenth 49 = .ok (.iconst 1, 1) := by decide +kernel
theorem dX3_reckonTenth_50 : decode cX3_reckonTenth 50 = .ok (.goto 4, 3) := by decide +kernel
theorem dX3_reckonTenth_53 : decode cX3_reckonTenth 53 = .ok (.iconst 0, 1) := by decide +kernel
theorem dX3_reckonTenth_54 : decode cX3_reckonTenth 54 = .ok (.istore 6, 2) := by decide +kernel
theorem dX3_reckonTenth_56 : decode cX3_reckonTenth 56 = .ok (.iload_n 2, 1) := by decide +kernel
theorem dX3_reckonTenth_57 : decode cX3_reckonTenth 57 = .ok (.iconst 1, 1) := by decide +kernel
theorem dX3_reckonTenth_58 : decode cX3_reckonTenth 58 = .ok (.if_icmp .ne 24, 3) := by decide +kernel
theorem dX3_reckonTenth_61 : decode cX3_reckonTenth 61 = .ok (.aload_n 0, 1) := by decide +kernel
theorem dX3_reckonTenth_62 : decode cX3_reckonTenth 62 = .ok (.iload 5, 2) := by decide +kernel
theorem dX3_reckonTenth_64 : decode cX3_reckonTenth 64 = .ok (.ifCond .eq 8, 3) := by decide +kernel
theorem dX3_reckonTenth_67 : decode cX3_reckonTenth 67 = .ok (.bipush 10, 2) := by decide +kernel
theorem dX3_reckonTenth_69 : decode cX3_reckonTenth 69 = .ok (.goto 7, 3) := by decide +kernel
theorem dX3_reckonTenth_72 : decode cX3_reckonTenth 72 = .ok (.bipush 10, 2) := by decide +kernel
theorem dX3_reckonTenth_74 : decode cX3_reckonTenth 74 = .ok (.iload_n 3, 1) := by decide +kernel
theorem dX3_reckonTenth_75 : decode cX3_reckonTenth 75 = .ok (.isub, 1) := by decide +kernel
theorem dX3_reckonTenth_76 : decode cX3_reckonTenth 76 = .ok (.putfield 25, 3) := by decide +kernel
theorem dX3_reckonTenth_79 : decode cX3_reckonTenth 79 = .ok (.goto 34, 3) := by decide +kernel
theorem dX3_reckonTenth_82 : decode cX3_reckonTenth 82 = .ok (.iload_n 2, 1) := by decide +kernel
theorem dX3_reckonTenth_83 : decode cX3_reckonTenth 83 = .ok (.iconst 2, 1) := by decide +kernel
theorem dX3_reckonTenth_84 : decode cX3_reckonTenth 84 = .ok (.if_icmp .ne 29, 3) := by decide +kernel
theorem dX3_reckonTenth_87 : decode cX3_reckonTenth 87 = .ok (.aload_n 0, 1) := by decide +kernel
theorem dX3_reckonTenth_88 : decode cX3_reckonTenth 88 = .ok (.iload 5, 2) := by decide +kernel
theorem dX3_reckonTenth_90 : decode cX3_reckonTenth 90 = .ok (.ifCond .eq 18, 3) := by decide +kernel
theorem dX3_reckonTenth_93 : decode cX3_reckonTenth 93 = .ok (.iload 4, 2) := by decide +kernel
theorem dX3_reckonTenth_95 : decode cX3_reckonTenth 95 = .ok (.bipush 10, 2) := by decide +kernel
theorem dX3_reckonTenth_97 : decode cX3_reckonTenth 97 = .ok (.if_icmp .ge 11, 3) := by decide +kernel
theorem dX3_reckonTenth_100 : decode cX3_reckonTenth 100 = .ok (.bipush 10, 2) := by decide +kernel
theorem dX3_reckonTenth_102 : decode cX3_reckonTenth 102 = .ok (.iload 4, 2) := by decide +kernel
theorem dX3_reckonTenth_104 : decode cX3_reckonTenth 104 = .ok (.isub, 1) := by decide +kernel
theorem dX3_reckonTenth_105 : decode cX3_reckonTenth 105 = .ok (.goto 5, 3) := by decide +kernel
theorem dX3_reckonTenth_108 : decode cX3_reckonTenth 108 = .ok (.bipush 10, 2) := by decide +kernel
theorem dX3_reckonTenth_110 : decode cX3_reckonTenth 110 = .ok (.putfield 25, 3) := by decide +kernel
theorem dX3_reckonTenth_113 : decode cX3_reckonTenth 113 = .ok (.aload_n 0, 1) := by decide +kernel
theorem dX3_reckonTenth_114 : decode cX3_reckonTenth 114 = .ok (.iload_n 2, 1) := by decide +kernel
theorem dX3_reckonTenth_115 : decode cX3_reckonTenth 115 = .ok (.iload 5, 2) := by decide +kernel
theorem dX3_reckonTenth_117 : decode cX3_reckonTenth 117 = .ok (.ifCond .ne 8, 3) := by decide +kernel
theorem dX3_reckonTenth_120 : decode cX3_reckonTenth 120 = .ok (.iload 6, 2) := by decide +kernel
theorem dX3_reckonTenth_122 : decode cX3_reckonTenth 122 = .ok (.ifCond .eq 7, 3) := by decide +kernel
theorem dX3_reckonTenth_125 : decode cX3_reckonTenth 125 = .ok (.iconst 3, 1) := by decide +kernel
theorem dX3_reckonTenth_126 : decode cX3_reckonTenth 126 = .ok (.goto 4, 3) := by decide +kernel
theorem dX3_reckonTenth_129 : decode cX3_reckonTenth 129 = .ok (.iconst 2, 1) := by decide +kernel
theorem dX3_reckonTenth_130 : decode cX3_reckonTenth 130 = .ok (.if_icmp .lt 7, 3) := by decide +kernel
theorem dX3_reckonTenth_133 : decode cX3_reckonTenth 133 = .ok (.iconst 1, 1) := by decide +kernel
theorem dX3_reckonTenth_134 : decode cX3_reckonTenth 134 = .ok (.goto 4, 3) := by decide +kernel
theorem dX3_reckonTenth_137 : decode cX3_reckonTenth 137 = .ok (.iconst 0, 1) := by decide +kernel
theorem dX3_reckonTenth_138 : decode cX3_reckonTenth 138 = .ok (.putfield 28, 3) := by decide +kernel
theorem dX3_reckonTenth_141 : decode cX3_reckonTenth 141 = .ok (.aload_n 0, 1) := by decide +kernel
theorem dX3_reckonTenth_142 : decode cX3_reckonTenth 142 = .ok (.getfield 28, 3) := by decide +kernel
theorem dX3_reckonTenth_145 : decode cX3_reckonTenth 145 = .ok (.ifCond .eq 34, 3) := by decide +kernel
theorem dX3_reckonTenth_148 : decode cX3_reckonTenth 148 = .ok (.aload_n 0, 1) := by decide +kernel
theorem dX3_reckonTenth_149 : decode cX3_reckonTenth 149 = .ok (.dup, 1) := by decide +kernel
theorem dX3_reckonTenth_150 : decode cX3_reckonTenth 150 = .ok (.getfield 19, 3) := by decide +kernel
theorem dX3_reckonTenth_153 : decode cX3_reckonTenth 153 = .ok (.iload_n 3, 1) := by decide +kernel
theorem dX3_reckonTenth_154 : decode cX3_reckonTenth 154 = .ok (.iload 4, 2) := by decide +kernel
theorem dX3_reckonTenth_156 : decode cX3_reckonTenth 156 = .ok (.iadd, 1) := by decide +kernel
theorem dX3_reckonTenth_157 : decode cX3_reckonTenth 157 = .ok (.aload_n 0, 1) := by decide +kernel
theorem dX3_reckonTenth_158 : decode cX3_reckonTenth 158 = .ok (.iload_n 1, 1) := by decide +kernel
theorem dX3_reckonTenth_159 : decode cX3_reckonTenth 159 = .ok (.iconst 2, 1) := by decide +kernel
theorem dX3_reckonTenth_160 : decode cX3_reckonTenth 160 = .ok (.iadd, 1) := by decide +kernel
theorem dX3_reckonTenth_161 : decode cX3_reckonTenth 161 = .ok (.invokevirtual 32, 3) := by decide +kernel
theorem dX3_reckonTenth_164 : decode cX3_reckonTenth 164 = .ok (.iadd, 1) := by decide +kernel
theorem dX3_reckonTenth_165 : decode cX3_reckonTenth 165 = .ok (.iadd, 1) := by decide +kernel
theorem dX3_reckonTenth_166 : decode cX3_reckonTenth 166 = .ok (.putfield 19, 3) := by decide +kernel
theorem dX3_reckonTenth_169 : decode cX3_reckonTenth 169 = .ok (.aload_n 0, 1) := by decide +kernel
theorem dX3_reckonTenth_170 : decode cX3_reckonTenth 170 = .ok (.dup, 1) := by decide +kernel
theorem dX3_reckonTenth_171 : decode cX3_reckonTenth 171 = .ok (.getfield 22, 3) := by decide +kernel
theorem dX3_reckonTenth_174 : decode cX3_reckonTenth 174 = .ok (.iconst 1, 1) := by decide +kernel
theorem dX3_reckonTenth_175 : decode cX3_reckonTenth 175 = .ok (.iadd, 1) := by decide +kernel
theorem dX3_reckonTenth_176 : decode cX3_reckonTenth 176 = .ok (.putfield 22, 3) := by decide +kernel
theorem dX3_reckonTenth_179 : decode cX3_reckonTenth 179 = .ok (.return_, 1) := by decide +kernel
def bX3_reckonTenth : ol_SE := es_seq (es_set 2 (ei_2 ol_sub (ei_f 3 1 (er_v 0)) (ei_v 1))) (es_seq (es_set 3 (ei_of (ea_cv 3 fX3_rolled (ea_r (er_v 0) (ea_i (ei_v 1) (ea_0)))))) (es_seq (es_set 4 (ei_of (ea_cv 3 fX3_rolled (ea_r (er_v 0) (ea_i (ei_2 ol_add (ei_v 1) (ei_c 1)) (ea_0)))))) (es_seq (es_set 5 (ei_if (ec_2 ol_eq (ei_v 3) (ei_c 10)) (ei_c 1) (ei_c 0))) (es_seq (es_set 6 (ei_if (ec_and (ec_not (ec_z ol_ne (ei_v 5))) (ec_2 ol_eq (ei_2 ol_add (ei_v 3) (ei_v 4)) (ei_c 10))) (ei_c 1) (ei_c 0))) (es_seq (es_if (ec_2 ol_eq (ei_v 2) (ei_c 1)) (es_pf 3 4 (er_v 0) (ei_if (ec_z ol_ne (ei_v 5)) (ei_c 10) (ei_2 ol_sub (ei_c 10) (ei_v 3)))) (es_if (ec_2 ol_eq (ei_v 2) (ei_c 2)) (es_pf 3 4 (er_v 0) (ei_if (ec_and (ec_z ol_ne (ei_v 5)) (ec_2 ol_lt (ei_v 4) (ei_c 10))) (ei_2 ol_sub (ei_c 10) (ei_v 4)) (ei_c 10))) es_skip)) (es_seq (es_pz 3 5 (er_v 0) (ei_if (ec_2 ol_ge (ei_v 2) (ei_if (ec_or (ec_z ol_ne (ei_v 5)) (ec_z ol_ne (ei_v 6))) (ei_c 3) (ei_c 2))) (ei_c 1) (ei_c 0))) (es_seq (es_if (ec_z ol_ne (ei_f 3 5 (er_v 0))) (es_seq (es_uf 3 2 (er_v 0) ol_add (ei_2 ol_add (ei_2 ol_add (ei_v 3) (ei_v 4)) (ei_of (ea_cv 3 fX3_rolled (ea_r (er_v 0) (ea_i (ei_2 ol_add (ei_v 1) (ei_c 2)) (ea_0))))))) (es_uf 3 3 (er_v 0) ol_add (ei_c 1))) es_skip) (es_retv))))))))
def fX3_reckonTenth : ol_FE := ol_fe 7 bX3_reckonTenth
set_option maxRecDepth 20000 in
theorem imX3_reckonTenth (x : ol_X) (K : ol_K) : IM_S x K mX3_reckonTenth 0 0 bX3_reckonTenth := rs_seq (p2 := 7) (rs_setn (ri_2 ol_op_sub (ri_f (rr_vn dX3_reckonTenth_0 rfl) gfX3_15 dX3_reckonTenth_1) (ri_vn dX3_reckonTenth_4 rfl) dX3_reckonTenth_5) dX3_reckonTenth_6 rfl (ol_ltn rfl)) (rs_seq (p2 := 13) (rs_setn (ri_k (rk_v (Mc := mX3_rolled) (conX3_rolled _ K) (ra_r (rr_vn dX3_reckonTenth_7 rfl) (ra_i (ri_vn dX3_reckonTenth_8 rfl) (ra_0))) dX3_reckonTenth_9 cwX3_32 tw_636 tw_11 (by decide) rfl rfl ⟨rfl, rfl, Nat.le_of_ble_eq_true rfl⟩ (by decide) (by decide) (al_r (al_i al_0))) (Or.inl rfl)) dX3_reckonTenth_12 rfl (ol_ltn rfl)) (rs_seq (p2 := 22) (rs_set (ri_k (rk_v (Mc := mX3_rolled) (conX3_rolled _ K) (ra_r (rr_vn dX3_reckonTenth_13 rfl) (ra_i (ri_2 ol_op_add (ri_vn dX3_reckonTenth_14 rfl) (ri_ic dX3_reckonTenth_15 (by unfold ol_inR; omega)) dX3_reckonTenth_16) (ra_0))) dX3_reckonTenth_17 cwX3_32 tw_636 tw_11 (by decide) rfl rfl ⟨rfl, rfl, Nat.le_of_ble_eq_true rfl⟩ (by decide) (by decide) (al_r (al_i al_0))) (Or.inl rfl)) dX3_reckonTenth_20 (ol_ltn rfl)) (rs_seq (p2 := 35) (rs_set (ri_if (pT := 28) (pF := 32) (p3 := 33) (rc_2F (pF := 32) ol_j2_ne_F (ri_vn dX3_reckonTenth_22 rfl) (ri_bi dX3_reckonTenth_23 (by unfold ol_inR; omega) (by decide)) dX3_reckonTenth_25 (by decide)) (ri_ic dX3_reckonTenth_28 (by unfold ol_inR; omega)) dX3_reckonTenth_29 (by decide) (ri_ic dX3_reckonTenth_32 (by unfold ol_inR; omega))) dX3_reckonTenth_33 (ol_ltn rfl)) (rs_seq (p2 := 56) (rs_set (ri_if (pT := 49) (pF := 53) (p3 := 54) (rc_and (p2 := 40) (pT := 49) (pF := 53) (rc_not (rc_zT (pT := 53) ol_j1_ne_T (ri_vi dX3_reckonTenth_35) dX3_reckonTenth_37 (by decide))) (rc_2F (pF := 53) ol_j2_ne_F (ri_2 ol_op_add (ri_vn dX3_reckonTenth_40 rfl) (ri_vi dX3_reckonTenth_41) dX3_reckonTenth_43) (ri_bi dX3_reckonTenth_44 (by unfold ol_inR; omega) (by decide)) dX3_reckonTenth_46 (by decide))) (ri_ic dX3_reckonTenth_49 (by unfold ol_inR; omega)) dX3_reckonTenth_50 (by decide) (ri_ic dX3_reckonTenth_53 (by unfold ol_inR; omega))) dX3_reckonTenth_54 (ol_ltn rfl)) (rs_seq (p2 := 113) (rs_if (pT := 61) (pF := 82) (pE := 113) (rc_2F (pF := 82) ol_j2_ne_F (ri_vn dX3_reckonTenth_56 rfl) (ri_ic dX3_reckonTenth_57 (by unfold ol_inR; omega)) dX3_reckonTenth_58 (by decide)) (rs_goto (p3 := 113) (rs_pf (rr_vn dX3_reckonTenth_61 rfl) (ri_if (pT := 67) (pF := 72) (p3 := 76) (rc_zF (pF := 72) ol_j1_eq_F (ri_vi dX3_reckonTenth_62) dX3_reckonTenth_64 (by decide)) (ri_bi dX3_reckonTenth_67 (by unfold ol_inR; omega) (by decide)) dX3_reckonTenth_69 (by decide) (ri_2 ol_op_sub (ri_bi dX3_reckonTenth_72 (by unfold ol_inR; omega) (by decide)) (ri_vn dX3_reckonTenth_74 rfl) dX3_reckonTenth_75)) pfX3_25 rfl dX3_reckonTenth_76) dX3_reckonTenth_79 (by decide)) (rs_if (pT := 87) (pF := 113) (pE := 113) (rc_2F (pF := 113) ol_j2_ne_F (ri_vn dX3_reckonTenth_82 rfl) (ri_ic dX3_reckonTenth_83 (by unfold ol_inR; omega)) dX3_reckonTenth_84 (by decide)) (rs_pf (rr_vn dX3_reckonTenth_87 rfl) (ri_if (pT := 100) (pF := 108) (p3 := 110) (rc_and (p2 := 93) (pT := 100) (pF := 108) (rc_zF (pF := 108) ol_j1_eq_F (ri_vi dX3_reckonTenth_88) dX3_reckonTenth_90 (by decide)) (rc_2F (pF := 108) ol_j2_ge_F (ri_vi dX3_reckonTenth_93) (ri_bi dX3_reckonTenth_95 (by unfold ol_inR; omega) (by decide)) dX3_reckonTenth_97 (by decide))) (ri_2 ol_op_sub (ri_bi dX3_reckonTenth_100 (by unfold ol_inR; omega) (by decide)) (ri_vi dX3_reckonTenth_102) dX3_reckonTenth_104) dX3_reckonTenth_105 (by decide) (ri_bi dX3_reckonTenth_108 (by unfold ol_inR; omega) (by decide))) pfX3_25 rfl dX3_reckonTenth_110) rs_skip)) (rs_seq (p2 := 141) (rs_pz (rr_vn dX3_reckonTenth_113 rfl) (ri_if (pT := 133) (pF := 137) (p3 := 138) (rc_2F (pF := 137) ol_j2_lt_F (ri_vn dX3_reckonTenth_114 rfl) (ri_if (pT := 125) (pF := 129) (p3 := 130) (rc_or (p2 := 120) (pT := 125) (pF := 129) (rc_zT (pT := 125) ol_j1_ne_T (ri_vi dX3_reckonTenth_115) dX3_reckonTenth_117 (by decide)) (rc_zF (pF := 129) ol_j1_eq_F (ri_vi dX3_reckonTenth_120) dX3_reckonTenth_122 (by decide))) (ri_ic dX3_reckonTenth_125 (by unfold ol_inR; omega)) dX3_reckonTenth_126 (by decide) (ri_ic dX3_reckonTenth_129 (by unfold ol_inR; omega))) dX3_reckonTenth_130 (by decide)) (ri_ic dX3_reckonTenth_133 (by unfold ol_inR; omega)) dX3_reckonTenth_134 (by decide) (ri_ic dX3_reckonTenth_137 (by unfold ol_inR; omega))) pfX3_28 rfl dX3_reckonTenth_138) (rs_seq (p2 := 179) (rs_if (pT := 148) (pF := 179) (pE := 179) (rc_zF (pF := 179) ol_j1_eq_F (ri_f (rr_vn dX3_reckonTenth_141 rfl) gfX3_28 dX3_reckonTenth_142) dX3_reckonTenth_145 (by decide)) (rs_seq (p2 := 169) (rs_uf ol_op_add (rr_vn dX3_reckonTenth_148 rfl) dX3_reckonTenth_149 dX3_reckonTenth_150 (ri_2 ol_op_add (ri_2 ol_op_add (ri_vn dX3_reckonTenth_153 rfl) (ri_vi dX3_reckonTenth_154) dX3_reckonTenth_156) (ri_k (rk_v (Mc := mX3_rolled) (conX3_rolled _ K) (ra_r (rr_vn dX3_reckonTenth_157 rfl) (ra_i (ri_2 ol_op_add (ri_vn dX3_reckonTenth_158 rfl) (ri_ic dX3_reckonTenth_159 (by unfold ol_inR; omega)) dX3_reckonTenth_160) (ra_0))) dX3_reckonTenth_161 cwX3_32 tw_636 tw_11 (by decide) rfl rfl ⟨rfl, rfl, Nat.le_of_ble_eq_true rfl⟩ (by decide) (by decide) (al_r (al_i al_0))) (Or.inl rfl)) dX3_reckonTenth_164) dX3_reckonTenth_165 gfX3_19 pfX3_19 rfl dX3_reckonTenth_166) (rs_uf ol_op_add (rr_vn dX3_reckonTenth_169 rfl) dX3_reckonTenth_170 dX3_reckonTenth_171 (ri_ic dX3_reckonTenth_174 (by unfold ol_inR; omega)) dX3_reckonTenth_175 gfX3_22 pfX3_22 rfl dX3_reckonTenth_176)) rs_skip) (rs_retv rfl dX3_reckonTenth_179))))))))
theorem conX3_reckonTenth (l : Launch) (K : ol_K) : ol_Con l K yX3_reckonTenth mX3_reckonTenth fX3_reckonTenth := ol_con (M := mX3_reckonTenth) (by decide) rfl rfl (imX3_reckonTenth · K)
theorem dX10_scatter_0 : decode cX10_scatter 0 = .ok (.iload_n 1, 1) := by decide +kernel
theorem dX10_scatter_1 : decode cX10_scatter 1 = .ok (.iconst 0, 1) := by decide +kernel
theorem dX10_scatter_2 : decode cX10_scatter 2 = .ok (.iconst 3, 1) := by decide +kernel
theorem dX10_scatter_3 : decode cX10_scatter 3 = .ok (.invokestatic 98, 3) := by decide +kernel
theorem dX10_scatter_6 : decode cX10_scatter 6 = .ok (.ifCond .ne 21, 3) := by decide +kernel
theorem dX10_scatter_9 : decode cX10_scatter 9 = .ok (.iload_n 2, 1) := by decide +kernel
theorem dX10_scatter_10 : decode cX10_scatter 10 = .ok (.iconst 0, 1) := by decide +kernel
theorem dX10_scatter_11 : decode cX10_scatter 11 = .ok (.iconst 4, 1) := by decide +kernel
theorem dX10_scatter_12 : decode cX10_scatter 12 = .ok (.invokestatic 98, 3) := by decide +kernel
theorem dX10_scatter_15 : decode cX10_scatter 15 = .ok (.ifCond .ne 12, 3) := by decide +kernel
theorem dX10_scatter_18 : decode cX10_scatter 18 = .ok (.iload_n 3, 1) := by decide +kernel
theorem dX10_scatter_19 : decode cX10_scatter 19 = .ok (.iconst 0, 1) := by decide +kernel
theorem dX10_scatter_20 : decode cX10_scatter 20 = .ok (.iconst 4, 1) := by decide +kernel
theorem dX10_scatter_21 : decode cX10_scatter 21 = .ok (.invokestatic 98, 3) := by decide +kernel
theorem dX10_scatter_24 : decode cX10_scatter 24 = .ok (.ifCond .eq 5, 3) := by decide +kernel
theorem dX10_scatter_27 : decode cX10_scatter 27 = .ok (.iconst (-1), 1) := by decide +kernel
theorem dX10_scatter_28 : decode cX10_scatter 28 = .ok (.ireturn, 1) := by decide +kernel
theorem dX10_scatter_29 : decode cX10_scatter 29 = .ok (.aload_n 0, 1) := by decide +kernel
theorem dX10_scatter_30 : decode cX10_scatter 30 = .ok (.getfield 73, 3) := by decide +kernel
theorem dX10_scatter_33 : decode cX10_scatter 33 = .ok (.getfield 215, 3) := by decide +kernel
theorem dX10_scatter_36 : decode cX10_scatter 36 = .ok (.astore 5, 2) := by decide +kernel
theorem dX10_scatter_38 : decode cX10_scatter 38 = .ok (.iload_n 1, 1) := by decide +kernel
theorem dX10_scatter_39 : decode cX10_scatter 39 = .ok (.iconst 5, 1) := by decide +kernel
theorem dX10_scatter_40 : decode cX10_scatter 40 = .ok (.imul, 1) := by decide +kernel
theorem dX10_scatter_41 : decode cX10_scatter 41 = .ok (.istore 6, 2) := by decide +kernel
theorem dX10_scatter_43 : decode cX10_scatter 43 = .ok (.iload 4, 2) := by decide +kernel
theorem dX10_scatter_45 : decode cX10_scatter 45 = .ok (.iconst 0, 1) := by decide +kernel
theorem dX10_scatter_46 : decode cX10_scatter 46 = .ok (.aload 5, 2) := by decide +kernel
theorem dX10_scatter_48 : decode cX10_scatter 48 = .ok (.iload 6, 2) := by decide +kernel
theorem dX10_scatter_50 : decode cX10_scatter 50 = .ok (.iload_n 2, 1) := by decide +kernel
theorem dX10_scatter_51 : decode cX10_scatter 51 = .ok (.iadd, 1) := by decide +kernel
theorem dX10_scatter_52 : decode cX10_scatter 52 = .ok (.iaload, 1) := by decide +kernel
theorem dX10_scatter_53 : decode cX10_scatter 53 = .ok (.invokestatic 98, 3) := by decide +kernel
theorem dX10_scatter_56 : decode cX10_scatter 56 = .ok (.ifCond .eq 5, 3) := by decide +kernel
theorem dX10_scatter_59 : decode cX10_scatter 59 = .ok (.iconst (-1), 1) := by decide +kernel
theorem dX10_scatter_60 : decode cX10_scatter 60 = .ok (.ireturn, 1) := by decide +kernel
theorem dX10_scatter_61 : decode cX10_scatter 61 = .ok (.aload 5, 2) := by decide +kernel
theorem dX10_scatter_63 : decode cX10_scatter 63 = .ok (.iload 6, 2) := by decide +kernel
theorem dX10_scatter_65 : decode cX10_scatter 65 = .ok (.iload_n 2, 1) := by decide +kernel
theorem dX10_scatter_66 : decode cX10_scatter 66 = .ok (.iadd, 1) := by decide +kernel
theorem dX10_scatter_67 : decode cX10_scatter 67 = .ok (.dup2, 1) := by decide +kernel
theorem dX10_scatter_68 : decode cX10_scatter 68 = .ok (.iaload, 1) := by decide +kernel
theorem dX10_scatter_69 : decode cX10_scatter 69 = .ok (.iload 4, 2) := by decide +kernel
theorem dX10_scatter_71 : decode cX10_scatter 71 = .ok (.isub, 1) := by decide +kernel
theorem dX10_scatter_72 : decode cX10_scatter 72 = .ok (.iastore, 1) := by decide +kernel
theorem dX10_scatter_73 : decode cX10_scatter 73 = .ok (.aload 5, 2) := by decide +kernel
theorem dX10_scatter_75 : decode cX10_scatter 75 = .ok (.iload 6, 2) := by decide +kernel
theorem dX10_scatter_77 : decode cX10_scatter 77 = .ok (.iload_n 3, 1) := by decide +kernel
theorem dX10_scatter_78 : decode cX10_scatter 78 = .ok (.iadd, 1) := by decide +kernel
theorem dX10_scatter_79 : decode cX10_scatter 79 = .ok (.dup2, 1) := by decide +kernel
theorem dX10_scatter_80 : decode cX10_scatter 80 = .ok (.iaload, 1) := by decide +kernel
theorem dX10_scatter_81 : decode cX10_scatter 81 = .ok (.iload 4, 2) := by decide +kernel
theorem dX10_scatter_83 : decode cX10_scatter 83 = .ok (.iadd, 1) := by decide +kernel
theorem dX10_scatter_84 : decode cX10_scatter 84 = .ok (.iastore, 1) := by decide +kernel
theorem dX10_scatter_85 : decode cX10_scatter 85 = .ok (.aload 5, 2) := by decide +kernel
theorem dX10_scatter_87 : decode cX10_scatter 87 = .ok (.iload 6, 2) := by decide +kernel
theorem dX10_scatter_89 : decode cX10_scatter 89 = .ok (.iload_n 3, 1) := by decide +kernel
theorem dX10_scatter_90 : decode cX10_scatter 90 = .ok (.iadd, 1) := by decide +kernel
theorem dX10_scatter_91 : decode cX10_scatter 91 = .ok (.iaload, 1) := by decide +kernel
theorem dX10_scatter_92 : decode cX10_scatter 92 = .ok (.ireturn, 1) := by decide +kernel
def bX10_scatter : ol_SE := es_seq (es_if (ec_or (ec_or (ec_z ol_ne (ei_of (ea_cs fX10_outside (ea_i (ei_v 1) (ea_i (ei_c 0) (ea_i (ei_c 3) (ea_0))))))) (ec_z ol_ne (ei_of (ea_cs fX10_outside (ea_i (ei_v 2) (ea_i (ei_c 0) (ea_i (ei_c 4) (ea_0)))))))) (ec_z ol_ne (ei_of (ea_cs fX10_outside (ea_i (ei_v 3) (ea_i (ei_c 0) (ea_i (ei_c 4) (ea_0)))))))) (es_ret (ei_c (-1))) es_skip) (es_seq (es_setr 5 (er_f 8 0 (er_f 10 11 (er_v 0)))) (es_seq (es_set 6 (ei_2 ol_mul (ei_v 1) (ei_c 5))) (es_seq (es_if (ec_z ol_ne (ei_of (ea_cs fX10_outside (ea_i (ei_v 4) (ea_i (ei_c 0) (ea_i (ei_a 100 (er_v 5) (ei_2 ol_add (ei_v 6) (ei_v 2))) (ea_0))))))) (es_ret (ei_c (-1))) es_skip) (es_seq (es_ua 100 (er_v 5) (ei_2 ol_add (ei_v 6) (ei_v 2)) ol_sub (ei_v 4)) (es_seq (es_ua 100 (er_v 5) (ei_2 ol_add (ei_v 6) (ei_v 3)) ol_add (ei_v 4)) (es_ret (ei_a 100 (er_v 5) (ei_2 ol_add (ei_v 6) (ei_v 3)))))))))
def fX10_scatter : ol_FE := ol_fe 7 bX10_scatter
set_option maxRecDepth 20000 in
theorem imX10_scatter (x : ol_X) (K : ol_K) : IM_S x K mX10_scatter 0 0 bX10_scatter := rs_seq (p2 := 29) (rs_if (pT := 27) (pF := 29) (pE := 29) (rc_or (p2 := 18) (pT := 27) (pF := 29) (rc_or (p2 := 9) (pT := 27) (pF := 18) (rc_zT (pT := 27) ol_j1_ne_T (ri_k (rk_s (Mc := mX10_outside) (conX10_outside _ K) (ra_i (ri_vn dX10_scatter_0 rfl) (ra_i (ri_ic dX10_scatter_1 (by unfold ol_inR; omega)) (ra_i (ri_ic dX10_scatter_2 (by unfold ol_inR; omega)) (ra_0)))) dX10_scatter_3 cwX10_98 tw_417 ⟨rfl, rfl, Nat.le_of_ble_eq_true rfl⟩ (by decide) (by decide) (al_i (al_i (al_i al_0)))) (Or.inr (Or.inl rfl))) dX10_scatter_6 (by decide)) (rc_zT (pT := 27) ol_j1_ne_T (ri_k (rk_s (Mc := mX10_outside) (conX10_outside _ K) (ra_i (ri_vn dX10_scatter_9 rfl) (ra_i (ri_ic dX10_scatter_10 (by unfold ol_inR; omega)) (ra_i (ri_ic dX10_scatter_11 (by unfold ol_inR; omega)) (ra_0)))) dX10_scatter_12 cwX10_98 tw_417 ⟨rfl, rfl, Nat.le_of_ble_eq_true rfl⟩ (by decide) (by decide) (al_i (al_i (al_i al_0)))) (Or.inr (Or.inl rfl))) dX10_scatter_15 (by decide))) (rc_zF (pF := 29) ol_j1_eq_F (ri_k (rk_s (Mc := mX10_outside) (conX10_outside _ K) (ra_i (ri_vn dX10_scatter_18 rfl) (ra_i (ri_ic dX10_scatter_19 (by unfold ol_inR; omega)) (ra_i (ri_ic dX10_scatter_20 (by unfold ol_inR; omega)) (ra_0)))) dX10_scatter_21 cwX10_98 tw_417 ⟨rfl, rfl, Nat.le_of_ble_eq_true rfl⟩ (by decide) (by decide) (al_i (al_i (al_i al_0)))) (Or.inr (Or.inl rfl))) dX10_scatter_24 (by decide))) (rs_ret (ri_ic dX10_scatter_27 (by unfold ol_inR; omega)) rfl dX10_scatter_28) rs_skip) (rs_seq (p2 := 38) (rs_setr (rr_f (rr_f (rr_vn dX10_scatter_29 rfl) gfX10_73 dX10_scatter_30) gfX10_215 dX10_scatter_33) dX10_scatter_36 (ol_ltn rfl)) (rs_seq (p2 := 43) (rs_set (ri_2 ol_op_mul (ri_vn dX10_scatter_38 rfl) (ri_ic dX10_scatter_39 (by unfold ol_inR; omega)) dX10_scatter_40) dX10_scatter_41 (ol_ltn rfl)) (rs_seq (p2 := 61) (rs_if (pT := 59) (pF := 61) (pE := 61) (rc_zF (pF := 61) ol_j1_eq_F (ri_k (rk_s (Mc := mX10_outside) (conX10_outside _ K) (ra_i (ri_vi dX10_scatter_43) (ra_i (ri_ic dX10_scatter_45 (by unfold ol_inR; omega)) (ra_i (ri_a (rr_vi dX10_scatter_46) (ri_2 ol_op_add (ri_vi dX10_scatter_48) (ri_vn dX10_scatter_50 rfl) dX10_scatter_51) rfl dX10_scatter_52) (ra_0)))) dX10_scatter_53 cwX10_98 tw_417 ⟨rfl, rfl, Nat.le_of_ble_eq_true rfl⟩ (by decide) (by decide) (al_i (al_i (al_i al_0)))) (Or.inr (Or.inl rfl))) dX10_scatter_56 (by decide)) (rs_ret (ri_ic dX10_scatter_59 (by unfold ol_inR; omega)) rfl dX10_scatter_60) rs_skip) (rs_seq (p2 := 73) (rs_ua ol_op_sub (rr_vi dX10_scatter_61) (ri_2 ol_op_add (ri_vi dX10_scatter_63) (ri_vn dX10_scatter_65 rfl) dX10_scatter_66) dX10_scatter_67 dX10_scatter_68 (ri_vi dX10_scatter_69) dX10_scatter_71 dX10_scatter_72) (rs_seq (p2 := 85) (rs_ua ol_op_add (rr_vi dX10_scatter_73) (ri_2 ol_op_add (ri_vi dX10_scatter_75) (ri_vn dX10_scatter_77 rfl) dX10_scatter_78) dX10_scatter_79 dX10_scatter_80 (ri_vi dX10_scatter_81) dX10_scatter_83 dX10_scatter_84) (rs_ret (ri_a (rr_vi dX10_scatter_85) (ri_2 ol_op_add (ri_vi dX10_scatter_87) (ri_vn dX10_scatter_89 rfl) dX10_scatter_90) rfl dX10_scatter_91) rfl dX10_scatter_92))))))
theorem conX10_scatter (l : Launch) (K : ol_K) : ol_Con l K yX10_scatter mX10_scatter fX10_scatter := ol_con (M := mX10_scatter) (by decide) rfl rfl (imX10_scatter · K)
theorem dX10_stands_0 : decode cX10_stands 0 = .ok (.iload_n 1, 1) := by decide +kernel
theorem dX10_stands_1 : decode cX10_stands 1 = .ok (.iconst 0, 1) := by decide +kernel
theorem dX10_stands_2 : decode cX10_stands 2 = .ok (.aload_n 0, 1) := by decide +kernel
theorem dX10_stands_3 : decode cX10_stands 3 = .ok (.getfield 31, 3) := by decide +kernel
theorem dX10_stands_6 : decode cX10_stands 6 = .ok (.getfield 238, 3) := by decide +kernel
theorem dX10_stands_9 : decode cX10_stands 9 = .ok (.iconst 1, 1) := by decide +kernel
theorem dX10_stands_10 : decode cX10_stands 10 = .ok (.isub, 1) := by decide +kernel
theorem dX10_stands_11 : decode cX10_stands 11 = .ok (.invokestatic 98, 3) := by decide +kernel
theorem dX10_stands_14 : decode cX10_stands 14 = .ok (.ifCond .eq 6, 3) := by decide +kernel
theorem dX10_stands_17 : decode cX10_stands 17 = .ok (.ldc 165, 2) := by decide +kernel
theorem dX10_stands_19 : decode cX10_stands 19 = .ok (.ireturn, 1) := by decide +kernel
theorem dX10_stands_20 : decode cX10_stands 20 = .ok (.aload_n 0, 1) := by decide +kernel
theorem dX10_stands_21 : decode cX10_stands 21 = .ok (.getfield 31, 3) := by decide +kernel
theorem dX10_stands_24 : decode cX10_stands 24 = .ok (.getfield 239, 3) := by decide +kernel
theorem dX10_stands_27 : decode cX10_stands 27 = .ok (.iload_n 1, 1) := by decide +kernel
theorem dX10_stands_28 : decode cX10_stands 28 = .ok (.aaload, 1) := by decide +kernel
theorem dX10_stands_29 : decode cX10_stands 29 = .ok (.astore_n 3, 1) := by decide +kernel
theorem dX10_stands_30 : decode cX10_stands 30 = .ok (.iload_n 2, 1) := by decide +kernel
theorem dX10_stands_31 : decode cX10_stands 31 = .ok (.tableswitch 67 0 5 #[37, 42, 47, 52, 57, 62], 37) := by decide +kernel
theorem dX10_stands_68 : decode cX10_stands 68 = .ok (.aload_n 3, 1) := by decide +kernel
theorem dX10_stands_69 : decode cX10_stands 69 = .ok (.getfield 249, 3) := by decide +kernel
theorem dX10_stands_72 : decode cX10_stands 72 = .ok (.ireturn, 1) := by decide +kernel
theorem dX10_stands_73 : decode cX10_stands 73 = .ok (.aload_n 3, 1) := by decide +kernel
theorem dX10_stands_74 : decode cX10_stands 74 = .ok (.getfield 252, 3) := by decide +kernel
theorem dX10_stands_77 : decode cX10_stands 77 = .ok (.ireturn, 1) := by decide +kernel
theorem dX10_stands_78 : decode cX10_stands 78 = .ok (.aload_n 3, 1) := by decide +kernel
theorem dX10_stands_79 : decode cX10_stands 79 = .ok (.getfield 255, 3) := by decide +kernel
theorem dX10_stands_82 : decode cX10_stands 82 = .ok (.ireturn, 1) := by decide +kernel
theorem dX10_stands_83 : decode cX10_stands 83 = .ok (.aload_n 3, 1) := by decide +kernel
theorem dX10_stands_84 : decode cX10_stands 84 = .ok (.getfield 258, 3) := by decide +kernel
theorem dX10_stands_87 : decode cX10_stands 87 = .ok (.ireturn, 1) := by decide +kernel
theorem dX10_stands_88 : decode cX10_stands 88 = .ok (.aload_n 3, 1) := by decide +kernel
theorem dX10_stands_89 : decode cX10_stands 89 = .ok (.getfield 261, 3) := by decide +kernel
theorem dX10_stands_92 : decode cX10_stands 92 = .ok (.ireturn, 1) := by decide +kernel
theorem dX10_stands_93 : decode cX10_stands 93 = .ok (.aload_n 3, 1) := by decide +kernel
theorem dX10_stands_94 : decode cX10_stands 94 = .ok (.getfield 264, 3) := by decide +kernel
theorem dX10_stands_97 : decode cX10_stands 97 = .ok (.ireturn, 1) := by decide +kernel
theorem dX10_stands_98 : decode cX10_stands 98 = .ok (.ldc 165, 2) := by decide +kernel
theorem dX10_stands_100 : decode cX10_stands 100 = .ok (.ireturn, 1) := by decide +kernel
def bX10_stands : ol_SE := es_seq (es_if (ec_z ol_ne (ei_of (ea_cs fX10_outside (ea_i (ei_v 1) (ea_i (ei_c 0) (ea_i (ei_2 ol_sub (ei_f 2 2 (er_f 10 3 (er_v 0))) (ei_c 1)) (ea_0))))))) (es_ret (ei_c (-1000000))) es_skip) (es_seq (es_setr 3 (er_a 106 (er_f 2 1 (er_f 10 3 (er_v 0))) (ei_v 1))) (es_sw (ei_v 2) 0 [es_ret (ei_f 9 0 (er_v 3)), es_ret (ei_f 9 1 (er_v 3)), es_ret (ei_f 9 2 (er_v 3)), es_ret (ei_f 9 3 (er_v 3)), es_ret (ei_f 9 4 (er_v 3)), es_ret (ei_f 9 5 (er_v 3))] (es_ret (ei_c (-1000000)))))
def fX10_stands : ol_FE := ol_fe 4 bX10_stands
set_option maxRecDepth 20000 in
theorem imX10_stands (x : ol_X) (K : ol_K) : IM_S x K mX10_stands 0 0 bX10_stands := rs_seq (p2 := 20) (rs_if (pT := 17) (pF := 20) (pE := 20) (rc_zF (pF := 20) ol_j1_eq_F (ri_k (rk_s (Mc := mX10_outside) (conX10_outside _ K) (ra_i (ri_vn dX10_stands_0 rfl) (ra_i (ri_ic dX10_stands_1 (by unfold ol_inR; omega)) (ra_i (ri_2 ol_op_sub (ri_f (rr_f (rr_vn dX10_stands_2 rfl) gfX10_31 dX10_stands_3) gfX10_238 dX10_stands_6) (ri_ic dX10_stands_9 (by unfold ol_inR; omega)) dX10_stands_10) (ra_0)))) dX10_stands_11 cwX10_98 tw_417 ⟨rfl, rfl, Nat.le_of_ble_eq_true rfl⟩ (by decide) (by decide) (al_i (al_i (al_i al_0)))) (Or.inr (Or.inl rfl))) dX10_stands_14 (by decide)) (rs_ret (ri_ldc dX10_stands_17 (by unfold ol_inR; omega) tw_615) rfl dX10_stands_19) rs_skip) (rs_seq (p2 := 30) (rs_setrn (rr_a (t := 6) (rr_f (rr_f (rr_vn dX10_stands_20 rfl) gfX10_31 dX10_stands_21) gfX10_239 dX10_stands_24) (ri_vn dX10_stands_27 rfl) (by decide) rfl dX10_stands_28) dX10_stands_29 rfl (ol_ltn rfl)) (rs_sw (pE := 0) (pD := 98) (ri_vn dX10_stands_30 rfl) dX10_stands_31 rfl ⟨⟨_, 68, rfl, by decide, rs_ret (ri_f (rr_vn dX10_stands_68 rfl) gfX10_249 dX10_stands_69) rfl dX10_stands_72⟩, ⟨_, 73, rfl, by decide, rs_ret (ri_f (rr_vn dX10_stands_73 rfl) gfX10_252 dX10_stands_74) rfl dX10_stands_77⟩, ⟨_, 78, rfl, by decide, rs_ret (ri_f (rr_vn dX10_stands_78 rfl) gfX10_255 dX10_stands_79) rfl dX10_stands_82⟩, ⟨_, 83, rfl, by decide, rs_ret (ri_f (rr_vn dX10_stands_83 rfl) gfX10_258 dX10_stands_84) rfl dX10_stands_87⟩, ⟨_, 88, rfl, by decide, rs_ret (ri_f (rr_vn dX10_stands_88 rfl) gfX10_261 dX10_stands_89) rfl dX10_stands_92⟩, ⟨_, 93, rfl, by decide, rs_ret (ri_f (rr_vn dX10_stands_93 rfl) gfX10_264 dX10_stands_94) rfl dX10_stands_97⟩, trivial⟩ (by decide) (rs_ret (ri_ldc dX10_stands_98 (by unfold ol_inR; omega) tw_615) rfl dX10_stands_100)))
theorem conX10_stands (l : Launch) (K : ol_K) : ol_Con l K yX10_stands mX10_stands fX10_stands := ol_con (M := mX10_stands) (by decide) rfl rfl (imX10_stands · K)
theorem dX9_moveBehind_0 : decode cX9_moveBehind 0 = .ok (.aload_n 0, 1) := by decide +kernel
theorem dX9_moveBehind_1 : decode cX9_moveBehind 1 = .ok (.getfield 18, 3) := by decide +kernel
theorem dX9_moveBehind_4 : decode cX9_moveBehind 4 = .ok (.iconst 0, 1) := by decide +kernel
theorem dX9_moveBehind_5 : decode cX9_moveBehind 5 = .ok (.invokestatic 46, 3) := by decide +kernel
theorem dX9_moveBehind_8 : decode cX9_moveBehind 8 = .ok (.istore_n 3, 1) := by decide +kernel
theorem dX9_moveBehind_9 : decode cX9_moveBehind 9 = .ok (.aload_n 0, 1) := by decide +kernel
theorem dX9_moveBehind_10 : decode cX9_moveBehind 10 = .ok (.getfield 9, 3) := by decide +kernel
theorem dX9_moveBehind_13 : decode cX9_moveBehind 13 = .ok (.istore 4, 2) := by decide +kernel
theorem dX9_moveBehind_15 : decode cX9_moveBehind 15 = .ok (.iload_n 1, 1) := by decide +kernel
theorem dX9_moveBehind_16 : decode cX9_moveBehind 16 = .ok (.ifCond .eq 14, 3) := by decide +kernel
theorem dX9_moveBehind_19 : decode cX9_moveBehind 19 = .ok (.iload 4, 2) := by decide +kernel
theorem dX9_moveBehind_21 : decode cX9_moveBehind 21 = .ok (.iconst 2, 1) := by decide +kernel
theorem dX9_moveBehind_22 : decode cX9_moveBehind 22 = .ok (.iload_n 3, 1) := by decide +kernel
theorem dX9_moveBehind_23 : decode cX9_moveBehind 23 = .ok (.imul, 1) := by decide +kernel
theorem dX9_moveBehind_24 : decode cX9_moveBehind 24 = .ok (.isub, 1) := by decide +kernel
theorem dX9_moveBehind_25 : decode cX9_moveBehind 25 = .ok (.istore 4, 2) := by decide +kernel
theorem dX9_moveBehind_27 : decode cX9_moveBehind 27 = .ok (.goto 13, 3) := by decide +kernel
theorem dX9_moveBehind_30 : decode cX9_moveBehind 30 = .ok (.iload_n 2, 1) := by decide +kernel
theorem dX9_moveBehind_31 : decode cX9_moveBehind 31 = .ok (.ifCond .eq 9, 3) := by decide +kernel
theorem dX9_moveBehind_34 : decode cX9_moveBehind 34 = .ok (.iload 4, 2) := by decide +kernel
theorem dX9_moveBehind_36 : decode cX9_moveBehind 36 = .ok (.iload_n 3, 1) := by decide +kernel
theorem dX9_moveBehind_37 : decode cX9_moveBehind 37 = .ok (.iadd, 1) := by decide +kernel
theorem dX9_moveBehind_38 : decode cX9_moveBehind 38 = .ok (.istore 4, 2) := by decide +kernel
theorem dX9_moveBehind_40 : decode cX9_moveBehind 40 = .ok (.aload_n 0, 1) := by decide +kernel
theorem dX9_moveBehind_41 : decode cX9_moveBehind 41 = .ok (.iconst 0, 1) := by decide +kernel
theorem dX9_moveBehind_42 : decode cX9_moveBehind 42 = .ok (.bipush 38, 2) := by decide +kernel
theorem dX9_moveBehind_44 : decode cX9_moveBehind 44 = .ok (.iload 4, 2) := by decide +kernel
theorem dX9_moveBehind_46 : decode cX9_moveBehind 46 = .ok (.invokestatic 52, 3) := by decide +kernel
theorem dX9_moveBehind_49 : decode cX9_moveBehind 49 = .ok (.invokestatic 57, 3) := by decide +kernel
theorem dX9_moveBehind_52 : decode cX9_moveBehind 52 = .ok (.putfield 9, 3) := by decide +kernel
theorem dX9_moveBehind_55 : decode cX9_moveBehind 55 = .ok (.return_, 1) := by decide +kernel
def bX9_moveBehind : ol_SE := es_seq (es_set 3 (ei_of (ea_cs fJ6_compare_7cf53 (ea_i (ei_f 9 2 (er_v 0)) (ea_i (ei_c 0) (ea_0)))))) (es_seq (es_set 4 (ei_f 9 0 (er_v 0))) (es_seq (es_if (ec_z ol_ne (ei_v 1)) (es_set 4 (ei_2 ol_sub (ei_v 4) (ei_2 ol_mul (ei_c 2) (ei_v 3)))) (es_if (ec_z ol_ne (ei_v 2)) (es_set 4 (ei_2 ol_add (ei_v 4) (ei_v 3))) es_skip)) (es_seq (es_pf 9 0 (er_v 0) (ei_2 ol_max (ei_c 0) (ei_2 ol_min (ei_c 38) (ei_v 4)))) (es_retv))))
def fX9_moveBehind : ol_FE := ol_fe 5 bX9_moveBehind
set_option maxRecDepth 20000 in
theorem imX9_moveBehind (x : ol_X) (K : ol_K) : IM_S x K mX9_moveBehind 0 0 bX9_moveBehind := rs_seq (p2 := 9) (rs_setn (ri_k (rk_s (Mc := mJ6_compare_7cf53) (conJ6_compare_7cf53 _ K) (ra_i (ri_f (rr_vn dX9_moveBehind_0 rfl) gfX9_18 dX9_moveBehind_1) (ra_i (ri_ic dX9_moveBehind_4 (by unfold ol_inR; omega)) (ra_0))) dX9_moveBehind_5 cwX9_46 tw_728 ⟨rfl, rfl, Nat.le_of_ble_eq_true rfl⟩ (by decide) (by decide) (al_i (al_i al_0))) (Or.inl rfl)) dX9_moveBehind_8 rfl (ol_ltn rfl)) (rs_seq (p2 := 15) (rs_set (ri_f (rr_vn dX9_moveBehind_9 rfl) gfX9_9 dX9_moveBehind_10) dX9_moveBehind_13 (ol_ltn rfl)) (rs_seq (p2 := 40) (rs_if (pT := 19) (pF := 30) (pE := 40) (rc_zF (pF := 30) ol_j1_eq_F (ri_vn dX9_moveBehind_15 rfl) dX9_moveBehind_16 (by decide)) (rs_goto (p3 := 40) (rs_set (ri_2 ol_op_sub (ri_vi dX9_moveBehind_19) (ri_2 ol_op_mul (ri_ic dX9_moveBehind_21 (by unfold ol_inR; omega)) (ri_vn dX9_moveBehind_22 rfl) dX9_moveBehind_23) dX9_moveBehind_24) dX9_moveBehind_25 (ol_ltn rfl)) dX9_moveBehind_27 (by decide)) (rs_if (pT := 34) (pF := 40) (pE := 40) (rc_zF (pF := 40) ol_j1_eq_F (ri_vn dX9_moveBehind_30 rfl) dX9_moveBehind_31 (by decide)) (rs_set (ri_2 ol_op_add (ri_vi dX9_moveBehind_34) (ri_vn dX9_moveBehind_36 rfl) dX9_moveBehind_37) dX9_moveBehind_38 (ol_ltn rfl)) rs_skip)) (rs_seq (p2 := 55) (rs_pf (rr_vn dX9_moveBehind_40 rfl) (ri_mx (ri_ic dX9_moveBehind_41 (by unfold ol_inR; omega)) (ri_mi (ri_bi dX9_moveBehind_42 (by unfold ol_inR; omega) (by decide)) (ri_vi dX9_moveBehind_44) dX9_moveBehind_46 tw_730 ⟨tw_540, tw_69, tw_541⟩ (by decide) (by decide)) dX9_moveBehind_49 tw_731 ⟨tw_580, tw_69, tw_581⟩ (by decide) (by decide)) pfX9_9 rfl dX9_moveBehind_52) (rs_retv rfl dX9_moveBehind_55))))
theorem conX9_moveBehind (l : Launch) (K : ol_K) : ol_Con l K yX9_moveBehind mX9_moveBehind fX9_moveBehind := ol_con (M := mX9_moveBehind) (by decide) rfl rfl (imX9_moveBehind · K)
theorem dX9_copyFrom_0 : decode cX9_copyFrom 0 = .ok (.aload_n 0, 1) := by decide +kernel
theorem dX9_copyFrom_1 : decode cX9_copyFrom 1 = .ok (.aload_n 1, 1) := by decide +kernel
theorem dX9_copyFrom_2 : decode cX9_copyFrom 2 = .ok (.getfield 9, 3) := by decide +kernel
theorem dX9_copyFrom_5 : decode cX9_copyFrom 5 = .ok (.aload_n 1, 1) := by decide +kernel
theorem dX9_copyFrom_6 : decode cX9_copyFrom 6 = .ok (.getfield 15, 3) := by decide +kernel
theorem dX9_copyFrom_9 : decode cX9_copyFrom 9 = .ok (.aload_n 1, 1) := by decide +kernel
theorem dX9_copyFrom_10 : decode cX9_copyFrom 10 = .ok (.getfield 18, 3) := by decide +kernel
theorem dX9_copyFrom_13 : decode cX9_copyFrom 13 = .ok (.aload_n 1, 1) := by decide +kernel
theorem dX9_copyFrom_14 : decode cX9_copyFrom 14 = .ok (.getfield 21, 3) := by decide +kernel
theorem dX9_copyFrom_17 : decode cX9_copyFrom 17 = .ok (.aload_n 1, 1) := by decide +kernel
theorem dX9_copyFrom_18 : decode cX9_copyFrom 18 = .ok (.getfield 24, 3) := by decide +kernel
theorem dX9_copyFrom_21 : decode cX9_copyFrom 21 = .ok (.invokevirtual 30, 3) := by decide +kernel
theorem dX9_copyFrom_24 : decode cX9_copyFrom 24 = .ok (.aload_n 0, 1) := by decide +kernel
theorem dX9_copyFrom_25 : decode cX9_copyFrom 25 = .ok (.aload_n 1, 1) := by decide +kernel
theorem dX9_copyFrom_26 : decode cX9_copyFrom 26 = .ok (.getfield 27, 3) := by decide +kernel
theorem dX9_copyFrom_29 : decode cX9_copyFrom 29 = .ok (.putfield 27, 3) := by decide +kernel
theorem dX9_copyFrom_32 : decode cX9_copyFrom 32 = .ok (.return_, 1) := by decide +kernel
def bX9_copyFrom : ol_SE := es_seq (es_of (ea_cv 9 fX9_begin (ea_r (er_v 0) (ea_i (ei_f 9 0 (er_v 1)) (ea_i (ei_f 9 1 (er_v 1)) (ea_i (ei_f 9 2 (er_v 1)) (ea_i (ei_f 9 3 (er_v 1)) (ea_i (ei_f 9 4 (er_v 1)) (ea_0))))))))) (es_seq (es_pf 9 5 (er_v 0) (ei_f 9 5 (er_v 1))) (es_retv))
def fX9_copyFrom : ol_FE := ol_fe 2 bX9_copyFrom
set_option maxRecDepth 20000 in
theorem imX9_copyFrom (x : ol_X) (K : ol_K) : IM_S x K mX9_copyFrom 0 0 bX9_copyFrom := rs_seq (p2 := 24) (rs_k (rk_v (Mc := mX9_begin) (conX9_begin _ K) (ra_r (rr_vn dX9_copyFrom_0 rfl) (ra_i (ri_f (rr_vn dX9_copyFrom_1 rfl) gfX9_9 dX9_copyFrom_2) (ra_i (ri_f (rr_vn dX9_copyFrom_5 rfl) gfX9_15 dX9_copyFrom_6) (ra_i (ri_f (rr_vn dX9_copyFrom_9 rfl) gfX9_18 dX9_copyFrom_10) (ra_i (ri_f (rr_vn dX9_copyFrom_13 rfl) gfX9_21 dX9_copyFrom_14) (ra_i (ri_f (rr_vn dX9_copyFrom_17 rfl) gfX9_24 dX9_copyFrom_18) (ra_0))))))) dX9_copyFrom_21 cwX9_30 tw_699 tw_700 (by decide) rfl rfl ⟨rfl, rfl, Nat.le_of_ble_eq_true rfl⟩ (by decide) (by decide) (al_r (al_i (al_i (al_i (al_i (al_i al_0)))))))) (rs_seq (p2 := 32) (rs_pf (rr_vn dX9_copyFrom_24 rfl) (ri_f (rr_vn dX9_copyFrom_25 rfl) gfX9_27 dX9_copyFrom_26) pfX9_27 rfl dX9_copyFrom_29) (rs_retv rfl dX9_copyFrom_32))
theorem conX9_copyFrom (l : Launch) (K : ol_K) : ol_Con l K yX9_copyFrom mX9_copyFrom fX9_copyFrom := ol_con (M := mX9_copyFrom) (by decide) rfl rfl (imX9_copyFrom · K)
theorem dX10_takeNextOrder_0 : decode cX10_takeNextOrder 0 = .ok (.aload_n 0, 1) := by decide +kernel
theorem dX10_takeNextOrder_1 : decode cX10_takeNextOrder 1 = .ok (.getfield 31, 3) := by decide +kernel
theorem dX10_takeNextOrder_4 : decode cX10_takeNextOrder 4 = .ok (.getfield 238, 3) := by decide +kernel
theorem dX10_takeNextOrder_7 : decode cX10_takeNextOrder 7 = .ok (.istore_n 1, 1) := by decide +kernel
theorem dX10_takeNextOrder_8 : decode cX10_takeNextOrder 8 = .ok (.iload_n 1, 1) := by decide +kernel
theorem dX10_takeNextOrder_9 : decode cX10_takeNextOrder 9 = .ok (.iconst 2, 1) := by decide +kernel
theorem dX10_takeNextOrder_10 : decode cX10_takeNextOrder 10 = .ok (.isub, 1) := by decide +kernel
theorem dX10_takeNextOrder_11 : decode cX10_takeNextOrder 11 = .ok (.istore_n 2, 1) := by decide +kernel
theorem dX10_takeNextOrder_12 : decode cX10_takeNextOrder 12 = .ok (.iload_n 2, 1) := by decide +kernel
theorem dX10_takeNextOrder_13 : decode cX10_takeNextOrder 13 = .ok (.ifCond .lt 26, 3) := by decide +kernel
theorem dX10_takeNextOrder_16 : decode cX10_takeNextOrder 16 = .ok (.aload_n 0, 1) := by decide +kernel
theorem dX10_takeNextOrder_17 : decode cX10_takeNextOrder 17 = .ok (.getfield 81, 3) := by decide +kernel
theorem dX10_takeNextOrder_20 : decode cX10_takeNextOrder 20 = .ok (.iload_n 2, 1) := by decide +kernel
theorem dX10_takeNextOrder_21 : decode cX10_takeNextOrder 21 = .ok (.iaload, 1) := by decide +kernel
theorem dX10_takeNextOrder_22 : decode cX10_takeNextOrder 22 = .ok (.aload_n 0, 1) := by decide +kernel
theorem dX10_takeNextOrder_23 : decode cX10_takeNextOrder 23 = .ok (.getfield 81, 3) := by decide +kernel
theorem dX10_takeNextOrder_26 : decode cX10_takeNextOrder 26 = .ok (.iload_n 2, 1) := by decide +kernel
theorem dX10_takeNextOrder_27 : decode cX10_takeNextOrder 27 = .ok (.iconst 1, 1) := by decide +kernel
theorem dX10_takeNextOrder_28 : decode cX10_takeNextOrder 28 = .ok (.iadd, 1) := by decide +kernel
theorem dX10_takeNextOrder_29 : decode cX10_takeNextOrder 29 = .ok (.iaload, 1) := by decide +kernel
theorem dX10_takeNextOrder_30 : decode cX10_takeNextOrder 30 = .ok (.if_icmp .le 9, 3) := by decide +kernel
theorem dX10_takeNextOrder_33 : decode cX10_takeNextOrder 33 = .ok (.iinc 2 (-1), 3) := by decide +kernel
theorem dX10_takeNextOrder_36 : decode cX10_takeNextOrder 36 = .ok (.goto (-24), 3) := by decide +kernel
theorem dX10_takeNextOrder_39 : decode cX10_takeNextOrder 39 = .ok (.iload_n 2, 1) := by decide +kernel
theorem dX10_takeNextOrder_40 : decode cX10_takeNextOrder 40 = .ok (.ifCond .ge 5, 3) := by decide +kernel
theorem dX10_takeNextOrder_43 : decode cX10_takeNextOrder 43 = .ok (.iconst 0, 1) := by decide +kernel
theorem dX10_takeNextOrder_44 : decode cX10_takeNextOrder 44 = .ok (.ireturn, 1) := by decide +kernel
theorem dX10_takeNextOrder_45 : decode cX10_takeNextOrder 45 = .ok (.iload_n 1, 1) := by decide +kernel
theorem dX10_takeNextOrder_46 : decode cX10_takeNextOrder 46 = .ok (.iconst 1, 1) := by decide +kernel
theorem dX10_takeNextOrder_47 : decode cX10_takeNextOrder 47 = .ok (.isub, 1) := by decide +kernel
theorem dX10_takeNextOrder_48 : decode cX10_takeNextOrder 48 = .ok (.istore_n 3, 1) := by decide +kernel
theorem dX10_takeNextOrder_49 : decode cX10_takeNextOrder 49 = .ok (.iload_n 3, 1) := by decide +kernel
theorem dX10_takeNextOrder_50 : decode cX10_takeNextOrder 50 = .ok (.iload_n 2, 1) := by decide +kernel
theorem dX10_takeNextOrder_51 : decode cX10_takeNextOrder 51 = .ok (.if_icmp .le 24, 3) := by decide +kernel
theorem dX10_takeNextOrder_54 : decode cX10_takeNextOrder 54 = .ok (.aload_n 0, 1) := by decide +kernel
theorem dX10_takeNextOrder_55 : decode cX10_takeNextOrder 55 = .ok (.getfield 81, 3) := by decide +kernel
theorem dX10_takeNextOrder_58 : decode cX10_takeNextOrder 58 = .ok (.iload_n 3, 1) := by decide +kernel
theorem dX10_takeNextOrder_59 : decode cX10_takeNextOrder 59 = .ok (.iaload, 1) := by decide +kernel
theorem dX10_takeNextOrder_60 : decode cX10_takeNextOrder 60 = .ok (.aload_n 0, 1) := by decide +kernel
theorem dX10_takeNextOrder_61 : decode cX10_takeNextOrder 61 = .ok (.getfield 81, 3) := by decide +kernel
theorem dX10_takeNextOrder_64 : decode cX10_takeNextOrder 64 = .ok (.iload_n 2, 1) := by decide +kernel
theorem dX10_takeNextOrder_65 : decode cX10_takeNextOrder 65 = .ok (.iaload, 1) := by decide +kernel
theorem dX10_takeNextOrder_66 : decode cX10_takeNextOrder 66 = .ok (.if_icmp .ge 9, 3) := by decide +kernel
theorem dX10_takeNextOrder_69 : decode cX10_takeNextOrder 69 = .ok (.iinc 3 (-1), 3) := by decide +kernel
theorem dX10_takeNextOrder_72 : decode cX10_takeNextOrder 72 = .ok (.goto (-23), 3) := by decide +kernel
theorem dX10_takeNextOrder_75 : decode cX10_takeNextOrder 75 = .ok (.aload_n 0, 1) := by decide +kernel
theorem dX10_takeNextOrder_76 : decode cX10_takeNextOrder 76 = .ok (.iload_n 2, 1) := by decide +kernel
theorem dX10_takeNextOrder_77 : decode cX10_takeNextOrder 77 = .ok (.iload_n 3, 1) := by decide +kernel
theorem dX10_takeNextOrder_78 : decode cX10_takeNextOrder 78 = .ok (.invokevirtual 288, 3) := by decide +kernel
theorem dX10_takeNextOrder_81 : decode cX10_takeNextOrder 81 = .ok (.iload_n 2, 1) := by decide +kernel
theorem dX10_takeNextOrder_82 : decode cX10_takeNextOrder 82 = .ok (.iconst 1, 1) := by decide +kernel
theorem dX10_takeNextOrder_83 : decode cX10_takeNextOrder 83 = .ok (.iadd, 1) := by decide +kernel
theorem dX10_takeNextOrder_84 : decode cX10_takeNextOrder 84 = .ok (.istore 4, 2) := by decide +kernel
theorem dX10_takeNextOrder_86 : decode cX10_takeNextOrder 86 = .ok (.iload_n 1, 1) := by decide +kernel
theorem dX10_takeNextOrder_87 : decode cX10_takeNextOrder 87 = .ok (.iconst 1, 1) := by decide +kernel
theorem dX10_takeNextOrder_88 : decode cX10_takeNextOrder 88 = .ok (.isub, 1) := by decide +kernel
theorem dX10_takeNextOrder_89 : decode cX10_takeNextOrder 89 = .ok (.istore 5, 2) := by decide +kernel
theorem dX10_takeNextOrder_91 : decode cX10_takeNextOrder 91 = .ok (.iload 4, 2) := by decide +kernel
theorem dX10_takeNextOrder_93 : decode cX10_takeNextOrder 93 = .ok (.iload 5, 2) := by decide +kernel
theorem dX10_takeNextOrder_95 : decode cX10_takeNextOrder 95 = .ok (.if_icmp .ge 20, 3) := by decide +kernel
theorem dX10_takeNextOrder_98 : decode cX10_takeNextOrder 98 = .ok (.aload_n 0, 1) := by decide +kernel
theorem dX10_takeNextOrder_99 : decode cX10_takeNextOrder 99 = .ok (.iload 4, 2) := by decide +kernel
theorem dX10_takeNextOrder_101 : decode cX10_takeNextOrder 101 = .ok (.iload 5, 2) := by decide +kernel
theorem dX10_takeNextOrder_103 : decode cX10_takeNextOrder 103 = .ok (.invokevirtual 288, 3) := by decide +kernel
theorem dX10_takeNextOrder_106 : decode cX10_takeNextOrder 106 = .ok (.iinc 4 1, 3) := by decide +kernel
theorem dX10_takeNextOrder_109 : decode cX10_takeNextOrder 109 = .ok (.iinc 5 (-1), 3) := by decide +kernel
theorem dX10_takeNextOrder_112 : decode cX10_takeNextOrder 112 = .ok (.goto (-21), 3) := by decide +kernel
theorem dX10_takeNextOrder_115 : decode cX10_takeNextOrder 115 = .ok (.iconst 1, 1) := by decide +kernel
theorem dX10_takeNextOrder_116 : decode cX10_takeNextOrder 116 = .ok (.ireturn, 1) := by decide +kernel
def bX10_takeNextOrder : ol_SE := es_seq (es_set 1 (ei_f 2 2 (er_f 10 3 (er_v 0)))) (es_seq (es_set 2 (ei_2 ol_sub (ei_v 1) (ei_c 2))) (es_seq (es_wh (ec_and (ec_z ol_ge (ei_v 2)) (ec_2 ol_gt (ei_a 100 (er_f 10 13 (er_v 0)) (ei_v 2)) (ei_a 100 (er_f 10 13 (er_v 0)) (ei_2 ol_add (ei_v 2) (ei_c 1))))) (es_inc 2 (-1))) (es_seq (es_if (ec_z ol_lt (ei_v 2)) (es_retz (ei_c 0)) es_skip) (es_seq (es_set 3 (ei_2 ol_sub (ei_v 1) (ei_c 1))) (es_seq (es_wh (ec_and (ec_2 ol_gt (ei_v 3) (ei_v 2)) (ec_2 ol_lt (ei_a 100 (er_f 10 13 (er_v 0)) (ei_v 3)) (ei_a 100 (er_f 10 13 (er_v 0)) (ei_v 2)))) (es_inc 3 (-1))) (es_seq (es_of (ea_cv 10 fX10_swapTurns (ea_r (er_v 0) (ea_i (ei_v 2) (ea_i (ei_v 3) (ea_0)))))) (es_seq (es_seq (es_seq (es_set 4 (ei_2 ol_add (ei_v 2) (ei_c 1))) (es_set 5 (ei_2 ol_sub (ei_v 1) (ei_c 1)))) (es_wh (ec_2 ol_lt (ei_v 4) (ei_v 5)) (es_seq (es_of (ea_cv 10 fX10_swapTurns (ea_r (er_v 0) (ea_i (ei_v 4) (ea_i (ei_v 5) (ea_0)))))) (es_seq (es_inc 4 1) (es_inc 5 (-1)))))) (es_retz (ei_c 1)))))))))
def fX10_takeNextOrder : ol_FE := ol_fe 6 bX10_takeNextOrder
set_option maxRecDepth 20000 in
theorem imX10_takeNextOrder (x : ol_X) (K : ol_K) : IM_S x K mX10_takeNextOrder 0 0 bX10_takeNextOrder := rs_seq (p2 := 8) (rs_setn (ri_f (rr_f (rr_vn dX10_takeNextOrder_0 rfl) gfX10_31 dX10_takeNextOrder_1) gfX10_238 dX10_takeNextOrder_4) dX10_takeNextOrder_7 rfl (ol_ltn rfl)) (rs_seq (p2 := 12) (rs_setn (ri_2 ol_op_sub (ri_vn dX10_takeNextOrder_8 rfl) (ri_ic dX10_takeNextOrder_9 (by unfold ol_inR; omega)) dX10_takeNextOrder_10) dX10_takeNextOrder_11 rfl (ol_ltn rfl)) (rs_seq (p2 := 39) (rs_wh (pH := 12) (pB := 33) (pE := 39) (pG := 36) (rc_and (p2 := 16) (pT := 33) (pF := 39) (rc_zF (pF := 39) ol_j1_lt_F (ri_vn dX10_takeNextOrder_12 rfl) dX10_takeNextOrder_13 (by decide)) (rc_2F (pF := 39) ol_j2_le_F (ri_a (rr_f (rr_vn dX10_takeNextOrder_16 rfl) gfX10_81 dX10_takeNextOrder_17) (ri_vn dX10_takeNextOrder_20 rfl) rfl dX10_takeNextOrder_21) (ri_a (rr_f (rr_vn dX10_takeNextOrder_22 rfl) gfX10_81 dX10_takeNextOrder_23) (ri_2 ol_op_add (ri_vn dX10_takeNextOrder_26 rfl) (ri_ic dX10_takeNextOrder_27 (by unfold ol_inR; omega)) dX10_takeNextOrder_28) rfl dX10_takeNextOrder_29) dX10_takeNextOrder_30 (by decide))) (rs_inc dX10_takeNextOrder_33 (ol_ltn rfl)) dX10_takeNextOrder_36 (by decide)) (rs_seq (p2 := 45) (rs_if (pT := 43) (pF := 45) (pE := 45) (rc_zF (pF := 45) ol_j1_ge_F (ri_vn dX10_takeNextOrder_39 rfl) dX10_takeNextOrder_40 (by decide)) (rs_retz (ri_ic dX10_takeNextOrder_43 (by unfold ol_inR; omega)) rfl dX10_takeNextOrder_44) rs_skip) (rs_seq (p2 := 49) (rs_setn (ri_2 ol_op_sub (ri_vn dX10_takeNextOrder_45 rfl) (ri_ic dX10_takeNextOrder_46 (by unfold ol_inR; omega)) dX10_takeNextOrder_47) dX10_takeNextOrder_48 rfl (ol_ltn rfl)) (rs_seq (p2 := 75) (rs_wh (pH := 49) (pB := 69) (pE := 75) (pG := 72) (rc_and (p2 := 54) (pT := 69) (pF := 75) (rc_2F (pF := 75) ol_j2_le_F (ri_vn dX10_takeNextOrder_49 rfl) (ri_vn dX10_takeNextOrder_50 rfl) dX10_takeNextOrder_51 (by decide)) (rc_2F (pF := 75) ol_j2_ge_F (ri_a (rr_f (rr_vn dX10_takeNextOrder_54 rfl) gfX10_81 dX10_takeNextOrder_55) (ri_vn dX10_takeNextOrder_58 rfl) rfl dX10_takeNextOrder_59) (ri_a (rr_f (rr_vn dX10_takeNextOrder_60 rfl) gfX10_81 dX10_takeNextOrder_61) (ri_vn dX10_takeNextOrder_64 rfl) rfl dX10_takeNextOrder_65) dX10_takeNextOrder_66 (by decide))) (rs_inc dX10_takeNextOrder_69 (ol_ltn rfl)) dX10_takeNextOrder_72 (by decide)) (rs_seq (p2 := 81) (rs_k (rk_v (Mc := mX10_swapTurns) (conX10_swapTurns _ K) (ra_r (rr_vn dX10_takeNextOrder_75 rfl) (ra_i (ri_vn dX10_takeNextOrder_76 rfl) (ra_i (ri_vn dX10_takeNextOrder_77 rfl) (ra_0)))) dX10_takeNextOrder_78 cwX10_288 tw_769 tw_21 (by decide) rfl rfl ⟨rfl, rfl, Nat.le_of_ble_eq_true rfl⟩ (by decide) (by decide) (al_r (al_i (al_i al_0))))) (rs_seq (p2 := 115) (rs_seq (p2 := 91) (rs_seq (p2 := 86) (rs_set (ri_2 ol_op_add (ri_vn dX10_takeNextOrder_81 rfl) (ri_ic dX10_takeNextOrder_82 (by unfold ol_inR; omega)) dX10_takeNextOrder_83) dX10_takeNextOrder_84 (ol_ltn rfl)) (rs_set (ri_2 ol_op_sub (ri_vn dX10_takeNextOrder_86 rfl) (ri_ic dX10_takeNextOrder_87 (by unfold ol_inR; omega)) dX10_takeNextOrder_88) dX10_takeNextOrder_89 (ol_ltn rfl))) (rs_wh (pH := 91) (pB := 98) (pE := 115) (pG := 112) (rc_2F (pF := 115) ol_j2_ge_F (ri_vi dX10_takeNextOrder_91) (ri_vi dX10_takeNextOrder_93) dX10_takeNextOrder_95 (by decide)) (rs_seq (p2 := 106) (rs_k (rk_v (Mc := mX10_swapTurns) (conX10_swapTurns _ K) (ra_r (rr_vn dX10_takeNextOrder_98 rfl) (ra_i (ri_vi dX10_takeNextOrder_99) (ra_i (ri_vi dX10_takeNextOrder_101) (ra_0)))) dX10_takeNextOrder_103 cwX10_288 tw_769 tw_21 (by decide) rfl rfl ⟨rfl, rfl, Nat.le_of_ble_eq_true rfl⟩ (by decide) (by decide) (al_r (al_i (al_i al_0))))) (rs_seq (p2 := 109) (rs_inc dX10_takeNextOrder_106 (ol_ltn rfl)) (rs_inc dX10_takeNextOrder_109 (ol_ltn rfl)))) dX10_takeNextOrder_112 (by decide))) (rs_retz (ri_ic dX10_takeNextOrder_115 (by unfold ol_inR; omega)) rfl dX10_takeNextOrder_116))))))))
theorem conX10_takeNextOrder (l : Launch) (K : ol_K) : ol_Con l K yX10_takeNextOrder mX10_takeNextOrder fX10_takeNextOrder := ol_con (M := mX10_takeNextOrder) (by decide) rfl rfl (imX10_takeNextOrder · K)
