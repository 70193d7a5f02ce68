/-! by program: what each method does, and that its code does it -/
theorem dX10_came_0 : decode cX10_came 0 = .ok (.aload_n 0, 1) := by decide +kernel
theorem dX10_came_1 : decode cX10_came 1 = .ok (.getfield 159, 3) := by decide +kernel
theorem dX10_came_4 : decode cX10_came 4 = .ok (.ifCond .ne 6, 3) := by decide +kernel
theorem dX10_came_7 : decode cX10_came 7 = .ok (.ldc 165, 2) := by decide +kernel
theorem dX10_came_9 : decode cX10_came 9 = .ok (.ireturn, 1) := by decide +kernel
theorem dX10_came_10 : decode cX10_came 10 = .ok (.iload_n 1, 1) := by decide +kernel
theorem dX10_came_11 : decode cX10_came 11 = .ok (.tableswitch 97 0 6 #[41, 49, 57, 65, 73, 81, 89], 41) := by decide +kernel
theorem dX10_came_52 : decode cX10_came 52 = .ok (.aload_n 0, 1) := by decide +kernel
theorem dX10_came_53 : decode cX10_came 53 = .ok (.getfield 49, 3) := by decide +kernel
theorem dX10_came_56 : decode cX10_came 56 = .ok (.getfield 166, 3) := by decide +kernel
theorem dX10_came_59 : decode cX10_came 59 = .ok (.ireturn, 1) := by decide +kernel
theorem dX10_came_60 : decode cX10_came 60 = .ok (.aload_n 0, 1) := by decide +kernel
theorem dX10_came_61 : decode cX10_came 61 = .ok (.getfield 49, 3) := by decide +kernel
theorem dX10_came_64 : decode cX10_came 64 = .ok (.getfield 169, 3) := by decide +kernel
theorem dX10_came_67 : decode cX10_came 67 = .ok (.ireturn, 1) := by decide +kernel
theorem dX10_came_68 : decode cX10_came 68 = .ok (.aload_n 0, 1) := by decide +kernel
theorem dX10_came_69 : decode cX10_came 69 = .ok (.getfield 49, 3) := by decide +kernel
theorem dX10_came_72 : decode cX10_came 72 = .ok (.getfield 172, 3) := by decide +kernel
theorem dX10_came_75 : decode cX10_came 75 = .ok (.ireturn, 1) := by decide +kernel
theorem dX10_came_76 : decode cX10_came 76 = .ok (.aload_n 0, 1) := by decide +kernel
theorem dX10_came_77 : decode cX10_came 77 = .ok (.getfield 49, 3) := by decide +kernel
theorem dX10_came_80 : decode cX10_came 80 = .ok (.getfield 175, 3) := by decide +kernel
theorem dX10_came_83 : decode cX10_came 83 = .ok (.ireturn, 1) := by decide +kernel
theorem dX10_came_84 : decode cX10_came 84 = .ok (.aload_n 0, 1) := by decide +kernel
theorem dX10_came_85 : decode cX10_came 85 = .ok (.getfield 49, 3) := by decide +kernel
theorem dX10_came_88 : decode cX10_came 88 = .ok (.getfield 178, 3) := by decide +kernel
theorem dX10_came_91 : decode cX10_came 91 = .ok (.ireturn, 1) := by decide +kernel
theorem dX10_came_92 : decode cX10_came 92 = .ok (.aload_n 0, 1) := by decide +kernel
theorem dX10_came_93 : decode cX10_came 93 = .ok (.getfield 49, 3) := by decide +kernel
theorem dX10_came_96 : decode cX10_came 96 = .ok (.getfield 181, 3) := by decide +kernel
theorem dX10_came_99 : decode cX10_came 99 = .ok (.ireturn, 1) := by decide +kernel
theorem dX10_came_100 : decode cX10_came 100 = .ok (.aload_n 0, 1) := by decide +kernel
theorem dX10_came_101 : decode cX10_came 101 = .ok (.getfield 49, 3) := by decide +kernel
theorem dX10_came_104 : decode cX10_came 104 = .ok (.getfield 184, 3) := by decide +kernel
theorem dX10_came_107 : decode cX10_came 107 = .ok (.ireturn, 1) := by decide +kernel
theorem dX10_came_108 : decode cX10_came 108 = .ok (.ldc 165, 2) := by decide +kernel
theorem dX10_came_110 : decode cX10_came 110 = .ok (.ireturn, 1) := by decide +kernel
def bX10_came : ol_SE := es_seq (es_if (ec_not (ec_z ol_ne (ei_f 10 16 (er_v 0)))) (es_ret (ei_c (-1000000))) es_skip) (es_sw (ei_v 1) 0 [es_ret (ei_f 1 1 (er_f 10 7 (er_v 0))), es_ret (ei_f 1 2 (er_f 10 7 (er_v 0))), es_ret (ei_f 1 3 (er_f 10 7 (er_v 0))), es_ret (ei_f 1 4 (er_f 10 7 (er_v 0))), es_ret (ei_f 1 5 (er_f 10 7 (er_v 0))), es_ret (ei_f 1 6 (er_f 10 7 (er_v 0))), es_ret (ei_f 1 7 (er_f 10 7 (er_v 0)))] (es_ret (ei_c (-1000000))))
def fX10_came : ol_FE := ol_fe 2 bX10_came
set_option maxRecDepth 20000 in
theorem imX10_came (x : ol_X) (K : ol_K) : IM_S x K mX10_came 0 0 bX10_came := rs_seq (p2 := 10) (rs_if (pT := 7) (pF := 10) (pE := 10) (rc_not (rc_zT (pT := 10) ol_j1_ne_T (ri_f (rr_vn dX10_came_0 rfl) gfX10_159 dX10_came_1) dX10_came_4 (by decide))) (rs_ret (ri_ldc dX10_came_7 (by unfold ol_inR; omega) tw_615) rfl dX10_came_9) rs_skip) (rs_sw (pE := 0) (pD := 108) (ri_vn dX10_came_10 rfl) dX10_came_11 rfl ⟨⟨_, 52, rfl, by decide, rs_ret (ri_f (rr_f (rr_vn dX10_came_52 rfl) gfX10_49 dX10_came_53) gfX10_166 dX10_came_56) rfl dX10_came_59⟩, ⟨_, 60, rfl, by decide, rs_ret (ri_f (rr_f (rr_vn dX10_came_60 rfl) gfX10_49 dX10_came_61) gfX10_169 dX10_came_64) rfl dX10_came_67⟩, ⟨_, 68, rfl, by decide, rs_ret (ri_f (rr_f (rr_vn dX10_came_68 rfl) gfX10_49 dX10_came_69) gfX10_172 dX10_came_72) rfl dX10_came_75⟩, ⟨_, 76, rfl, by decide, rs_ret (ri_f (rr_f (rr_vn dX10_came_76 rfl) gfX10_49 dX10_came_77) gfX10_175 dX10_came_80) rfl dX10_came_83⟩, ⟨_, 84, rfl, by decide, rs_ret (ri_f (rr_f (rr_vn dX10_came_84 rfl) gfX10_49 dX10_came_85) gfX10_178 dX10_came_88) rfl dX10_came_91⟩, ⟨_, 92, rfl, by decide, rs_ret (ri_f (rr_f (rr_vn dX10_came_92 rfl) gfX10_49 dX10_came_93) gfX10_181 dX10_came_96) rfl dX10_came_99⟩, ⟨_, 100, rfl, by decide, rs_ret (ri_f (rr_f (rr_vn dX10_came_100 rfl) gfX10_49 dX10_came_101) gfX10_184 dX10_came_104) rfl dX10_came_107⟩, trivial⟩ (by decide) (rs_ret (ri_ldc dX10_came_108 (by unfold ol_inR; omega) tw_615) rfl dX10_came_110))
theorem conX10_came (l : Launch) (K : ol_K) : ol_Con l K yX10_came mX10_came fX10_came := ol_con (M := mX10_came) (by decide) rfl rfl (imX10_came · K)
theorem dX3_rolled_0 : decode cX3_rolled 0 = .ok (.iload_n 1, 1) := by decide +kernel
theorem dX3_rolled_1 : decode cX3_rolled 1 = .ok (.ifCond .lt 20, 3) := by decide +kernel
theorem dX3_rolled_4 : decode cX3_rolled 4 = .ok (.iload_n 1, 1) := by decide +kernel
theorem dX3_rolled_5 : decode cX3_rolled 5 = .ok (.aload_n 0, 1) := by decide +kernel
theorem dX3_rolled_6 : decode cX3_rolled 6 = .ok (.getfield 15, 3) := by decide +kernel
theorem dX3_rolled_9 : decode cX3_rolled 9 = .ok (.if_icmp .ge 12, 3) := by decide +kernel
theorem dX3_rolled_12 : decode cX3_rolled 12 = .ok (.aload_n 0, 1) := by decide +kernel
theorem dX3_rolled_13 : decode cX3_rolled 13 = .ok (.getfield 9, 3) := by decide +kernel
theorem dX3_rolled_16 : decode cX3_rolled 16 = .ok (.iload_n 1, 1) := by decide +kernel
theorem dX3_rolled_17 : decode cX3_rolled 17 = .ok (.iaload, 1) := by decide +kernel
theorem dX3_rolled_18 : decode cX3_rolled 18 = .ok (.goto 4, 3) := by decide +kernel
theorem dX3_rolled_21 : decode cX3_rolled 21 = .ok (.iconst 0, 1) := by decide +kernel
theorem dX3_rolled_22 : decode cX3_rolled 22 = .ok (.ireturn, 1) := by decide +kernel
def bX3_rolled : ol_SE := es_ret (ei_if (ec_and (ec_z ol_ge (ei_v 1)) (ec_2 ol_lt (ei_v 1) (ei_f 3 1 (er_v 0)))) (ei_a 100 (er_f 3 0 (er_v 0)) (ei_v 1)) (ei_c 0))
def fX3_rolled : ol_FE := ol_fe 2 bX3_rolled
set_option maxRecDepth 20000 in
theorem imX3_rolled (x : ol_X) (K : ol_K) : IM_S x K mX3_rolled 0 0 bX3_rolled := rs_ret (ri_if (pT := 12) (pF := 21) (p3 := 22) (rc_and (p2 := 4) (pT := 12) (pF := 21) (rc_zF (pF := 21) ol_j1_lt_F (ri_vn dX3_rolled_0 rfl) dX3_rolled_1 (by decide)) (rc_2F (pF := 21) ol_j2_ge_F (ri_vn dX3_rolled_4 rfl) (ri_f (rr_vn dX3_rolled_5 rfl) gfX3_15 dX3_rolled_6) dX3_rolled_9 (by decide))) (ri_a (rr_f (rr_vn dX3_rolled_12 rfl) gfX3_9 dX3_rolled_13) (ri_vn dX3_rolled_16 rfl) rfl dX3_rolled_17) dX3_rolled_18 (by decide) (ri_ic dX3_rolled_21 (by unfold ol_inR; omega))) rfl dX3_rolled_22
theorem conX3_rolled (l : Launch) (K : ol_K) : ol_Con l K yX3_rolled mX3_rolled fX3_rolled := ol_con (M := mX3_rolled) (by decide) rfl rfl (imX3_rolled · K)
theorem dX3_append_0 : decode cX3_append 0 = .ok (.aload_n 0, 1) := by decide +kernel
theorem dX3_append_1 : decode cX3_append 1 = .ok (.getfield 15, 3) := by decide +kernel
theorem dX3_append_4 : decode cX3_append 4 = .ok (.bipush 21, 2) := by decide +kernel
theorem dX3_append_6 : decode cX3_append 6 = .ok (.if_icmp .ge 23, 3) := by decide +kernel
theorem dX3_append_9 : decode cX3_append 9 = .ok (.aload_n 0, 1) := by decide +kernel
theorem dX3_append_10 : decode cX3_append 10 = .ok (.getfield 9, 3) := by decide +kernel
theorem dX3_append_13 : decode cX3_append 13 = .ok (.aload_n 0, 1) := by decide +kernel
theorem dX3_append_14 : decode cX3_append 14 = .ok (.getfield 15, 3) := by decide +kernel
theorem dX3_append_17 : decode cX3_append 17 = .ok (.iload_n 1, 1) := by decide +kernel
theorem dX3_append_18 : decode cX3_append 18 = .ok (.iastore, 1) := by decide +kernel
theorem dX3_append_19 : decode cX3_append 19 = .ok (.aload_n 0, 1) := by decide +kernel
theorem dX3_append_20 : decode cX3_append 20 = .ok (.dup, 1) := by decide +kernel
theorem dX3_append_21 : decode cX3_append 21 = .ok (.getfield 15, 3) := by decide +kernel
theorem dX3_append_24 : decode cX3_append 24 = .ok (.iconst 1, 1) := by decide +kernel
theorem dX3_append_25 : decode cX3_append 25 = .ok (.iadd, 1) := by decide +kernel
theorem dX3_append_26 : decode cX3_append 26 = .ok (.putfield 15, 3) := by decide +kernel
theorem dX3_append_29 : decode cX3_append 29 = .ok (.return_, 1) := by decide +kernel
def bX3_append : ol_SE := es_seq (es_if (ec_2 ol_lt (ei_f 3 1 (er_v 0)) (ei_c 21)) (es_seq (es_as 100 (er_f 3 0 (er_v 0)) (ei_f 3 1 (er_v 0)) (ei_v 1)) (es_uf 3 1 (er_v 0) ol_add (ei_c 1))) es_skip) (es_retv)
def fX3_append : ol_FE := ol_fe 2 bX3_append
set_option maxRecDepth 20000 in
theorem imX3_append (x : ol_X) (K : ol_K) : IM_S x K mX3_append 0 0 bX3_append := rs_seq (p2 := 29) (rs_if (pT := 9) (pF := 29) (pE := 29) (rc_2F (pF := 29) ol_j2_ge_F (ri_f (rr_vn dX3_append_0 rfl) gfX3_15 dX3_append_1) (ri_bi dX3_append_4 (by unfold ol_inR; omega) (by decide)) dX3_append_6 (by decide)) (rs_seq (p2 := 19) (rs_as (rr_f (rr_vn dX3_append_9 rfl) gfX3_9 dX3_append_10) (ri_f (rr_vn dX3_append_13 rfl) gfX3_15 dX3_append_14) (ri_vn dX3_append_17 rfl) dX3_append_18) (rs_uf ol_op_add (rr_vn dX3_append_19 rfl) dX3_append_20 dX3_append_21 (ri_ic dX3_append_24 (by unfold ol_inR; omega)) dX3_append_25 gfX3_15 pfX3_15 rfl dX3_append_26)) rs_skip) (rs_retv rfl dX3_append_29)
theorem conX3_append (l : Launch) (K : ol_K) : ol_Con l K yX3_append mX3_append fX3_append := ol_con (M := mX3_append) (by decide) rfl rfl (imX3_append · K)
theorem dX10_anew_0 : decode cX10_anew 0 = .ok (.aload_n 0, 1) := by decide +kernel
theorem dX10_anew_1 : decode cX10_anew 1 = .ok (.getfield 66, 3) := by decide +kernel
theorem dX10_anew_4 : decode cX10_anew 4 = .ok (.getfield 205, 3) := by decide +kernel
theorem dX10_anew_7 : decode cX10_anew 7 = .ok (.istore_n 1, 1) := by decide +kernel
theorem dX10_anew_8 : decode cX10_anew 8 = .ok (.aload_n 0, 1) := by decide +kernel
theorem dX10_anew_9 : decode cX10_anew 9 = .ok (.getfield 66, 3) := by decide +kernel
theorem dX10_anew_12 : decode cX10_anew 12 = .ok (.iconst 0, 1) := by decide +kernel
theorem dX10_anew_13 : decode cX10_anew 13 = .ok (.putfield 205, 3) := by decide +kernel
theorem dX10_anew_16 : decode cX10_anew 16 = .ok (.iload_n 1, 1) := by decide +kernel
theorem dX10_anew_17 : decode cX10_anew 17 = .ok (.ireturn, 1) := by decide +kernel
def bX10_anew : ol_SE := es_seq (es_set 1 (ei_f 3 1 (er_f 10 10 (er_v 0)))) (es_seq (es_pf 3 1 (er_f 10 10 (er_v 0)) (ei_c 0)) (es_ret (ei_v 1)))
def fX10_anew : ol_FE := ol_fe 2 bX10_anew
set_option maxRecDepth 20000 in
theorem imX10_anew (x : ol_X) (K : ol_K) : IM_S x K mX10_anew 0 0 bX10_anew := rs_seq (p2 := 8) (rs_setn (ri_f (rr_f (rr_vn dX10_anew_0 rfl) gfX10_66 dX10_anew_1) gfX10_205 dX10_anew_4) dX10_anew_7 rfl (ol_ltn rfl)) (rs_seq (p2 := 16) (rs_pf (rr_f (rr_vn dX10_anew_8 rfl) gfX10_66 dX10_anew_9) (ri_ic dX10_anew_12 (by unfold ol_inR; omega)) pfX10_205 rfl dX10_anew_13) (rs_ret (ri_vn dX10_anew_16 rfl) rfl dX10_anew_17))
theorem conX10_anew (l : Launch) (K : ol_K) : ol_Con l K yX10_anew mX10_anew fX10_anew := ol_con (M := mX10_anew) (by decide) rfl rfl (imX10_anew · K)
theorem dX8_notedMean_0 : decode cX8_notedMean 0 = .ok (.iconst 0, 1) := by decide +kernel
theorem dX8_notedMean_1 : decode cX8_notedMean 1 = .ok (.istore 4, 2) := by decide +kernel
theorem dX8_notedMean_3 : decode cX8_notedMean 3 = .ok (.iconst 0, 1) := by decide +kernel
theorem dX8_notedMean_4 : decode cX8_notedMean 4 = .ok (.istore 5, 2) := by decide +kernel
theorem dX8_notedMean_6 : decode cX8_notedMean 6 = .ok (.iload 5, 2) := by decide +kernel
theorem dX8_notedMean_8 : decode cX8_notedMean 8 = .ok (.iconst 5, 1) := by decide +kernel
theorem dX8_notedMean_9 : decode cX8_notedMean 9 = .ok (.if_icmp .ge 61, 3) := by decide +kernel
theorem dX8_notedMean_12 : decode cX8_notedMean 12 = .ok (.iload_n 2, 1) := by decide +kernel
theorem dX8_notedMean_13 : decode cX8_notedMean 13 = .ok (.iload 5, 2) := by decide +kernel
theorem dX8_notedMean_15 : decode cX8_notedMean 15 = .ok (.iadd, 1) := by decide +kernel
theorem dX8_notedMean_16 : decode cX8_notedMean 16 = .ok (.iconst 2, 1) := by decide +kernel
theorem dX8_notedMean_17 : decode cX8_notedMean 17 = .ok (.isub, 1) := by decide +kernel
theorem dX8_notedMean_18 : decode cX8_notedMean 18 = .ok (.istore 6, 2) := by decide +kernel
theorem dX8_notedMean_20 : decode cX8_notedMean 20 = .ok (.iload 6, 2) := by decide +kernel
theorem dX8_notedMean_22 : decode cX8_notedMean 22 = .ok (.ifCond .lt 42, 3) := by decide +kernel
theorem dX8_notedMean_25 : decode cX8_notedMean 25 = .ok (.iload 6, 2) := by decide +kernel
theorem dX8_notedMean_27 : decode cX8_notedMean 27 = .ok (.bipush 39, 2) := by decide +kernel
theorem dX8_notedMean_29 : decode cX8_notedMean 29 = .ok (.if_icmp .ge 35, 3) := by decide +kernel
theorem dX8_notedMean_32 : decode cX8_notedMean 32 = .ok (.iload 4, 2) := by decide +kernel
theorem dX8_notedMean_34 : decode cX8_notedMean 34 = .ok (.aload_n 0, 1) := by decide +kernel
theorem dX8_notedMean_35 : decode cX8_notedMean 35 = .ok (.getfield 9, 3) := by decide +kernel
theorem dX8_notedMean_38 : decode cX8_notedMean 38 = .ok (.iload_n 1, 1) := by decide +kernel
theorem dX8_notedMean_39 : decode cX8_notedMean 39 = .ok (.iconst 5, 1) := by decide +kernel
theorem dX8_notedMean_40 : decode cX8_notedMean 40 = .ok (.imul, 1) := by decide +kernel
theorem dX8_notedMean_41 : decode cX8_notedMean 41 = .ok (.iload 5, 2) := by decide +kernel
theorem dX8_notedMean_43 : decode cX8_notedMean 43 = .ok (.iadd, 1) := by decide +kernel
theorem dX8_notedMean_44 : decode cX8_notedMean 44 = .ok (.iaload, 1) := by decide +kernel
theorem dX8_notedMean_45 : decode cX8_notedMean 45 = .ok (.aload_n 0, 1) := by decide +kernel
theorem dX8_notedMean_46 : decode cX8_notedMean 46 = .ok (.getfield 22, 3) := by decide +kernel
theorem dX8_notedMean_49 : decode cX8_notedMean 49 = .ok (.iload 6, 2) := by decide +kernel
theorem dX8_notedMean_51 : decode cX8_notedMean 51 = .ok (.bipush 13, 2) := by decide +kernel
theorem dX8_notedMean_53 : decode cX8_notedMean 53 = .ok (.imul, 1) := by decide +kernel
theorem dX8_notedMean_54 : decode cX8_notedMean 54 = .ok (.iload_n 3, 1) := by decide +kernel
theorem dX8_notedMean_55 : decode cX8_notedMean 55 = .ok (.iadd, 1) := by decide +kernel
theorem dX8_notedMean_56 : decode cX8_notedMean 56 = .ok (.bipush 6, 2) := by decide +kernel
theorem dX8_notedMean_58 : decode cX8_notedMean 58 = .ok (.iadd, 1) := by decide +kernel
theorem dX8_notedMean_59 : decode cX8_notedMean 59 = .ok (.iaload, 1) := by decide +kernel
theorem dX8_notedMean_60 : decode cX8_notedMean 60 = .ok (.imul, 1) := by decide +kernel
theorem dX8_notedMean_61 : decode cX8_notedMean 61 = .ok (.iadd, 1) := by decide +kernel
theorem dX8_notedMean_62 : decode cX8_notedMean 62 = .ok (.istore 4, 2) := by decide +kernel
theorem dX8_notedMean_64 : decode cX8_notedMean 64 = .ok (.iinc 5 1, 3) := by decide +kernel
theorem dX8_notedMean_67 : decode cX8_notedMean 67 = .ok (.goto (-61), 3) := by decide +kernel
theorem dX8_notedMean_70 : decode cX8_notedMean 70 = .ok (.iload 4, 2) := by decide +kernel
theorem dX8_notedMean_72 : decode cX8_notedMean 72 = .ok (.ireturn, 1) := by decide +kernel
def bX8_notedMean : ol_SE := es_seq (es_set 4 (ei_c 0)) (es_seq (es_seq (es_set 5 (ei_c 0)) (es_wh (ec_2 ol_lt (ei_v 5) (ei_c 5)) (es_seq (es_seq (es_set 6 (ei_2 ol_sub (ei_2 ol_add (ei_v 2) (ei_v 5)) (ei_c 2))) (es_if (ec_and (ec_z ol_ge (ei_v 6)) (ec_2 ol_lt (ei_v 6) (ei_c 39))) (es_set 4 (ei_2 ol_add (ei_v 4) (ei_2 ol_mul (ei_a 100 (er_f 8 0 (er_v 0)) (ei_2 ol_add (ei_2 ol_mul (ei_v 1) (ei_c 5)) (ei_v 5))) (ei_a 100 (er_f 8 2 (er_v 0)) (ei_2 ol_add (ei_2 ol_add (ei_2 ol_mul (ei_v 6) (ei_c 13)) (ei_v 3)) (ei_c 6)))))) es_skip)) (es_inc 5 1)))) (es_ret (ei_v 4)))
def fX8_notedMean : ol_FE := ol_fe 7 bX8_notedMean
set_option maxRecDepth 20000 in
theorem imX8_notedMean (x : ol_X) (K : ol_K) : IM_S x K mX8_notedMean 0 0 bX8_notedMean := rs_seq (p2 := 3) (rs_set (ri_ic dX8_notedMean_0 (by unfold ol_inR; omega)) dX8_notedMean_1 (ol_ltn rfl)) (rs_seq (p2 := 70) (rs_seq (p2 := 6) (rs_set (ri_ic dX8_notedMean_3 (by unfold ol_inR; omega)) dX8_notedMean_4 (ol_ltn rfl)) (rs_wh (pH := 6) (pB := 12) (pE := 70) (pG := 67) (rc_2F (pF := 70) ol_j2_ge_F (ri_vi dX8_notedMean_6) (ri_ic dX8_notedMean_8 (by unfold ol_inR; omega)) dX8_notedMean_9 (by decide)) (rs_seq (p2 := 64) (rs_seq (p2 := 20) (rs_set (ri_2 ol_op_sub (ri_2 ol_op_add (ri_vn dX8_notedMean_12 rfl) (ri_vi dX8_notedMean_13) dX8_notedMean_15) (ri_ic dX8_notedMean_16 (by unfold ol_inR; omega)) dX8_notedMean_17) dX8_notedMean_18 (ol_ltn rfl)) (rs_if (pT := 32) (pF := 64) (pE := 64) (rc_and (p2 := 25) (pT := 32) (pF := 64) (rc_zF (pF := 64) ol_j1_lt_F (ri_vi dX8_notedMean_20) dX8_notedMean_22 (by decide)) (rc_2F (pF := 64) ol_j2_ge_F (ri_vi dX8_notedMean_25) (ri_bi dX8_notedMean_27 (by unfold ol_inR; omega) (by decide)) dX8_notedMean_29 (by decide))) (rs_set (ri_2 ol_op_add (ri_vi dX8_notedMean_32) (ri_2 ol_op_mul (ri_a (rr_f (rr_vn dX8_notedMean_34 rfl) gfX8_9 dX8_notedMean_35) (ri_2 ol_op_add (ri_2 ol_op_mul (ri_vn dX8_notedMean_38 rfl) (ri_ic dX8_notedMean_39 (by unfold ol_inR; omega)) dX8_notedMean_40) (ri_vi dX8_notedMean_41) dX8_notedMean_43) rfl dX8_notedMean_44) (ri_a (rr_f (rr_vn dX8_notedMean_45 rfl) gfX8_22 dX8_notedMean_46) (ri_2 ol_op_add (ri_2 ol_op_add (ri_2 ol_op_mul (ri_vi dX8_notedMean_49) (ri_bi dX8_notedMean_51 (by unfold ol_inR; omega) (by decide)) dX8_notedMean_53) (ri_vn dX8_notedMean_54 rfl) dX8_notedMean_55) (ri_bi dX8_notedMean_56 (by unfold ol_inR; omega) (by decide)) dX8_notedMean_58) rfl dX8_notedMean_59) dX8_notedMean_60) dX8_notedMean_61) dX8_notedMean_62 (ol_ltn rfl)) rs_skip)) (rs_inc dX8_notedMean_64 (ol_ltn rfl))) dX8_notedMean_67 (by decide))) (rs_ret (ri_vi dX8_notedMean_70) rfl dX8_notedMean_72))
theorem conX8_notedMean (l : Launch) (K : ol_K) : ol_Con l K yX8_notedMean mX8_notedMean fX8_notedMean := ol_con (M := mX8_notedMean) (by decide) rfl rfl (imX8_notedMean · K)
theorem dX8_offer_0 : decode cX8_offer 0 = .ok (.iload_n 1, 1) := by decide +kernel
theorem dX8_offer_1 : decode cX8_offer 1 = .ok (.aload_n 0, 1) := by decide +kernel
theorem dX8_offer_2 : decode cX8_offer 2 = .ok (.getfield 36, 3) := by decide +kernel
theorem dX8_offer_5 : decode cX8_offer 5 = .ok (.if_icmp .le 24, 3) := by decide +kernel
theorem dX8_offer_8 : decode cX8_offer 8 = .ok (.aload_n 0, 1) := by decide +kernel
theorem dX8_offer_9 : decode cX8_offer 9 = .ok (.iload_n 1, 1) := by decide +kernel
theorem dX8_offer_10 : decode cX8_offer 10 = .ok (.putfield 36, 3) := by decide +kernel
theorem dX8_offer_13 : decode cX8_offer 13 = .ok (.aload_n 0, 1) := by decide +kernel
theorem dX8_offer_14 : decode cX8_offer 14 = .ok (.iload_n 2, 1) := by decide +kernel
theorem dX8_offer_15 : decode cX8_offer 15 = .ok (.putfield 52, 3) := by decide +kernel
theorem dX8_offer_18 : decode cX8_offer 18 = .ok (.aload_n 0, 1) := by decide +kernel
theorem dX8_offer_19 : decode cX8_offer 19 = .ok (.iload_n 3, 1) := by decide +kernel
theorem dX8_offer_20 : decode cX8_offer 20 = .ok (.putfield 55, 3) := by decide +kernel
theorem dX8_offer_23 : decode cX8_offer 23 = .ok (.aload_n 0, 1) := by decide +kernel
theorem dX8_offer_24 : decode cX8_offer 24 = .ok (.iload 4, 2) := by decide +kernel
theorem dX8_offer_26 : decode cX8_offer 26 = .ok (.putfield 58, 3) := by decide +kernel
theorem dX8_offer_29 : decode cX8_offer 29 = .ok (.return_, 1) := by decide +kernel
def bX8_offer : ol_SE := es_seq (es_if (ec_2 ol_gt (ei_v 1) (ei_f 8 4 (er_v 0))) (es_seq (es_pf 8 4 (er_v 0) (ei_v 1)) (es_seq (es_pf 8 5 (er_v 0) (ei_v 2)) (es_seq (es_pf 8 6 (er_v 0) (ei_v 3)) (es_pf 8 7 (er_v 0) (ei_v 4))))) es_skip) (es_retv)
def fX8_offer : ol_FE := ol_fe 5 bX8_offer
set_option maxRecDepth 20000 in
theorem imX8_offer (x : ol_X) (K : ol_K) : IM_S x K mX8_offer 0 0 bX8_offer := rs_seq (p2 := 29) (rs_if (pT := 8) (pF := 29) (pE := 29) (rc_2F (pF := 29) ol_j2_le_F (ri_vn dX8_offer_0 rfl) (ri_f (rr_vn dX8_offer_1 rfl) gfX8_36 dX8_offer_2) dX8_offer_5 (by decide)) (rs_seq (p2 := 13) (rs_pf (rr_vn dX8_offer_8 rfl) (ri_vn dX8_offer_9 rfl) pfX8_36 rfl dX8_offer_10) (rs_seq (p2 := 18) (rs_pf (rr_vn dX8_offer_13 rfl) (ri_vn dX8_offer_14 rfl) pfX8_52 rfl dX8_offer_15) (rs_seq (p2 := 23) (rs_pf (rr_vn dX8_offer_18 rfl) (ri_vn dX8_offer_19 rfl) pfX8_55 rfl dX8_offer_20) (rs_pf (rr_vn dX8_offer_23 rfl) (ri_vi dX8_offer_24) pfX8_58 rfl dX8_offer_26)))) rs_skip) (rs_retv rfl dX8_offer_29)
theorem conX8_offer (l : Launch) (K : ol_K) : ol_Con l K yX8_offer mX8_offer fX8_offer := ol_con (M := mX8_offer) (by decide) rfl rfl (imX8_offer · K)
theorem dX9_begin_0 : decode cX9_begin 0 = .ok (.aload_n 0, 1) := by decide +kernel
theorem dX9_begin_1 : decode cX9_begin 1 = .ok (.iload_n 1, 1) := by decide +kernel
theorem dX9_begin_2 : decode cX9_begin 2 = .ok (.putfield 9, 3) := by decide +kernel
theorem dX9_begin_5 : decode cX9_begin 5 = .ok (.aload_n 0, 1) := by decide +kernel
theorem dX9_begin_6 : decode cX9_begin 6 = .ok (.iload_n 2, 1) := by decide +kernel
theorem dX9_begin_7 : decode cX9_begin 7 = .ok (.putfield 15, 3) := by decide +kernel
theorem dX9_begin_10 : decode cX9_begin 10 = .ok (.aload_n 0, 1) := by decide +kernel
theorem dX9_begin_11 : decode cX9_begin 11 = .ok (.iload_n 3, 1) := by decide +kernel
theorem dX9_begin_12 : decode cX9_begin 12 = .ok (.putfield 18, 3) := by decide +kernel
theorem dX9_begin_15 : decode cX9_begin 15 = .ok (.aload_n 0, 1) := by decide +kernel
theorem dX9_begin_16 : decode cX9_begin 16 = .ok (.iload 4, 2) := by decide +kernel
theorem dX9_begin_18 : decode cX9_begin 18 = .ok (.putfield 21, 3) := by decide +kernel
theorem dX9_begin_21 : decode cX9_begin 21 = .ok (.aload_n 0, 1) := by decide +kernel
theorem dX9_begin_22 : decode cX9_begin 22 = .ok (.iload 5, 2) := by decide +kernel
theorem dX9_begin_24 : decode cX9_begin 24 = .ok (.putfield 24, 3) := by decide +kernel
theorem dX9_begin_27 : decode cX9_begin 27 = .ok (.aload_n 0, 1) := by decide +kernel
theorem dX9_begin_28 : decode cX9_begin 28 = .ok (.iconst 0, 1) := by decide +kernel
theorem dX9_begin_29 : decode cX9_begin 29 = .ok (.putfield 27, 3) := by decide +kernel
theorem dX9_begin_32 : decode cX9_begin 32 = .ok (.return_, 1) := by decide +kernel
def bX9_begin : ol_SE := es_seq (es_pf 9 0 (er_v 0) (ei_v 1)) (es_seq (es_pf 9 1 (er_v 0) (ei_v 2)) (es_seq (es_pf 9 2 (er_v 0) (ei_v 3)) (es_seq (es_pf 9 3 (er_v 0) (ei_v 4)) (es_seq (es_pf 9 4 (er_v 0) (ei_v 5)) (es_seq (es_pf 9 5 (er_v 0) (ei_c 0)) (es_retv))))))
def fX9_begin : ol_FE := ol_fe 6 bX9_begin
set_option maxRecDepth 20000 in
theorem imX9_begin (x : ol_X) (K : ol_K) : IM_S x K mX9_begin 0 0 bX9_begin := rs_seq (p2 := 5) (rs_pf (rr_vn dX9_begin_0 rfl) (ri_vn dX9_begin_1 rfl) pfX9_9 rfl dX9_begin_2) (rs_seq (p2 := 10) (rs_pf (rr_vn dX9_begin_5 rfl) (ri_vn dX9_begin_6 rfl) pfX9_15 rfl dX9_begin_7) (rs_seq (p2 := 15) (rs_pf (rr_vn dX9_begin_10 rfl) (ri_vn dX9_begin_11 rfl) pfX9_18 rfl dX9_begin_12) (rs_seq (p2 := 21) (rs_pf (rr_vn dX9_begin_15 rfl) (ri_vi dX9_begin_16) pfX9_21 rfl dX9_begin_18) (rs_seq (p2 := 27) (rs_pf (rr_vn dX9_begin_21 rfl) (ri_vi dX9_begin_22) pfX9_24 rfl dX9_begin_24) (rs_seq (p2 := 32) (rs_pf (rr_vn dX9_begin_27 rfl) (ri_ic dX9_begin_28 (by unfold ol_inR; omega)) pfX9_27 rfl dX9_begin_29) (rs_retv rfl dX9_begin_32))))))
theorem conX9_begin (l : Launch) (K : ol_K) : ol_Con l K yX9_begin mX9_begin fX9_begin := ol_con (M := mX9_begin) (by decide) rfl rfl (imX9_begin · K)
theorem dX10_takeFirstOrder_0 : decode cX10_takeFirstOrder 0 = .ok (.iconst 0, 1) := by decide +kernel
theorem dX10_takeFirstOrder_1 : decode cX10_takeFirstOrder 1 = .ok (.istore_n 1, 1) := by decide +kernel
theorem dX10_takeFirstOrder_2 : decode cX10_takeFirstOrder 2 = .ok (.iload_n 1, 1) := by decide +kernel
theorem dX10_takeFirstOrder_3 : decode cX10_takeFirstOrder 3 = .ok (.iconst 4, 1) := by decide +kernel
theorem dX10_takeFirstOrder_4 : decode cX10_takeFirstOrder 4 = .ok (.if_icmp .ge 16, 3) := by decide +kernel
theorem dX10_takeFirstOrder_7 : decode cX10_takeFirstOrder 7 = .ok (.aload_n 0, 1) := by decide +kernel
theorem dX10_takeFirstOrder_8 : decode cX10_takeFirstOrder 8 = .ok (.getfield 81, 3) := by decide +kernel
theorem dX10_takeFirstOrder_11 : decode cX10_takeFirstOrder 11 = .ok (.iload_n 1, 1) := by decide +kernel
theorem dX10_takeFirstOrder_12 : decode cX10_takeFirstOrder 12 = .ok (.iload_n 1, 1) := by decide +kernel
theorem dX10_takeFirstOrder_13 : decode cX10_takeFirstOrder 13 = .ok (.iastore, 1) := by decide +kernel
theorem dX10_takeFirstOrder_14 : decode cX10_takeFirstOrder 14 = .ok (.iinc 1 1, 3) := by decide +kernel
theorem dX10_takeFirstOrder_17 : decode cX10_takeFirstOrder 17 = .ok (.goto (-15), 3) := by decide +kernel
theorem dX10_takeFirstOrder_20 : decode cX10_takeFirstOrder 20 = .ok (.return_, 1) := by decide +kernel
def bX10_takeFirstOrder : ol_SE := es_seq (es_seq (es_set 1 (ei_c 0)) (es_wh (ec_2 ol_lt (ei_v 1) (ei_c 4)) (es_seq (es_as 100 (er_f 10 13 (er_v 0)) (ei_v 1) (ei_v 1)) (es_inc 1 1)))) (es_retv)
def fX10_takeFirstOrder : ol_FE := ol_fe 2 bX10_takeFirstOrder
set_option maxRecDepth 20000 in
theorem imX10_takeFirstOrder (x : ol_X) (K : ol_K) : IM_S x K mX10_takeFirstOrder 0 0 bX10_takeFirstOrder := rs_seq (p2 := 20) (rs_seq (p2 := 2) (rs_setn (ri_ic dX10_takeFirstOrder_0 (by unfold ol_inR; omega)) dX10_takeFirstOrder_1 rfl (ol_ltn rfl)) (rs_wh (pH := 2) (pB := 7) (pE := 20) (pG := 17) (rc_2F (pF := 20) ol_j2_ge_F (ri_vn dX10_takeFirstOrder_2 rfl) (ri_ic dX10_takeFirstOrder_3 (by unfold ol_inR; omega)) dX10_takeFirstOrder_4 (by decide)) (rs_seq (p2 := 14) (rs_as (rr_f (rr_vn dX10_takeFirstOrder_7 rfl) gfX10_81 dX10_takeFirstOrder_8) (ri_vn dX10_takeFirstOrder_11 rfl) (ri_vn dX10_takeFirstOrder_12 rfl) dX10_takeFirstOrder_13) (rs_inc dX10_takeFirstOrder_14 (ol_ltn rfl))) dX10_takeFirstOrder_17 (by decide))) (rs_retv rfl dX10_takeFirstOrder_20)
theorem conX10_takeFirstOrder (l : Launch) (K : ol_K) : ol_Con l K yX10_takeFirstOrder mX10_takeFirstOrder fX10_takeFirstOrder := ol_con (M := mX10_takeFirstOrder) (by decide) rfl rfl (imX10_takeFirstOrder · K)
theorem dJ6_compare_7cf53_0 : decode cJ6_compare_7cf53 0 = .ok (.iload_n 0, 1) := by decide +kernel
theorem dJ6_compare_7cf53_1 : decode cJ6_compare_7cf53 1 = .ok (.iload_n 1, 1) := by decide +kernel
theorem dJ6_compare_7cf53_2 : decode cJ6_compare_7cf53 2 = .ok (.if_icmp .ge 7, 3) := by decide +kernel
theorem dJ6_compare_7cf53_5 : decode cJ6_compare_7cf53 5 = .ok (.iconst (-1), 1) := by decide +kernel
theorem dJ6_compare_7cf53_6 : decode cJ6_compare_7cf53 6 = .ok (.goto 13, 3) := by decide +kernel
theorem dJ6_compare_7cf53_9 : decode cJ6_compare_7cf53 9 = .ok (.iload_n 0, 1) := by decide +kernel
theorem dJ6_compare_7cf53_10 : decode cJ6_compare_7cf53 10 = .ok (.iload_n 1, 1) := by decide +kernel
theorem dJ6_compare_7cf53_11 : decode cJ6_compare_7cf53 11 = .ok (.if_icmp .ne 7, 3) := by decide +kernel
theorem dJ6_compare_7cf53_14 : decode cJ6_compare_7cf53 14 = .ok (.iconst 0, 1) := by decide +kernel
theorem dJ6_compare_7cf53_15 : decode cJ6_compare_7cf53 15 = .ok (.goto 4, 3) := by decide +kernel
theorem dJ6_compare_7cf53_18 : decode cJ6_compare_7cf53 18 = .ok (.iconst 1, 1) := by decide +kernel
theorem dJ6_compare_7cf53_19 : decode cJ6_compare_7cf53 19 = .ok (.ireturn, 1) := by decide +kernel
def bJ6_compare_7cf53 : ol_SE := es_ret (ei_if (ec_2 ol_lt (ei_v 0) (ei_v 1)) (ei_c (-1)) (ei_if (ec_2 ol_eq (ei_v 0) (ei_v 1)) (ei_c 0) (ei_c 1)))
def fJ6_compare_7cf53 : ol_FE := ol_fe 2 bJ6_compare_7cf53
set_option maxRecDepth 20000 in
theorem imJ6_compare_7cf53 (x : ol_X) (K : ol_K) : IM_S x K mJ6_compare_7cf53 0 0 bJ6_compare_7cf53 := rs_ret (ri_if (pT := 5) (pF := 9) (p3 := 19) (rc_2F (pF := 9) ol_j2_ge_F (ri_vn dJ6_compare_7cf53_0 rfl) (ri_vn dJ6_compare_7cf53_1 rfl) dJ6_compare_7cf53_2 (by decide)) (ri_ic dJ6_compare_7cf53_5 (by unfold ol_inR; omega)) dJ6_compare_7cf53_6 (by decide) (ri_if (pT := 14) (pF := 18) (p3 := 19) (rc_2F (pF := 18) ol_j2_ne_F (ri_vn dJ6_compare_7cf53_9 rfl) (ri_vn dJ6_compare_7cf53_10 rfl) dJ6_compare_7cf53_11 (by decide)) (ri_ic dJ6_compare_7cf53_14 (by unfold ol_inR; omega)) dJ6_compare_7cf53_15 (by decide) (ri_ic dJ6_compare_7cf53_18 (by unfold ol_inR; omega)))) rfl dJ6_compare_7cf53_19
theorem conJ6_compare_7cf53 (l : Launch) (K : ol_K) : ol_Con l K yJ6_compare_7cf53 mJ6_compare_7cf53 fJ6_compare_7cf53 := ol_con (M := mJ6_compare_7cf53) (by decide) rfl rfl (imJ6_compare_7cf53 · K)
theorem dX4_copyFrom_0 : decode cX4_copyFrom 0 = .ok (.aload_n 1, 1) := by decide +kernel
theorem dX4_copyFrom_1 : decode cX4_copyFrom 1 = .ok (.getfield 9, 3) := by decide +kernel
theorem dX4_copyFrom_4 : decode cX4_copyFrom 4 = .ok (.iconst 0, 1) := by decide +kernel
theorem dX4_copyFrom_5 : decode cX4_copyFrom 5 = .ok (.aload_n 0, 1) := by decide +kernel
theorem dX4_copyFrom_6 : decode cX4_copyFrom 6 = .ok (.getfield 9, 3) := by decide +kernel
theorem dX4_copyFrom_9 : decode cX4_copyFrom 9 = .ok (.iconst 0, 1) := by decide +kernel
theorem dX4_copyFrom_10 : decode cX4_copyFrom 10 = .ok (.sipush 780, 3) := by decide +kernel
theorem dX4_copyFrom_13 : decode cX4_copyFrom 13 = .ok (.invokestatic 15, 3) := by decide +kernel
theorem dX4_copyFrom_16 : decode cX4_copyFrom 16 = .ok (.return_, 1) := by decide +kernel
def bX4_copyFrom : ol_SE := es_seq (es_cp (er_f 4 0 (er_v 1)) (er_f 4 0 (er_v 0)) 780) (es_retv)
def fX4_copyFrom : ol_FE := ol_fe 2 bX4_copyFrom
set_option maxRecDepth 20000 in
theorem imX4_copyFrom (x : ol_X) (K : ol_K) : IM_S x K mX4_copyFrom 0 0 bX4_copyFrom := rs_seq (p2 := 16) (rs_cp (n := 780) (rr_f (rr_vn dX4_copyFrom_0 rfl) gfX4_9 dX4_copyFrom_1) (ri_ic dX4_copyFrom_4 (by unfold ol_inR; omega)) (rr_f (rr_vn dX4_copyFrom_5 rfl) gfX4_9 dX4_copyFrom_6) (ri_ic dX4_copyFrom_9 (by unfold ol_inR; omega)) (ri_si dX4_copyFrom_10 (by unfold ol_inR; omega) (by decide)) dX4_copyFrom_13 tw_749 ⟨tw_517, tw_516, tw_68⟩ (by decide)) (rs_retv rfl dX4_copyFrom_16)
theorem conX4_copyFrom (l : Launch) (K : ol_K) : ol_Con l K yX4_copyFrom mX4_copyFrom fX4_copyFrom := ol_con (M := mX4_copyFrom) (by decide) rfl rfl (imX4_copyFrom · K)
theorem dX10_orderAsFigures_0 : decode cX10_orderAsFigures 0 = .ok (.iconst 0, 1) := by decide +kernel
theorem dX10_orderAsFigures_1 : decode cX10_orderAsFigures 1 = .ok (.istore_n 1, 1) := by decide +kernel
theorem dX10_orderAsFigures_2 : decode cX10_orderAsFigures 2 = .ok (.iconst 0, 1) := by decide +kernel
theorem dX10_orderAsFigures_3 : decode cX10_orderAsFigures 3 = .ok (.istore_n 2, 1) := by decide +kernel
theorem dX10_orderAsFigures_4 : decode cX10_orderAsFigures 4 = .ok (.iload_n 2, 1) := by decide +kernel
theorem dX10_orderAsFigures_5 : decode cX10_orderAsFigures 5 = .ok (.aload_n 0, 1) := by decide +kernel
theorem dX10_orderAsFigures_6 : decode cX10_orderAsFigures 6 = .ok (.getfield 31, 3) := by decide +kernel
theorem dX10_orderAsFigures_9 : decode cX10_orderAsFigures 9 = .ok (.getfield 238, 3) := by decide +kernel
theorem dX10_orderAsFigures_12 : decode cX10_orderAsFigures 12 = .ok (.if_icmp .ge 21, 3) := by decide +kernel
theorem dX10_orderAsFigures_15 : decode cX10_orderAsFigures 15 = .ok (.iload_n 1, 1) := by decide +kernel
theorem dX10_orderAsFigures_16 : decode cX10_orderAsFigures 16 = .ok (.bipush 10, 2) := by decide +kernel
theorem dX10_orderAsFigures_18 : decode cX10_orderAsFigures 18 = .ok (.imul, 1) := by decide +kernel
theorem dX10_orderAsFigures_19 : decode cX10_orderAsFigures 19 = .ok (.aload_n 0, 1) := by decide +kernel
theorem dX10_orderAsFigures_20 : decode cX10_orderAsFigures 20 = .ok (.getfield 81, 3) := by decide +kernel
theorem dX10_orderAsFigures_23 : decode cX10_orderAsFigures 23 = .ok (.iload_n 2, 1) := by decide +kernel
theorem dX10_orderAsFigures_24 : decode cX10_orderAsFigures 24 = .ok (.iaload, 1) := by decide +kernel
theorem dX10_orderAsFigures_25 : decode cX10_orderAsFigures 25 = .ok (.iadd, 1) := by decide +kernel
theorem dX10_orderAsFigures_26 : decode cX10_orderAsFigures 26 = .ok (.istore_n 1, 1) := by decide +kernel
theorem dX10_orderAsFigures_27 : decode cX10_orderAsFigures 27 = .ok (.iinc 2 1, 3) := by decide +kernel
theorem dX10_orderAsFigures_30 : decode cX10_orderAsFigures 30 = .ok (.goto (-26), 3) := by decide +kernel
theorem dX10_orderAsFigures_33 : decode cX10_orderAsFigures 33 = .ok (.iload_n 1, 1) := by decide +kernel
theorem dX10_orderAsFigures_34 : decode cX10_orderAsFigures 34 = .ok (.ireturn, 1) := by decide +kernel
def bX10_orderAsFigures : ol_SE := es_seq (es_set 1 (ei_c 0)) (es_seq (es_seq (es_set 2 (ei_c 0)) (es_wh (ec_2 ol_lt (ei_v 2) (ei_f 2 2 (er_f 10 3 (er_v 0)))) (es_seq (es_set 1 (ei_2 ol_add (ei_2 ol_mul (ei_v 1) (ei_c 10)) (ei_a 100 (er_f 10 13 (er_v 0)) (ei_v 2)))) (es_inc 2 1)))) (es_ret (ei_v 1)))
def fX10_orderAsFigures : ol_FE := ol_fe 3 bX10_orderAsFigures
set_option maxRecDepth 20000 in
theorem imX10_orderAsFigures (x : ol_X) (K : ol_K) : IM_S x K mX10_orderAsFigures 0 0 bX10_orderAsFigures := rs_seq (p2 := 2) (rs_setn (ri_ic dX10_orderAsFigures_0 (by unfold ol_inR; omega)) dX10_orderAsFigures_1 rfl (ol_ltn rfl)) (rs_seq (p2 := 33) (rs_seq (p2 := 4) (rs_setn (ri_ic dX10_orderAsFigures_2 (by unfold ol_inR; omega)) dX10_orderAsFigures_3 rfl (ol_ltn rfl)) (rs_wh (pH := 4) (pB := 15) (pE := 33) (pG := 30) (rc_2F (pF := 33) ol_j2_ge_F (ri_vn dX10_orderAsFigures_4 rfl) (ri_f (rr_f (rr_vn dX10_orderAsFigures_5 rfl) gfX10_31 dX10_orderAsFigures_6) gfX10_238 dX10_orderAsFigures_9) dX10_orderAsFigures_12 (by decide)) (rs_seq (p2 := 27) (rs_setn (ri_2 ol_op_add (ri_2 ol_op_mul (ri_vn dX10_orderAsFigures_15 rfl) (ri_bi dX10_orderAsFigures_16 (by unfold ol_inR; omega) (by decide)) dX10_orderAsFigures_18) (ri_a (rr_f (rr_vn dX10_orderAsFigures_19 rfl) gfX10_81 dX10_orderAsFigures_20) (ri_vn dX10_orderAsFigures_23 rfl) rfl dX10_orderAsFigures_24) dX10_orderAsFigures_25) dX10_orderAsFigures_26 rfl (ol_ltn rfl)) (rs_inc dX10_orderAsFigures_27 (ol_ltn rfl))) dX10_orderAsFigures_30 (by decide))) (rs_ret (ri_vn dX10_orderAsFigures_33 rfl) rfl dX10_orderAsFigures_34))
theorem conX10_orderAsFigures (l : Launch) (K : ol_K) : ol_Con l K yX10_orderAsFigures mX10_orderAsFigures fX10_orderAsFigures := ol_con (M := mX10_orderAsFigures) (by decide) rfl rfl (imX10_orderAsFigures · K)
theorem dX10_swapTurns_0 : decode cX10_swapTurns 0 = .ok (.aload_n 0, 1) := by decide +kernel
theorem dX10_swapTurns_1 : decode cX10_swapTurns 1 = .ok (.getfield 81, 3) := by decide +kernel
theorem dX10_swapTurns_4 : decode cX10_swapTurns 4 = .ok (.iload_n 1, 1) := by decide +kernel
theorem dX10_swapTurns_5 : decode cX10_swapTurns 5 = .ok (.iaload, 1) := by decide +kernel
theorem dX10_swapTurns_6 : decode cX10_swapTurns 6 = .ok (.istore_n 3, 1) := by decide +kernel
theorem dX10_swapTurns_7 : decode cX10_swapTurns 7 = .ok (.aload_n 0, 1) := by decide +kernel
theorem dX10_swapTurns_8 : decode cX10_swapTurns 8 = .ok (.getfield 81, 3) := by decide +kernel
theorem dX10_swapTurns_11 : decode cX10_swapTurns 11 = .ok (.iload_n 1, 1) := by decide +kernel
theorem dX10_swapTurns_12 : decode cX10_swapTurns 12 = .ok (.aload_n 0, 1) := by decide +kernel
theorem dX10_swapTurns_13 : decode cX10_swapTurns 13 = .ok (.getfield 81, 3) := by decide +kernel
theorem dX10_swapTurns_16 : decode cX10_swapTurns 16 = .ok (.iload_n 2, 1) := by decide +kernel
theorem dX10_swapTurns_17 : decode cX10_swapTurns 17 = .ok (.iaload, 1) := by decide +kernel
theorem dX10_swapTurns_18 : decode cX10_swapTurns 18 = .ok (.iastore, 1) := by decide +kernel
theorem dX10_swapTurns_19 : decode cX10_swapTurns 19 = .ok (.aload_n 0, 1) := by decide +kernel
theorem dX10_swapTurns_20 : decode cX10_swapTurns 20 = .ok (.getfield 81, 3) := by decide +kernel
theorem dX10_swapTurns_23 : decode cX10_swapTurns 23 = .ok (.iload_n 2, 1) := by decide +kernel
theorem dX10_swapTurns_24 : decode cX10_swapTurns 24 = .ok (.iload_n 3, 1) := by decide +kernel
theorem dX10_swapTurns_25 : decode cX10_swapTurns 25 = .ok (.iastore, 1) := by decide +kernel
theorem dX10_swapTurns_26 : decode cX10_swapTurns 26 = .ok (.return_, 1) := by decide +kernel
def bX10_swapTurns : ol_SE := es_seq (es_set 3 (ei_a 100 (er_f 10 13 (er_v 0)) (ei_v 1))) (es_seq (es_as 100 (er_f 10 13 (er_v 0)) (ei_v 1) (ei_a 100 (er_f 10 13 (er_v 0)) (ei_v 2))) (es_seq (es_as 100 (er_f 10 13 (er_v 0)) (ei_v 2) (ei_v 3)) (es_retv)))
def fX10_swapTurns : ol_FE := ol_fe 4 bX10_swapTurns
set_option maxRecDepth 20000 in
theorem imX10_swapTurns (x : ol_X) (K : ol_K) : IM_S x K mX10_swapTurns 0 0 bX10_swapTurns := rs_seq (p2 := 7) (rs_setn (ri_a (rr_f (rr_vn dX10_swapTurns_0 rfl) gfX10_81 dX10_swapTurns_1) (ri_vn dX10_swapTurns_4 rfl) rfl dX10_swapTurns_5) dX10_swapTurns_6 rfl (ol_ltn rfl)) (rs_seq (p2 := 19) (rs_as (rr_f (rr_vn dX10_swapTurns_7 rfl) gfX10_81 dX10_swapTurns_8) (ri_vn dX10_swapTurns_11 rfl) (ri_a (rr_f (rr_vn dX10_swapTurns_12 rfl) gfX10_81 dX10_swapTurns_13) (ri_vn dX10_swapTurns_16 rfl) rfl dX10_swapTurns_17) dX10_swapTurns_18) (rs_seq (p2 := 26) (rs_as (rr_f (rr_vn dX10_swapTurns_19 rfl) gfX10_81 dX10_swapTurns_20) (ri_vn dX10_swapTurns_23 rfl) (ri_vn dX10_swapTurns_24 rfl) dX10_swapTurns_25) (rs_retv rfl dX10_swapTurns_26)))
theorem conX10_swapTurns (l : Launch) (K : ol_K) : ol_Con l K yX10_swapTurns mX10_swapTurns fX10_swapTurns := ol_con (M := mX10_swapTurns) (by decide) rfl rfl (imX10_swapTurns · K)
theorem dX8_addedBy_0 : decode cX8_addedBy 0 = .ok (.iconst 0, 1) := by decide +kernel
theorem dX8_addedBy_1 : decode cX8_addedBy 1 = .ok (.istore_n 2, 1) := by decide +kernel
theorem dX8_addedBy_2 : decode cX8_addedBy 2 = .ok (.iconst 0, 1) := by decide +kernel
theorem dX8_addedBy_3 : decode cX8_addedBy 3 = .ok (.istore_n 3, 1) := by decide +kernel
theorem dX8_addedBy_4 : decode cX8_addedBy 4 = .ok (.iload_n 3, 1) := by decide +kernel
theorem dX8_addedBy_5 : decode cX8_addedBy 5 = .ok (.iconst 4, 1) := by decide +kernel
theorem dX8_addedBy_6 : decode cX8_addedBy 6 = .ok (.if_icmp .ge 61, 3) := by decide +kernel
theorem dX8_addedBy_9 : decode cX8_addedBy 9 = .ok (.iconst 0, 1) := by decide +kernel
theorem dX8_addedBy_10 : decode cX8_addedBy 10 = .ok (.istore 4, 2) := by decide +kernel
theorem dX8_addedBy_12 : decode cX8_addedBy 12 = .ok (.iconst 0, 1) := by decide +kernel
theorem dX8_addedBy_13 : decode cX8_addedBy 13 = .ok (.istore 5, 2) := by decide +kernel
theorem dX8_addedBy_15 : decode cX8_addedBy 15 = .ok (.iload 5, 2) := by decide +kernel
theorem dX8_addedBy_17 : decode cX8_addedBy 17 = .ok (.bipush 6, 2) := by decide +kernel
theorem dX8_addedBy_19 : decode cX8_addedBy 19 = .ok (.if_icmp .ge 37, 3) := by decide +kernel
theorem dX8_addedBy_22 : decode cX8_addedBy 22 = .ok (.iload_n 1, 1) := by decide +kernel
theorem dX8_addedBy_23 : decode cX8_addedBy 23 = .ok (.iload 5, 2) := by decide +kernel
theorem dX8_addedBy_25 : decode cX8_addedBy 25 = .ok (.ishr, 1) := by decide +kernel
theorem dX8_addedBy_26 : decode cX8_addedBy 26 = .ok (.iconst 1, 1) := by decide +kernel
theorem dX8_addedBy_27 : decode cX8_addedBy 27 = .ok (.iand, 1) := by decide +kernel
theorem dX8_addedBy_28 : decode cX8_addedBy 28 = .ok (.ifCond .eq 22, 3) := by decide +kernel
theorem dX8_addedBy_31 : decode cX8_addedBy 31 = .ok (.iload 4, 2) := by decide +kernel
theorem dX8_addedBy_33 : decode cX8_addedBy 33 = .ok (.aload_n 0, 1) := by decide +kernel
theorem dX8_addedBy_34 : decode cX8_addedBy 34 = .ok (.getfield 25, 3) := by decide +kernel
theorem dX8_addedBy_37 : decode cX8_addedBy 37 = .ok (.iload_n 3, 1) := by decide +kernel
theorem dX8_addedBy_38 : decode cX8_addedBy 38 = .ok (.bipush 6, 2) := by decide +kernel
theorem dX8_addedBy_40 : decode cX8_addedBy 40 = .ok (.imul, 1) := by decide +kernel
theorem dX8_addedBy_41 : decode cX8_addedBy 41 = .ok (.iload 5, 2) := by decide +kernel
theorem dX8_addedBy_43 : decode cX8_addedBy 43 = .ok (.iadd, 1) := by decide +kernel
theorem dX8_addedBy_44 : decode cX8_addedBy 44 = .ok (.iaload, 1) := by decide +kernel
theorem dX8_addedBy_45 : decode cX8_addedBy 45 = .ok (.invokestatic 71, 3) := by decide +kernel
theorem dX8_addedBy_48 : decode cX8_addedBy 48 = .ok (.istore 4, 2) := by decide +kernel
theorem dX8_addedBy_50 : decode cX8_addedBy 50 = .ok (.iinc 5 1, 3) := by decide +kernel
theorem dX8_addedBy_53 : decode cX8_addedBy 53 = .ok (.goto (-38), 3) := by decide +kernel
theorem dX8_addedBy_56 : decode cX8_addedBy 56 = .ok (.iload_n 2, 1) := by decide +kernel
theorem dX8_addedBy_57 : decode cX8_addedBy 57 = .ok (.iload 4, 2) := by decide +kernel
theorem dX8_addedBy_59 : decode cX8_addedBy 59 = .ok (.iadd, 1) := by decide +kernel
theorem dX8_addedBy_60 : decode cX8_addedBy 60 = .ok (.istore_n 2, 1) := by decide +kernel
theorem dX8_addedBy_61 : decode cX8_addedBy 61 = .ok (.iinc 3 1, 3) := by decide +kernel
theorem dX8_addedBy_64 : decode cX8_addedBy 64 = .ok (.goto (-60), 3) := by decide +kernel
theorem dX8_addedBy_67 : decode cX8_addedBy 67 = .ok (.iload_n 2, 1) := by decide +kernel
theorem dX8_addedBy_68 : decode cX8_addedBy 68 = .ok (.ireturn, 1) := by decide +kernel
def bX8_addedBy : ol_SE := es_seq (es_set 2 (ei_c 0)) (es_seq (es_seq (es_set 3 (ei_c 0)) (es_wh (ec_2 ol_lt (ei_v 3) (ei_c 4)) (es_seq (es_seq (es_set 4 (ei_c 0)) (es_seq (es_seq (es_set 5 (ei_c 0)) (es_wh (ec_2 ol_lt (ei_v 5) (ei_c 6)) (es_seq (es_if (ec_z ol_ne (ei_2 ol_and (ei_2 ol_shr (ei_v 1) (ei_v 5)) (ei_c 1))) (es_set 4 (ei_2 ol_max (ei_v 4) (ei_a 100 (er_f 8 3 (er_v 0)) (ei_2 ol_add (ei_2 ol_mul (ei_v 3) (ei_c 6)) (ei_v 5))))) es_skip) (es_inc 5 1)))) (es_set 2 (ei_2 ol_add (ei_v 2) (ei_v 4))))) (es_inc 3 1)))) (es_ret (ei_v 2)))
def fX8_addedBy : ol_FE := ol_fe 6 bX8_addedBy
set_option maxRecDepth 20000 in
theorem imX8_addedBy (x : ol_X) (K : ol_K) : IM_S x K mX8_addedBy 0 0 bX8_addedBy := rs_seq (p2 := 2) (rs_setn (ri_ic dX8_addedBy_0 (by unfold ol_inR; omega)) dX8_addedBy_1 rfl (ol_ltn rfl)) (rs_seq (p2 := 67) (rs_seq (p2 := 4) (rs_setn (ri_ic dX8_addedBy_2 (by unfold ol_inR; omega)) dX8_addedBy_3 rfl (ol_ltn rfl)) (rs_wh (pH := 4) (pB := 9) (pE := 67) (pG := 64) (rc_2F (pF := 67) ol_j2_ge_F (ri_vn dX8_addedBy_4 rfl) (ri_ic dX8_addedBy_5 (by unfold ol_inR; omega)) dX8_addedBy_6 (by decide)) (rs_seq (p2 := 61) (rs_seq (p2 := 12) (rs_set (ri_ic dX8_addedBy_9 (by unfold ol_inR; omega)) dX8_addedBy_10 (ol_ltn rfl)) (rs_seq (p2 := 56) (rs_seq (p2 := 15) (rs_set (ri_ic dX8_addedBy_12 (by unfold ol_inR; omega)) dX8_addedBy_13 (ol_ltn rfl)) (rs_wh (pH := 15) (pB := 22) (pE := 56) (pG := 53) (rc_2F (pF := 56) ol_j2_ge_F (ri_vi dX8_addedBy_15) (ri_bi dX8_addedBy_17 (by unfold ol_inR; omega) (by decide)) dX8_addedBy_19 (by decide)) (rs_seq (p2 := 50) (rs_if (pT := 31) (pF := 50) (pE := 50) (rc_zF (pF := 50) ol_j1_eq_F (ri_2 ol_op_and (ri_2 ol_op_shr (ri_vn dX8_addedBy_22 rfl) (ri_vi dX8_addedBy_23) dX8_addedBy_25) (ri_ic dX8_addedBy_26 (by unfold ol_inR; omega)) dX8_addedBy_27) dX8_addedBy_28 (by decide)) (rs_set (ri_mx (ri_vi dX8_addedBy_31) (ri_a (rr_f (rr_vn dX8_addedBy_33 rfl) gfX8_25 dX8_addedBy_34) (ri_2 ol_op_add (ri_2 ol_op_mul (ri_vn dX8_addedBy_37 rfl) (ri_bi dX8_addedBy_38 (by unfold ol_inR; omega) (by decide)) dX8_addedBy_40) (ri_vi dX8_addedBy_41) dX8_addedBy_43) rfl dX8_addedBy_44) dX8_addedBy_45 tw_792 ⟨tw_580, tw_69, tw_581⟩ (by decide) (by decide)) dX8_addedBy_48 (ol_ltn rfl)) rs_skip) (rs_inc dX8_addedBy_50 (ol_ltn rfl))) dX8_addedBy_53 (by decide))) (rs_setn (ri_2 ol_op_add (ri_vn dX8_addedBy_56 rfl) (ri_vi dX8_addedBy_57) dX8_addedBy_59) dX8_addedBy_60 rfl (ol_ltn rfl)))) (rs_inc dX8_addedBy_61 (ol_ltn rfl))) dX8_addedBy_64 (by decide))) (rs_ret (ri_vn dX8_addedBy_67 rfl) rfl dX8_addedBy_68))
theorem conX8_addedBy (l : Launch) (K : ol_K) : ol_Con l K yX8_addedBy mX8_addedBy fX8_addedBy := ol_con (M := mX8_addedBy) (by decide) rfl rfl (imX8_addedBy · K)
theorem dX10_toldPatterns_0 : decode cX10_toldPatterns 0 = .ok (.iconst 0, 1) := by decide +kernel
theorem dX10_toldPatterns_1 : decode cX10_toldPatterns 1 = .ok (.istore_n 1, 1) := by decide +kernel
theorem dX10_toldPatterns_2 : decode cX10_toldPatterns 2 = .ok (.iconst 0, 1) := by decide +kernel
theorem dX10_toldPatterns_3 : decode cX10_toldPatterns 3 = .ok (.istore_n 2, 1) := by decide +kernel
theorem dX10_toldPatterns_4 : decode cX10_toldPatterns 4 = .ok (.iload_n 2, 1) := by decide +kernel
theorem dX10_toldPatterns_5 : decode cX10_toldPatterns 5 = .ok (.iconst 4, 1) := by decide +kernel
theorem dX10_toldPatterns_6 : decode cX10_toldPatterns 6 = .ok (.if_icmp .ge 27, 3) := by decide +kernel
theorem dX10_toldPatterns_9 : decode cX10_toldPatterns 9 = .ok (.aload_n 0, 1) := by decide +kernel
theorem dX10_toldPatterns_10 : decode cX10_toldPatterns 10 = .ok (.getfield 18, 3) := by decide +kernel
theorem dX10_toldPatterns_13 : decode cX10_toldPatterns 13 = .ok (.iload_n 2, 1) := by decide +kernel
theorem dX10_toldPatterns_14 : decode cX10_toldPatterns 14 = .ok (.aaload, 1) := by decide +kernel
theorem dX10_toldPatterns_15 : decode cX10_toldPatterns 15 = .ok (.getfield 114, 3) := by decide +kernel
theorem dX10_toldPatterns_18 : decode cX10_toldPatterns 18 = .ok (.ifCond .eq 9, 3) := by decide +kernel
theorem dX10_toldPatterns_21 : decode cX10_toldPatterns 21 = .ok (.iload_n 1, 1) := by decide +kernel
theorem dX10_toldPatterns_22 : decode cX10_toldPatterns 22 = .ok (.iconst 1, 1) := by decide +kernel
theorem dX10_toldPatterns_23 : decode cX10_toldPatterns 23 = .ok (.iload_n 2, 1) := by decide +kernel
theorem dX10_toldPatterns_24 : decode cX10_toldPatterns 24 = .ok (.ishl, 1) := by decide +kernel
theorem dX10_toldPatterns_25 : decode cX10_toldPatterns 25 = .ok (.ior, 1) := by decide +kernel
theorem dX10_toldPatterns_26 : decode cX10_toldPatterns 26 = .ok (.istore_n 1, 1) := by decide +kernel
theorem dX10_toldPatterns_27 : decode cX10_toldPatterns 27 = .ok (.iinc 2 1, 3) := by decide +kernel
theorem dX10_toldPatterns_30 : decode cX10_toldPatterns 30 = .ok (.goto (-26), 3) := by decide +kernel
theorem dX10_toldPatterns_33 : decode cX10_toldPatterns 33 = .ok (.iload_n 1, 1) := by decide +kernel
theorem dX10_toldPatterns_34 : decode cX10_toldPatterns 34 = .ok (.ireturn, 1) := by decide +kernel
def bX10_toldPatterns : ol_SE := es_seq (es_set 1 (ei_c 0)) (es_seq (es_seq (es_set 2 (ei_c 0)) (es_wh (ec_2 ol_lt (ei_v 2) (ei_c 4)) (es_seq (es_if (ec_z ol_ne (ei_f 5 2 (er_a 103 (er_f 10 1 (er_v 0)) (ei_v 2)))) (es_set 1 (ei_2 ol_or (ei_v 1) (ei_2 ol_shl (ei_c 1) (ei_v 2)))) es_skip) (es_inc 2 1)))) (es_ret (ei_v 1)))
def fX10_toldPatterns : ol_FE := ol_fe 3 bX10_toldPatterns
set_option maxRecDepth 20000 in
theorem imX10_toldPatterns (x : ol_X) (K : ol_K) : IM_S x K mX10_toldPatterns 0 0 bX10_toldPatterns := rs_seq (p2 := 2) (rs_setn (ri_ic dX10_toldPatterns_0 (by unfold ol_inR; omega)) dX10_toldPatterns_1 rfl (ol_ltn rfl)) (rs_seq (p2 := 33) (rs_seq (p2 := 4) (rs_setn (ri_ic dX10_toldPatterns_2 (by unfold ol_inR; omega)) dX10_toldPatterns_3 rfl (ol_ltn rfl)) (rs_wh (pH := 4) (pB := 9) (pE := 33) (pG := 30) (rc_2F (pF := 33) ol_j2_ge_F (ri_vn dX10_toldPatterns_4 rfl) (ri_ic dX10_toldPatterns_5 (by unfold ol_inR; omega)) dX10_toldPatterns_6 (by decide)) (rs_seq (p2 := 27) (rs_if (pT := 21) (pF := 27) (pE := 27) (rc_zF (pF := 27) ol_j1_eq_F (ri_f (rr_a (t := 3) (rr_f (rr_vn dX10_toldPatterns_9 rfl) gfX10_18 dX10_toldPatterns_10) (ri_vn dX10_toldPatterns_13 rfl) (by decide) rfl dX10_toldPatterns_14) gfX10_114 dX10_toldPatterns_15) dX10_toldPatterns_18 (by decide)) (rs_setn (ri_2 ol_op_or (ri_vn dX10_toldPatterns_21 rfl) (ri_2 ol_op_shl (ri_ic dX10_toldPatterns_22 (by unfold ol_inR; omega)) (ri_vn dX10_toldPatterns_23 rfl) dX10_toldPatterns_24) dX10_toldPatterns_25) dX10_toldPatterns_26 rfl (ol_ltn rfl)) rs_skip) (rs_inc dX10_toldPatterns_27 (ol_ltn rfl))) dX10_toldPatterns_30 (by decide))) (rs_ret (ri_vn dX10_toldPatterns_33 rfl) rfl dX10_toldPatterns_34))
theorem conX10_toldPatterns (l : Launch) (K : ol_K) : ol_Con l K yX10_toldPatterns mX10_toldPatterns fX10_toldPatterns := ol_con (M := mX10_toldPatterns) (by decide) rfl rfl (imX10_toldPatterns · K)
theorem dX10_trace_0 : decode cX10_trace 0 = .ok (.aload_n 0, 1) := by decide +kernel
theorem dX10_trace_1 : decode cX10_trace 1 = .ok (.getfield 319, 3) := by decide +kernel
theorem dX10_trace_4 : decode cX10_trace 4 = .ok (.lreturn, 1) := by decide +kernel
def bX10_trace : ol_SE := es_retj (ej_f 10 17 (er_v 0))
def fX10_trace : ol_FE := ol_fe 1 bX10_trace
set_option maxRecDepth 20000 in
theorem imX10_trace (x : ol_X) (K : ol_K) : IM_S x K mX10_trace 0 0 bX10_trace := rs_retj (rj_f (rr_vn dX10_trace_0 rfl) gfX10_319 dX10_trace_1) rfl dX10_trace_4
theorem conX10_trace (l : Launch) (K : ol_K) : ol_Con l K yX10_trace mX10_trace fX10_trace := ol_con (M := mX10_trace) (by decide) rfl rfl (imX10_trace · K)
theorem dX11_init_0 : decode cX11_init 0 = .ok (.aload_n 0, 1) := by decide +kernel
theorem dX11_init_1 : decode cX11_init 1 = .ok (.invokespecial 1, 3) := by decide +kernel
theorem dX11_init_4 : decode cX11_init 4 = .ok (.aload_n 0, 1) := by decide +kernel
theorem dX11_init_5 : decode cX11_init 5 = .ok (.sipush 300, 3) := by decide +kernel
theorem dX11_init_8 : decode cX11_init 8 = .ok (.newarray .byte, 2) := by decide +kernel
theorem dX11_init_10 : decode cX11_init 10 = .ok (.putfield 7, 3) := by decide +kernel
theorem dX11_init_13 : decode cX11_init 13 = .ok (.aload_n 0, 1) := by decide +kernel
theorem dX11_init_14 : decode cX11_init 14 = .ok (.sipush 7020, 3) := by decide +kernel
theorem dX11_init_17 : decode cX11_init 17 = .ok (.newarray .int, 2) := by decide +kernel
theorem dX11_init_19 : decode cX11_init 19 = .ok (.putfield 13, 3) := by decide +kernel
theorem dX11_init_22 : decode cX11_init 22 = .ok (.aload_n 0, 1) := by decide +kernel
theorem dX11_init_23 : decode cX11_init 23 = .ok (.bipush 6, 2) := by decide +kernel
theorem dX11_init_25 : decode cX11_init 25 = .ok (.newarray .int, 2) := by decide +kernel
theorem dX11_init_27 : decode cX11_init 27 = .ok (.putfield 17, 3) := by decide +kernel
theorem dX11_init_30 : decode cX11_init 30 = .ok (.aload_n 0, 1) := by decide +kernel
theorem dX11_init_31 : decode cX11_init 31 = .ok (.bipush 6, 2) := by decide +kernel
theorem dX11_init_33 : decode cX11_init 33 = .ok (.newarray .int, 2) := by decide +kernel
theorem dX11_init_35 : decode cX11_init 35 = .ok (.putfield 20, 3) := by decide +kernel
theorem dX11_init_38 : decode cX11_init 38 = .ok (.aload_n 0, 1) := by decide +kernel
theorem dX11_init_39 : decode cX11_init 39 = .ok (.bipush 10, 2) := by decide +kernel
theorem dX11_init_41 : decode cX11_init 41 = .ok (.newarray .int, 2) := by decide +kernel
theorem dX11_init_43 : decode cX11_init 43 = .ok (.putfield 23, 3) := by decide +kernel
theorem dX11_init_46 : decode cX11_init 46 = .ok (.aload_n 0, 1) := by decide +kernel
theorem dX11_init_47 : decode cX11_init 47 = .ok (.bipush 10, 2) := by decide +kernel
theorem dX11_init_49 : decode cX11_init 49 = .ok (.newarray .int, 2) := by decide +kernel
theorem dX11_init_51 : decode cX11_init 51 = .ok (.putfield 26, 3) := by decide +kernel
theorem dX11_init_54 : decode cX11_init 54 = .ok (.aload_n 0, 1) := by decide +kernel
theorem dX11_init_55 : decode cX11_init 55 = .ok (.bipush 10, 2) := by decide +kernel
theorem dX11_init_57 : decode cX11_init 57 = .ok (.newarray .int, 2) := by decide +kernel
theorem dX11_init_59 : decode cX11_init 59 = .ok (.putfield 29, 3) := by decide +kernel
theorem dX11_init_62 : decode cX11_init 62 = .ok (.aload_n 0, 1) := by decide +kernel
theorem dX11_init_63 : decode cX11_init 63 = .ok (.bipush 7, 2) := by decide +kernel
theorem dX11_init_65 : decode cX11_init 65 = .ok (.newarray .int, 2) := by decide +kernel
theorem dX11_init_67 : decode cX11_init 67 = .ok (.putfield 32, 3) := by decide +kernel
theorem dX11_init_70 : decode cX11_init 70 = .ok (.aload_n 0, 1) := by decide +kernel
theorem dX11_init_71 : decode cX11_init 71 = .ok (.bipush 24, 2) := by decide +kernel
theorem dX11_init_73 : decode cX11_init 73 = .ok (.newarray .int, 2) := by decide +kernel
theorem dX11_init_75 : decode cX11_init 75 = .ok (.putfield 35, 3) := by decide +kernel
theorem dX11_init_78 : decode cX11_init 78 = .ok (.aload_n 0, 1) := by decide +kernel
theorem dX11_init_79 : decode cX11_init 79 = .ok (.bipush 20, 2) := by decide +kernel
theorem dX11_init_81 : decode cX11_init 81 = .ok (.newarray .int, 2) := by decide +kernel
theorem dX11_init_83 : decode cX11_init 83 = .ok (.putfield 38, 3) := by decide +kernel
theorem dX11_init_86 : decode cX11_init 86 = .ok (.aload_n 0, 1) := by decide +kernel
theorem dX11_init_87 : decode cX11_init 87 = .ok (.bipush 39, 2) := by decide +kernel
theorem dX11_init_89 : decode cX11_init 89 = .ok (.newarray .int, 2) := by decide +kernel
theorem dX11_init_91 : decode cX11_init 91 = .ok (.putfield 41, 3) := by decide +kernel
theorem dX11_init_94 : decode cX11_init 94 = .ok (.aload_n 0, 1) := by decide +kernel
theorem dX11_init_95 : decode cX11_init 95 = .ok (.bipush 96, 2) := by decide +kernel
theorem dX11_init_97 : decode cX11_init 97 = .ok (.newarray .int, 2) := by decide +kernel
theorem dX11_init_99 : decode cX11_init 99 = .ok (.putfield 44, 3) := by decide +kernel
theorem dX11_init_102 : decode cX11_init 102 = .ok (.aload_n 0, 1) := by decide +kernel
theorem dX11_init_103 : decode cX11_init 103 = .ok (.iconst 2, 1) := by decide +kernel
theorem dX11_init_104 : decode cX11_init 104 = .ok (.newarray .int, 2) := by decide +kernel
theorem dX11_init_106 : decode cX11_init 106 = .ok (.putfield 47, 3) := by decide +kernel
theorem dX11_init_109 : decode cX11_init 109 = .ok (.aload_n 0, 1) := by decide +kernel
theorem dX11_init_110 : decode cX11_init 110 = .ok (.iconst 4, 1) := by decide +kernel
theorem dX11_init_111 : decode cX11_init 111 = .ok (.newarray .int, 2) := by decide +kernel
theorem dX11_init_113 : decode cX11_init 113 = .ok (.putfield 50, 3) := by decide +kernel
theorem dX11_init_116 : decode cX11_init 116 = .ok (.aload_n 0, 1) := by decide +kernel
theorem dX11_init_117 : decode cX11_init 117 = .ok (.bipush 30, 2) := by decide +kernel
theorem dX11_init_119 : decode cX11_init 119 = .ok (.newarray .int, 2) := by decide +kernel
theorem dX11_init_121 : decode cX11_init 121 = .ok (.putfield 53, 3) := by decide +kernel
theorem dX11_init_124 : decode cX11_init 124 = .ok (.aload_n 0, 1) := by decide +kernel
theorem dX11_init_125 : decode cX11_init 125 = .ok (.bipush 24, 2) := by decide +kernel
theorem dX11_init_127 : decode cX11_init 127 = .ok (.newarray .int, 2) := by decide +kernel
theorem dX11_init_129 : decode cX11_init 129 = .ok (.putfield 56, 3) := by decide +kernel
theorem dX11_init_132 : decode cX11_init 132 = .ok (.aload_n 0, 1) := by decide +kernel
theorem dX11_init_133 : decode cX11_init 133 = .ok (.iconst 2, 1) := by decide +kernel
theorem dX11_init_134 : decode cX11_init 134 = .ok (.newarray .boolean, 2) := by decide +kernel
theorem dX11_init_136 : decode cX11_init 136 = .ok (.putfield 59, 3) := by decide +kernel
theorem dX11_init_139 : decode cX11_init 139 = .ok (.iconst 0, 1) := by decide +kernel
theorem dX11_init_140 : decode cX11_init 140 = .ok (.istore_n 1, 1) := by decide +kernel
theorem dX11_init_141 : decode cX11_init 141 = .ok (.iload_n 1, 1) := by decide +kernel
theorem dX11_init_142 : decode cX11_init 142 = .ok (.bipush 6, 2) := by decide +kernel
theorem dX11_init_144 : decode cX11_init 144 = .ok (.if_icmp .ge 26, 3) := by decide +kernel
theorem dX11_init_147 : decode cX11_init 147 = .ok (.aload_n 0, 1) := by decide +kernel
theorem dX11_init_148 : decode cX11_init 148 = .ok (.getfield 17, 3) := by decide +kernel
theorem dX11_init_151 : decode cX11_init 151 = .ok (.iload_n 1, 1) := by decide +kernel
theorem dX11_init_152 : decode cX11_init 152 = .ok (.iload_n 1, 1) := by decide +kernel
theorem dX11_init_153 : decode cX11_init 153 = .ok (.iconst 2, 1) := by decide +kernel
theorem dX11_init_154 : decode cX11_init 154 = .ok (.iadd, 1) := by decide +kernel
theorem dX11_init_155 : decode cX11_init 155 = .ok (.iastore, 1) := by decide +kernel
theorem dX11_init_156 : decode cX11_init 156 = .ok (.aload_n 0, 1) := by decide +kernel
theorem dX11_init_157 : decode cX11_init 157 = .ok (.getfield 20, 3) := by decide +kernel
theorem dX11_init_160 : decode cX11_init 160 = .ok (.iload_n 1, 1) := by decide +kernel
theorem dX11_init_161 : decode cX11_init 161 = .ok (.bipush 12, 2) := by decide +kernel
theorem dX11_init_163 : decode cX11_init 163 = .ok (.iastore, 1) := by decide +kernel
theorem dX11_init_164 : decode cX11_init 164 = .ok (.iinc 1 1, 3) := by decide +kernel
theorem dX11_init_167 : decode cX11_init 167 = .ok (.goto (-26), 3) := by decide +kernel
theorem dX11_init_170 : decode cX11_init 170 = .ok (.iconst 0, 1) := by decide +kernel
theorem dX11_init_171 : decode cX11_init 171 = .ok (.istore_n 1, 1) := by decide +kernel
theorem dX11_init_172 : decode cX11_init 172 = .ok (.iload_n 1, 1) := by decide +kernel
theorem dX11_init_173 : decode cX11_init 173 = .ok (.iconst 4, 1) := by decide +kernel
theorem dX11_init_174 : decode cX11_init 174 = .ok (.if_icmp .ge 43, 3) := by decide +kernel
theorem dX11_init_177 : decode cX11_init 177 = .ok (.aload_n 0, 1) := by decide +kernel
theorem dX11_init_178 : decode cX11_init 178 = .ok (.getfield 38, 3) := by decide +kernel
theorem dX11_init_181 : decode cX11_init 181 = .ok (.iconst 5, 1) := by decide +kernel
theorem dX11_init_182 : decode cX11_init 182 = .ok (.iload_n 1, 1) := by decide +kernel
theorem dX11_init_183 : decode cX11_init 183 = .ok (.imul, 1) := by decide +kernel
theorem dX11_init_184 : decode cX11_init 184 = .ok (.iconst 1, 1) := by decide +kernel
theorem dX11_init_185 : decode cX11_init 185 = .ok (.iadd, 1) := by decide +kernel
theorem dX11_init_186 : decode cX11_init 186 = .ok (.iconst 2, 1) := by decide +kernel
theorem dX11_init_187 : decode cX11_init 187 = .ok (.iastore, 1) := by decide +kernel
theorem dX11_init_188 : decode cX11_init 188 = .ok (.aload_n 0, 1) := by decide +kernel
theorem dX11_init_189 : decode cX11_init 189 = .ok (.getfield 38, 3) := by decide +kernel
theorem dX11_init_192 : decode cX11_init 192 = .ok (.iconst 5, 1) := by decide +kernel
theorem dX11_init_193 : decode cX11_init 193 = .ok (.iload_n 1, 1) := by decide +kernel
theorem dX11_init_194 : decode cX11_init 194 = .ok (.imul, 1) := by decide +kernel
theorem dX11_init_195 : decode cX11_init 195 = .ok (.iconst 2, 1) := by decide +kernel
theorem dX11_init_196 : decode cX11_init 196 = .ok (.iadd, 1) := by decide +kernel
theorem dX11_init_197 : decode cX11_init 197 = .ok (.bipush 6, 2) := by decide +kernel
theorem dX11_init_199 : decode cX11_init 199 = .ok (.iastore, 1) := by decide +kernel
theorem dX11_init_200 : decode cX11_init 200 = .ok (.aload_n 0, 1) := by decide +kernel
theorem dX11_init_201 : decode cX11_init 201 = .ok (.getfield 38, 3) := by decide +kernel
theorem dX11_init_204 : decode cX11_init 204 = .ok (.iconst 5, 1) := by decide +kernel
theorem dX11_init_205 : decode cX11_init 205 = .ok (.iload_n 1, 1) := by decide +kernel
theorem dX11_init_206 : decode cX11_init 206 = .ok (.imul, 1) := by decide +kernel
theorem dX11_init_207 : decode cX11_init 207 = .ok (.iconst 3, 1) := by decide +kernel
theorem dX11_init_208 : decode cX11_init 208 = .ok (.iadd, 1) := by decide +kernel
theorem dX11_init_209 : decode cX11_init 209 = .ok (.iconst 2, 1) := by decide +kernel
theorem dX11_init_210 : decode cX11_init 210 = .ok (.iastore, 1) := by decide +kernel
theorem dX11_init_211 : decode cX11_init 211 = .ok (.iinc 1 1, 3) := by decide +kernel
theorem dX11_init_214 : decode cX11_init 214 = .ok (.goto (-42), 3) := by decide +kernel
theorem dX11_init_217 : decode cX11_init 217 = .ok (.iconst 0, 1) := by decide +kernel
theorem dX11_init_218 : decode cX11_init 218 = .ok (.istore_n 1, 1) := by decide +kernel
theorem dX11_init_219 : decode cX11_init 219 = .ok (.iload_n 1, 1) := by decide +kernel
theorem dX11_init_220 : decode cX11_init 220 = .ok (.bipush 10, 2) := by decide +kernel
theorem dX11_init_222 : decode cX11_init 222 = .ok (.if_icmp .ge 72, 3) := by decide +kernel
theorem dX11_init_225 : decode cX11_init 225 = .ok (.iload_n 1, 1) := by decide +kernel
theorem dX11_init_226 : decode cX11_init 226 = .ok (.ifCond .ne 7, 3) := by decide +kernel
theorem dX11_init_229 : decode cX11_init 229 = .ok (.iconst 0, 1) := by decide +kernel
theorem dX11_init_230 : decode cX11_init 230 = .ok (.goto 23, 3) := by decide +kernel
theorem dX11_init_233 : decode cX11_init 233 = .ok (.iload_n 1, 1) := by decide +kernel
theorem dX11_init_234 : decode cX11_init 234 = .ok (.iconst 3, 1) := by decide +kernel
theorem dX11_init_235 : decode cX11_init 235 = .ok (.if_icmp .ge 7, 3) := by decide +kernel
theorem dX11_init_238 : decode cX11_init 238 = .ok (.iconst 1, 1) := by decide +kernel
theorem dX11_init_239 : decode cX11_init 239 = .ok (.goto 14, 3) := by decide +kernel
theorem dX11_init_242 : decode cX11_init 242 = .ok (.iload_n 1, 1) := by decide +kernel
theorem dX11_init_243 : decode cX11_init 243 = .ok (.bipush 6, 2) := by decide +kernel
theorem dX11_init_245 : decode cX11_init 245 = .ok (.if_icmp .ge 7, 3) := by decide +kernel
theorem dX11_init_248 : decode cX11_init 248 = .ok (.iconst 2, 1) := by decide +kernel
theorem dX11_init_249 : decode cX11_init 249 = .ok (.goto 4, 3) := by decide +kernel
theorem dX11_init_252 : decode cX11_init 252 = .ok (.iconst 3, 1) := by decide +kernel
theorem dX11_init_253 : decode cX11_init 253 = .ok (.istore_n 2, 1) := by decide +kernel
theorem dX11_init_254 : decode cX11_init 254 = .ok (.aload_n 0, 1) := by decide +kernel
theorem dX11_init_255 : decode cX11_init 255 = .ok (.getfield 23, 3) := by decide +kernel
theorem dX11_init_258 : decode cX11_init 258 = .ok (.iload_n 1, 1) := by decide +kernel
theorem dX11_init_259 : decode cX11_init 259 = .ok (.iload_n 2, 1) := by decide +kernel
theorem dX11_init_260 : decode cX11_init 260 = .ok (.iastore, 1) := by decide +kernel
theorem dX11_init_261 : decode cX11_init 261 = .ok (.aload_n 0, 1) := by decide +kernel
theorem dX11_init_262 : decode cX11_init 262 = .ok (.getfield 26, 3) := by decide +kernel
theorem dX11_init_265 : decode cX11_init 265 = .ok (.iload_n 1, 1) := by decide +kernel
theorem dX11_init_266 : decode cX11_init 266 = .ok (.sipush 195, 3) := by decide +kernel
theorem dX11_init_269 : decode cX11_init 269 = .ok (.bipush 30, 2) := by decide +kernel
theorem dX11_init_271 : decode cX11_init 271 = .ok (.iload_n 2, 1) := by decide +kernel
theorem dX11_init_272 : decode cX11_init 272 = .ok (.imul, 1) := by decide +kernel
theorem dX11_init_273 : decode cX11_init 273 = .ok (.isub, 1) := by decide +kernel
theorem dX11_init_274 : decode cX11_init 274 = .ok (.bipush 60, 2) := by decide +kernel
theorem dX11_init_276 : decode cX11_init 276 = .ok (.iload_n 1, 1) := by decide +kernel
theorem dX11_init_277 : decode cX11_init 277 = .ok (.iload_n 2, 1) := by decide +kernel
theorem dX11_init_278 : decode cX11_init 278 = .ok (.iload_n 2, 1) := by decide +kernel
theorem dX11_init_279 : decode cX11_init 279 = .ok (.iconst 1, 1) := by decide +kernel
theorem dX11_init_280 : decode cX11_init 280 = .ok (.iadd, 1) := by decide +kernel
theorem dX11_init_281 : decode cX11_init 281 = .ok (.imul, 1) := by decide +kernel
theorem dX11_init_282 : decode cX11_init 282 = .ok (.iconst 2, 1) := by decide +kernel
theorem dX11_init_283 : decode cX11_init 283 = .ok (.idiv, 1) := by decide +kernel
theorem dX11_init_284 : decode cX11_init 284 = .ok (.isub, 1) := by decide +kernel
theorem dX11_init_285 : decode cX11_init 285 = .ok (.imul, 1) := by decide +kernel
theorem dX11_init_286 : decode cX11_init 286 = .ok (.iadd, 1) := by decide +kernel
theorem dX11_init_287 : decode cX11_init 287 = .ok (.iastore, 1) := by decide +kernel
theorem dX11_init_288 : decode cX11_init 288 = .ok (.iinc 1 1, 3) := by decide +kernel
theorem dX11_init_291 : decode cX11_init 291 = .ok (.goto (-72), 3) := by decide +kernel
theorem dX11_init_294 : decode cX11_init 294 = .ok (.return_, 1) := by decide +kernel
def bX11_init : ol_SE := es_seq (fun L h => (er_v 0 L h).bind fun q => some (none, L, q.2)) (es_seq (es_pr 11 1 (er_v 0) (er_na 101 17 7610 300)) (es_seq (es_pr 11 3 (er_v 0) (er_na 100 17 7610 7020)) (es_seq (es_pr 11 10 (er_v 0) (er_na 100 17 7610 6)) (es_seq (es_pr 11 11 (er_v 0) (er_na 100 17 7610 6)) (es_seq (es_pr 11 20 (er_v 0) (er_na 100 17 7610 10)) (es_seq (es_pr 11 21 (er_v 0) (er_na 100 17 7610 10)) (es_seq (es_pr 11 22 (er_v 0) (er_na 100 17 7610 10)) (es_seq (es_pr 11 26 (er_v 0) (er_na 100 17 7610 7)) (es_seq (es_pr 11 27 (er_v 0) (er_na 100 17 7610 24)) (es_seq (es_pr 11 32 (er_v 0) (er_na 100 17 7610 20)) (es_seq (es_pr 11 33 (er_v 0) (er_na 100 17 7610 39)) (es_seq (es_pr 11 35 (er_v 0) (er_na 100 17 7610 96)) (es_seq (es_pr 11 36 (er_v 0) (er_na 100 17 7610 2)) (es_seq (es_pr 11 37 (er_v 0) (er_na 100 17 7610 4)) (es_seq (es_pr 11 39 (er_v 0) (er_na 100 17 7610 30)) (es_seq (es_pr 11 40 (er_v 0) (er_na 100 17 7610 24)) (es_seq (es_pr 11 41 (er_v 0) (er_na 102 17 7610 2)) (es_seq (es_seq (es_set 1 (ei_c 0)) (es_wh (ec_2 ol_lt (ei_v 1) (ei_c 6)) (es_seq (es_seq (es_as 100 (er_f 11 10 (er_v 0)) (ei_v 1) (ei_2 ol_add (ei_v 1) (ei_c 2))) (es_as 100 (er_f 11 11 (er_v 0)) (ei_v 1) (ei_c 12))) (es_inc 1 1)))) (es_seq (es_seq (es_set 1 (ei_c 0)) (es_wh (ec_2 ol_lt (ei_v 1) (ei_c 4)) (es_seq (es_seq (es_as 100 (er_f 11 32 (er_v 0)) (ei_2 ol_add (ei_2 ol_mul (ei_c 5) (ei_v 1)) (ei_c 1)) (ei_c 2)) (es_seq (es_as 100 (er_f 11 32 (er_v 0)) (ei_2 ol_add (ei_2 ol_mul (ei_c 5) (ei_v 1)) (ei_c 2)) (ei_c 6)) (es_as 100 (er_f 11 32 (er_v 0)) (ei_2 ol_add (ei_2 ol_mul (ei_c 5) (ei_v 1)) (ei_c 3)) (ei_c 2)))) (es_inc 1 1)))) (es_seq (es_seq (es_set 1 (ei_c 0)) (es_wh (ec_2 ol_lt (ei_v 1) (ei_c 10)) (es_seq (es_seq (es_set 2 (ei_if (ec_z ol_eq (ei_v 1)) (ei_c 0) (ei_if (ec_2 ol_lt (ei_v 1) (ei_c 3)) (ei_c 1) (ei_if (ec_2 ol_lt (ei_v 1) (ei_c 6)) (ei_c 2) (ei_c 3))))) (es_seq (es_as 100 (er_f 11 20 (er_v 0)) (ei_v 1) (ei_v 2)) (es_as 100 (er_f 11 21 (er_v 0)) (ei_v 1) (ei_2 ol_add (ei_2 ol_sub (ei_c 195) (ei_2 ol_mul (ei_c 30) (ei_v 2))) (ei_2 ol_mul (ei_c 60) (ei_2 ol_sub (ei_v 1) (ei_2 ol_div (ei_2 ol_mul (ei_v 2) (ei_2 ol_add (ei_v 2) (ei_c 1))) (ei_c 2)))))))) (es_inc 1 1)))) (es_retv)))))))))))))))))))))
def fX11_init : ol_FE := ol_fe 3 bX11_init
set_option maxRecDepth 20000 in
theorem imX11_init (x : ol_X) (K : ol_K) : IM_S x K mX11_init 0 0 bX11_init := rs_seq (p2 := 4) (rs_obj (rr_vn dX11_init_0 rfl) dX11_init_1 ⟨tw_848, tw_77, tw_78⟩ (by decide)) (rs_seq (p2 := 13) (rs_pr (rr_vn dX11_init_4 rfl) (rr_na (t := 1) (n := 300) (ri_si dX11_init_5 (by unfold ol_inR; omega) (by decide)) (by decide) rfl rfl rfl (fun _ _ => rfl) tw_518 (by decide) dX11_init_8) pfX11_7 rfl rfl (Or.inr ⟨_, rfl⟩) dX11_init_10) (rs_seq (p2 := 22) (rs_pr (rr_vn dX11_init_13 rfl) (rr_na (t := 0) (n := 7020) (ri_si dX11_init_14 (by unfold ol_inR; omega) (by decide)) (by decide) rfl rfl rfl (fun _ _ => rfl) tw_103 (by decide) dX11_init_17) pfX11_13 rfl rfl (Or.inr ⟨_, rfl⟩) dX11_init_19) (rs_seq (p2 := 30) (rs_pr (rr_vn dX11_init_22 rfl) (rr_na (t := 0) (n := 6) (ri_bi dX11_init_23 (by unfold ol_inR; omega) (by decide)) (by decide) rfl rfl rfl (fun _ _ => rfl) tw_103 (by decide) dX11_init_25) pfX11_17 rfl rfl (Or.inr ⟨_, rfl⟩) dX11_init_27) (rs_seq (p2 := 38) (rs_pr (rr_vn dX11_init_30 rfl) (rr_na (t := 0) (n := 6) (ri_bi dX11_init_31 (by unfold ol_inR; omega) (by decide)) (by decide) rfl rfl rfl (fun _ _ => rfl) tw_103 (by decide) dX11_init_33) pfX11_20 rfl rfl (Or.inr ⟨_, rfl⟩) dX11_init_35) (rs_seq (p2 := 46) (rs_pr (rr_vn dX11_init_38 rfl) (rr_na (t := 0) (n := 10) (ri_bi dX11_init_39 (by unfold ol_inR; omega) (by decide)) (by decide) rfl rfl rfl (fun _ _ => rfl) tw_103 (by decide) dX11_init_41) pfX11_23 rfl rfl (Or.inr ⟨_, rfl⟩) dX11_init_43) (rs_seq (p2 := 54) (rs_pr (rr_vn dX11_init_46 rfl) (rr_na (t := 0) (n := 10) (ri_bi dX11_init_47 (by unfold ol_inR; omega) (by decide)) (by decide) rfl rfl rfl (fun _ _ => rfl) tw_103 (by decide) dX11_init_49) pfX11_26 rfl rfl (Or.inr ⟨_, rfl⟩) dX11_init_51) (rs_seq (p2 := 62) (rs_pr (rr_vn dX11_init_54 rfl) (rr_na (t := 0) (n := 10) (ri_bi dX11_init_55 (by unfold ol_inR; omega) (by decide)) (by decide) rfl rfl rfl (fun _ _ => rfl) tw_103 (by decide) dX11_init_57) pfX11_29 rfl rfl (Or.inr ⟨_, rfl⟩) dX11_init_59) (rs_seq (p2 := 70) (rs_pr (rr_vn dX11_init_62 rfl) (rr_na (t := 0) (n := 7) (ri_bi dX11_init_63 (by unfold ol_inR; omega) (by decide)) (by decide) rfl rfl rfl (fun _ _ => rfl) tw_103 (by decide) dX11_init_65) pfX11_32 rfl rfl (Or.inr ⟨_, rfl⟩) dX11_init_67) (rs_seq (p2 := 78) (rs_pr (rr_vn dX11_init_70 rfl) (rr_na (t := 0) (n := 24) (ri_bi dX11_init_71 (by unfold ol_inR; omega) (by decide)) (by decide) rfl rfl rfl (fun _ _ => rfl) tw_103 (by decide) dX11_init_73) pfX11_35 rfl rfl (Or.inr ⟨_, rfl⟩) dX11_init_75) (rs_seq (p2 := 86) (rs_pr (rr_vn dX11_init_78 rfl) (rr_na (t := 0) (n := 20) (ri_bi dX11_init_79 (by unfold ol_inR; omega) (by decide)) (by decide) rfl rfl rfl (fun _ _ => rfl) tw_103 (by decide) dX11_init_81) pfX11_38 rfl rfl (Or.inr ⟨_, rfl⟩) dX11_init_83) (rs_seq (p2 := 94) (rs_pr (rr_vn dX11_init_86 rfl) (rr_na (t := 0) (n := 39) (ri_bi dX11_init_87 (by unfold ol_inR; omega) (by decide)) (by decide) rfl rfl rfl (fun _ _ => rfl) tw_103 (by decide) dX11_init_89) pfX11_41 rfl rfl (Or.inr ⟨_, rfl⟩) dX11_init_91) (rs_seq (p2 := 102) (rs_pr (rr_vn dX11_init_94 rfl) (rr_na (t := 0) (n := 96) (ri_bi dX11_init_95 (by unfold ol_inR; omega) (by decide)) (by decide) rfl rfl rfl (fun _ _ => rfl) tw_103 (by decide) dX11_init_97) pfX11_44 rfl rfl (Or.inr ⟨_, rfl⟩) dX11_init_99) (rs_seq (p2 := 109) (rs_pr (rr_vn dX11_init_102 rfl) (rr_na (t := 0) (n := 2) (ri_ic dX11_init_103 (by unfold ol_inR; omega)) (by decide) rfl rfl rfl (fun _ _ => rfl) tw_103 (by decide) dX11_init_104) pfX11_47 rfl rfl (Or.inr ⟨_, rfl⟩) dX11_init_106) (rs_seq (p2 := 116) (rs_pr (rr_vn dX11_init_109 rfl) (rr_na (t := 0) (n := 4) (ri_ic dX11_init_110 (by unfold ol_inR; omega)) (by decide) rfl rfl rfl (fun _ _ => rfl) tw_103 (by decide) dX11_init_111) pfX11_50 rfl rfl (Or.inr ⟨_, rfl⟩) dX11_init_113) (rs_seq (p2 := 124) (rs_pr (rr_vn dX11_init_116 rfl) (rr_na (t := 0) (n := 30) (ri_bi dX11_init_117 (by unfold ol_inR; omega) (by decide)) (by decide) rfl rfl rfl (fun _ _ => rfl) tw_103 (by decide) dX11_init_119) pfX11_53 rfl rfl (Or.inr ⟨_, rfl⟩) dX11_init_121) (rs_seq (p2 := 132) (rs_pr (rr_vn dX11_init_124 rfl) (rr_na (t := 0) (n := 24) (ri_bi dX11_init_125 (by unfold ol_inR; omega) (by decide)) (by decide) rfl rfl rfl (fun _ _ => rfl) tw_103 (by decide) dX11_init_127) pfX11_56 rfl rfl (Or.inr ⟨_, rfl⟩) dX11_init_129) (rs_seq (p2 := 139) (rs_pr (rr_vn dX11_init_132 rfl) (rr_na (t := 2) (n := 2) (ri_ic dX11_init_133 (by unfold ol_inR; omega)) (by decide) rfl rfl rfl (fun _ _ => rfl) tw_222 (by decide) dX11_init_134) pfX11_59 rfl rfl (Or.inr ⟨_, rfl⟩) dX11_init_136) (rs_seq (p2 := 170) (rs_seq (p2 := 141) (rs_setn (ri_ic dX11_init_139 (by unfold ol_inR; omega)) dX11_init_140 rfl (ol_ltn rfl)) (rs_wh (pH := 141) (pB := 147) (pE := 170) (pG := 167) (rc_2F (pF := 170) ol_j2_ge_F (ri_vn dX11_init_141 rfl) (ri_bi dX11_init_142 (by unfold ol_inR; omega) (by decide)) dX11_init_144 (by decide)) (rs_seq (p2 := 164) (rs_seq (p2 := 156) (rs_as (rr_f (rr_vn dX11_init_147 rfl) gfX11_17 dX11_init_148) (ri_vn dX11_init_151 rfl) (ri_2 ol_op_add (ri_vn dX11_init_152 rfl) (ri_ic dX11_init_153 (by unfold ol_inR; omega)) dX11_init_154) dX11_init_155) (rs_as (rr_f (rr_vn dX11_init_156 rfl) gfX11_20 dX11_init_157) (ri_vn dX11_init_160 rfl) (ri_bi dX11_init_161 (by unfold ol_inR; omega) (by decide)) dX11_init_163)) (rs_inc dX11_init_164 (ol_ltn rfl))) dX11_init_167 (by decide))) (rs_seq (p2 := 217) (rs_seq (p2 := 172) (rs_setn (ri_ic dX11_init_170 (by unfold ol_inR; omega)) dX11_init_171 rfl (ol_ltn rfl)) (rs_wh (pH := 172) (pB := 177) (pE := 217) (pG := 214) (rc_2F (pF := 217) ol_j2_ge_F (ri_vn dX11_init_172 rfl) (ri_ic dX11_init_173 (by unfold ol_inR; omega)) dX11_init_174 (by decide)) (rs_seq (p2 := 211) (rs_seq (p2 := 188) (rs_as (rr_f (rr_vn dX11_init_177 rfl) gfX11_38 dX11_init_178) (ri_2 ol_op_add (ri_2 ol_op_mul (ri_ic dX11_init_181 (by unfold ol_inR; omega)) (ri_vn dX11_init_182 rfl) dX11_init_183) (ri_ic dX11_init_184 (by unfold ol_inR; omega)) dX11_init_185) (ri_ic dX11_init_186 (by unfold ol_inR; omega)) dX11_init_187) (rs_seq (p2 := 200) (rs_as (rr_f (rr_vn dX11_init_188 rfl) gfX11_38 dX11_init_189) (ri_2 ol_op_add (ri_2 ol_op_mul (ri_ic dX11_init_192 (by unfold ol_inR; omega)) (ri_vn dX11_init_193 rfl) dX11_init_194) (ri_ic dX11_init_195 (by unfold ol_inR; omega)) dX11_init_196) (ri_bi dX11_init_197 (by unfold ol_inR; omega) (by decide)) dX11_init_199) (rs_as (rr_f (rr_vn dX11_init_200 rfl) gfX11_38 dX11_init_201) (ri_2 ol_op_add (ri_2 ol_op_mul (ri_ic dX11_init_204 (by unfold ol_inR; omega)) (ri_vn dX11_init_205 rfl) dX11_init_206) (ri_ic dX11_init_207 (by unfold ol_inR; omega)) dX11_init_208) (ri_ic dX11_init_209 (by unfold ol_inR; omega)) dX11_init_210))) (rs_inc dX11_init_211 (ol_ltn rfl))) dX11_init_214 (by decide))) (rs_seq (p2 := 294) (rs_seq (p2 := 219) (rs_setn (ri_ic dX11_init_217 (by unfold ol_inR; omega)) dX11_init_218 rfl (ol_ltn rfl)) (rs_wh (pH := 219) (pB := 225) (pE := 294) (pG := 291) (rc_2F (pF := 294) ol_j2_ge_F (ri_vn dX11_init_219 rfl) (ri_bi dX11_init_220 (by unfold ol_inR; omega) (by decide)) dX11_init_222 (by decide)) (rs_seq (p2 := 288) (rs_seq (p2 := 254) (rs_setn (ri_if (pT := 229) (pF := 233) (p3 := 253) (rc_zF (pF := 233) ol_j1_ne_F (ri_vn dX11_init_225 rfl) dX11_init_226 (by decide)) (ri_ic dX11_init_229 (by unfold ol_inR; omega)) dX11_init_230 (by decide) (ri_if (pT := 238) (pF := 242) (p3 := 253) (rc_2F (pF := 242) ol_j2_ge_F (ri_vn dX11_init_233 rfl) (ri_ic dX11_init_234 (by unfold ol_inR; omega)) dX11_init_235 (by decide)) (ri_ic dX11_init_238 (by unfold ol_inR; omega)) dX11_init_239 (by decide) (ri_if (pT := 248) (pF := 252) (p3 := 253) (rc_2F (pF := 252) ol_j2_ge_F (ri_vn dX11_init_242 rfl) (ri_bi dX11_init_243 (by unfold ol_inR; omega) (by decide)) dX11_init_245 (by decide)) (ri_ic dX11_init_248 (by unfold ol_inR; omega)) dX11_init_249 (by decide) (ri_ic dX11_init_252 (by unfold ol_inR; omega))))) dX11_init_253 rfl (ol_ltn rfl)) (rs_seq (p2 := 261) (rs_as (rr_f (rr_vn dX11_init_254 rfl) gfX11_23 dX11_init_255) (ri_vn dX11_init_258 rfl) (ri_vn dX11_init_259 rfl) dX11_init_260) (rs_as (rr_f (rr_vn dX11_init_261 rfl) gfX11_26 dX11_init_262) (ri_vn dX11_init_265 rfl) (ri_2 ol_op_add (ri_2 ol_op_sub (ri_si dX11_init_266 (by unfold ol_inR; omega) (by decide)) (ri_2 ol_op_mul (ri_bi dX11_init_269 (by unfold ol_inR; omega) (by decide)) (ri_vn dX11_init_271 rfl) dX11_init_272) dX11_init_273) (ri_2 ol_op_mul (ri_bi dX11_init_274 (by unfold ol_inR; omega) (by decide)) (ri_2 ol_op_sub (ri_vn dX11_init_276 rfl) (ri_2 ol_op_div (ri_2 ol_op_mul (ri_vn dX11_init_277 rfl) (ri_2 ol_op_add (ri_vn dX11_init_278 rfl) (ri_ic dX11_init_279 (by unfold ol_inR; omega)) dX11_init_280) dX11_init_281) (ri_ic dX11_init_282 (by unfold ol_inR; omega)) dX11_init_283) dX11_init_284) dX11_init_285) dX11_init_286) dX11_init_287))) (rs_inc dX11_init_288 (ol_ltn rfl))) dX11_init_291 (by decide))) (rs_retv rfl dX11_init_294)))))))))))))))))))))
theorem conX11_init (l : Launch) (K : ol_K) : ol_Con l K yX11_init mX11_init fX11_init := ol_con (M := mX11_init) (by decide) rfl rfl (imX11_init · K)
