/-! by program: what each method does, and that its code does it -/
theorem dX5_init_0 : decode cX5_init 0 = .ok (.aload_n 0, 1) := by decide +kernel
theorem dX5_init_1 : decode cX5_init 1 = .ok (.invokespecial 3, 3) := by decide +kernel
theorem dX5_init_4 : decode cX5_init 4 = .ok (.aload_n 0, 1) := by decide +kernel
theorem dX5_init_5 : decode cX5_init 5 = .ok (.bipush 60, 2) := by decide +kernel
theorem dX5_init_7 : decode cX5_init 7 = .ok (.newarray .int, 2) := by decide +kernel
theorem dX5_init_9 : decode cX5_init 9 = .ok (.putfield 11, 3) := by decide +kernel
theorem dX5_init_12 : decode cX5_init 12 = .ok (.return_, 1) := by decide +kernel
def bX5_init : ol_SE := es_seq (fun L h => (er_v 0 L h).bind fun q => some (none, L, q.2)) (es_seq (es_pr 5 0 (er_v 0) (er_na 100 1 60 60)) (es_retv))
def fX5_init : ol_FE := ol_fe 1 bX5_init
set_option maxRecDepth 20000 in
theorem imX5_init (x : ol_X) (K : ol_K) : IM_S x K mX5_init 0 0 bX5_init := rs_seq (p2 := 4) (rs_obj (rr_vn dX5_init_0 rfl) dX5_init_1 ⟨tw_90, tw_77, tw_78⟩ (by decide)) (rs_seq (p2 := 12) (rs_pr (rr_vn dX5_init_4 rfl) (rr_na (t := 0) (n := 60) (ri_bi dX5_init_5 (by unfold ol_inR; omega) (by decide)) (by decide) rfl rfl rfl (fun _ _ => rfl) tw_103 (by decide) dX5_init_7) pfX5_11 rfl rfl (Or.inr ⟨_, rfl⟩) dX5_init_9) (rs_retv rfl dX5_init_12))
theorem conX5_init (l : Launch) (K : ol_K) : ol_Con l K yX5_init mX5_init fX5_init := ol_con (M := mX5_init) (by decide) rfl rfl (imX5_init · K)
theorem dX4_init_0 : decode cX4_init 0 = .ok (.aload_n 0, 1) := by decide +kernel
theorem dX4_init_1 : decode cX4_init 1 = .ok (.invokespecial 3, 3) := by decide +kernel
theorem dX4_init_4 : decode cX4_init 4 = .ok (.aload_n 0, 1) := by decide +kernel
theorem dX4_init_5 : decode cX4_init 5 = .ok (.sipush 780, 3) := by decide +kernel
theorem dX4_init_8 : decode cX4_init 8 = .ok (.newarray .int, 2) := by decide +kernel
theorem dX4_init_10 : decode cX4_init 10 = .ok (.putfield 9, 3) := by decide +kernel
theorem dX4_init_13 : decode cX4_init 13 = .ok (.return_, 1) := by decide +kernel
def bX4_init : ol_SE := es_seq (fun L h => (er_v 0 L h).bind fun q => some (none, L, q.2)) (es_seq (es_pr 4 0 (er_v 0) (er_na 100 1 780 780)) (es_retv))
def fX4_init : ol_FE := ol_fe 1 bX4_init
set_option maxRecDepth 20000 in
theorem imX4_init (x : ol_X) (K : ol_K) : IM_S x K mX4_init 0 0 bX4_init := rs_seq (p2 := 4) (rs_obj (rr_vn dX4_init_0 rfl) dX4_init_1 ⟨tw_143, tw_77, tw_78⟩ (by decide)) (rs_seq (p2 := 13) (rs_pr (rr_vn dX4_init_4 rfl) (rr_na (t := 0) (n := 780) (ri_si dX4_init_5 (by unfold ol_inR; omega) (by decide)) (by decide) rfl rfl rfl (fun _ _ => rfl) tw_103 (by decide) dX4_init_8) pfX4_9 rfl rfl (Or.inr ⟨_, rfl⟩) dX4_init_10) (rs_retv rfl dX4_init_13))
theorem conX4_init (l : Launch) (K : ol_K) : ol_Con l K yX4_init mX4_init fX4_init := ol_con (M := mX4_init) (by decide) rfl rfl (imX4_init · K)
theorem dX9_init_0 : decode cX9_init 0 = .ok (.aload_n 0, 1) := by decide +kernel
theorem dX9_init_1 : decode cX9_init 1 = .ok (.invokespecial 3, 3) := by decide +kernel
theorem dX9_init_4 : decode cX9_init 4 = .ok (.return_, 1) := by decide +kernel
def bX9_init : ol_SE := es_seq (fun L h => (er_v 0 L h).bind fun q => some (none, L, q.2)) (es_retv)
def fX9_init : ol_FE := ol_fe 1 bX9_init
set_option maxRecDepth 20000 in
theorem imX9_init (x : ol_X) (K : ol_K) : IM_S x K mX9_init 0 0 bX9_init := rs_seq (p2 := 4) (rs_obj (rr_vn dX9_init_0 rfl) dX9_init_1 ⟨tw_156, tw_77, tw_78⟩ (by decide)) (rs_retv rfl dX9_init_4)
theorem conX9_init (l : Launch) (K : ol_K) : ol_Con l K yX9_init mX9_init fX9_init := ol_con (M := mX9_init) (by decide) rfl rfl (imX9_init · K)
theorem dX6_init_0 : decode cX6_init 0 = .ok (.aload_n 0, 1) := by decide +kernel
theorem dX6_init_1 : decode cX6_init 1 = .ok (.invokespecial 3, 3) := by decide +kernel
theorem dX6_init_4 : decode cX6_init 4 = .ok (.aload_n 0, 1) := by decide +kernel
theorem dX6_init_5 : decode cX6_init 5 = .ok (.bipush 10, 2) := by decide +kernel
theorem dX6_init_7 : decode cX6_init 7 = .ok (.newarray .int, 2) := by decide +kernel
theorem dX6_init_9 : decode cX6_init 9 = .ok (.putfield 9, 3) := by decide +kernel
theorem dX6_init_12 : decode cX6_init 12 = .ok (.return_, 1) := by decide +kernel
def bX6_init : ol_SE := es_seq (fun L h => (er_v 0 L h).bind fun q => some (none, L, q.2)) (es_seq (es_pr 6 0 (er_v 0) (er_na 100 1 10 10)) (es_retv))
def fX6_init : ol_FE := ol_fe 1 bX6_init
set_option maxRecDepth 20000 in
theorem imX6_init (x : ol_X) (K : ol_K) : IM_S x K mX6_init 0 0 bX6_init := rs_seq (p2 := 4) (rs_obj (rr_vn dX6_init_0 rfl) dX6_init_1 ⟨tw_211, tw_77, tw_78⟩ (by decide)) (rs_seq (p2 := 12) (rs_pr (rr_vn dX6_init_4 rfl) (rr_na (t := 0) (n := 10) (ri_bi dX6_init_5 (by unfold ol_inR; omega) (by decide)) (by decide) rfl rfl rfl (fun _ _ => rfl) tw_103 (by decide) dX6_init_7) pfX6_9 rfl rfl (Or.inr ⟨_, rfl⟩) dX6_init_9) (rs_retv rfl dX6_init_12))
theorem conX6_init (l : Launch) (K : ol_K) : ol_Con l K yX6_init mX6_init fX6_init := ol_con (M := mX6_init) (by decide) rfl rfl (imX6_init · K)
theorem dX3_init_0 : decode cX3_init 0 = .ok (.aload_n 0, 1) := by decide +kernel
theorem dX3_init_1 : decode cX3_init 1 = .ok (.invokespecial 3, 3) := by decide +kernel
theorem dX3_init_4 : decode cX3_init 4 = .ok (.aload_n 0, 1) := by decide +kernel
theorem dX3_init_5 : decode cX3_init 5 = .ok (.bipush 21, 2) := by decide +kernel
theorem dX3_init_7 : decode cX3_init 7 = .ok (.newarray .int, 2) := by decide +kernel
theorem dX3_init_9 : decode cX3_init 9 = .ok (.putfield 9, 3) := by decide +kernel
theorem dX3_init_12 : decode cX3_init 12 = .ok (.return_, 1) := by decide +kernel
def bX3_init : ol_SE := es_seq (fun L h => (er_v 0 L h).bind fun q => some (none, L, q.2)) (es_seq (es_pr 3 0 (er_v 0) (er_na 100 1 21 21)) (es_retv))
def fX3_init : ol_FE := ol_fe 1 bX3_init
set_option maxRecDepth 20000 in
theorem imX3_init (x : ol_X) (K : ol_K) : IM_S x K mX3_init 0 0 bX3_init := rs_seq (p2 := 4) (rs_obj (rr_vn dX3_init_0 rfl) dX3_init_1 ⟨tw_264, tw_77, tw_78⟩ (by decide)) (rs_seq (p2 := 12) (rs_pr (rr_vn dX3_init_4 rfl) (rr_na (t := 0) (n := 21) (ri_bi dX3_init_5 (by unfold ol_inR; omega) (by decide)) (by decide) rfl rfl rfl (fun _ _ => rfl) tw_103 (by decide) dX3_init_7) pfX3_9 rfl rfl (Or.inr ⟨_, rfl⟩) dX3_init_9) (rs_retv rfl dX3_init_12))
theorem conX3_init (l : Launch) (K : ol_K) : ol_Con l K yX3_init mX3_init fX3_init := ol_con (M := mX3_init) (by decide) rfl rfl (imX3_init · K)
theorem dX0_init_0 : decode cX0_init 0 = .ok (.aload_n 0, 1) := by decide +kernel
theorem dX0_init_1 : decode cX0_init 1 = .ok (.invokespecial 1, 3) := by decide +kernel
theorem dX0_init_4 : decode cX0_init 4 = .ok (.aload_n 0, 1) := by decide +kernel
theorem dX0_init_5 : decode cX0_init 5 = .ok (.bipush 12, 2) := by decide +kernel
theorem dX0_init_7 : decode cX0_init 7 = .ok (.putfield 7, 3) := by decide +kernel
theorem dX0_init_10 : decode cX0_init 10 = .ok (.aload_n 0, 1) := by decide +kernel
theorem dX0_init_11 : decode cX0_init 11 = .ok (.iload_n 1, 1) := by decide +kernel
theorem dX0_init_12 : decode cX0_init 12 = .ok (.putfield 13, 3) := by decide +kernel
theorem dX0_init_15 : decode cX0_init 15 = .ok (.return_, 1) := by decide +kernel
def bX0_init : ol_SE := es_seq (fun L h => (er_v 0 L h).bind fun q => some (none, L, q.2)) (es_seq (es_pf 0 1 (er_v 0) (ei_c 12)) (es_seq (es_pf 0 0 (er_v 0) (ei_v 1)) (es_retv)))
def fX0_init : ol_FE := ol_fe 2 bX0_init
set_option maxRecDepth 20000 in
theorem imX0_init (x : ol_X) (K : ol_K) : IM_S x K mX0_init 0 0 bX0_init := rs_seq (p2 := 4) (rs_obj (rr_vn dX0_init_0 rfl) dX0_init_1 ⟨tw_333, tw_77, tw_78⟩ (by decide)) (rs_seq (p2 := 10) (rs_pf (rr_vn dX0_init_4 rfl) (ri_bi dX0_init_5 (by unfold ol_inR; omega) (by decide)) pfX0_7 rfl dX0_init_7) (rs_seq (p2 := 15) (rs_pf (rr_vn dX0_init_10 rfl) (ri_vn dX0_init_11 rfl) pfX0_13 rfl dX0_init_12) (rs_retv rfl dX0_init_15)))
theorem conX0_init (l : Launch) (K : ol_K) : ol_Con l K yX0_init mX0_init fX0_init := ol_con (M := mX0_init) (by decide) rfl rfl (imX0_init · K)
theorem dX7_append_0 : decode cX7_append 0 = .ok (.aload_n 0, 1) := by decide +kernel
theorem dX7_append_1 : decode cX7_append 1 = .ok (.getfield 22, 3) := by decide +kernel
theorem dX7_append_4 : decode cX7_append 4 = .ok (.sipush 300, 3) := by decide +kernel
theorem dX7_append_7 : decode cX7_append 7 = .ok (.if_icmp .ge 23, 3) := by decide +kernel
theorem dX7_append_10 : decode cX7_append 10 = .ok (.aload_n 0, 1) := by decide +kernel
theorem dX7_append_11 : decode cX7_append 11 = .ok (.getfield 9, 3) := by decide +kernel
theorem dX7_append_14 : decode cX7_append 14 = .ok (.aload_n 0, 1) := by decide +kernel
theorem dX7_append_15 : decode cX7_append 15 = .ok (.getfield 22, 3) := by decide +kernel
theorem dX7_append_18 : decode cX7_append 18 = .ok (.iload_n 1, 1) := by decide +kernel
theorem dX7_append_19 : decode cX7_append 19 = .ok (.iastore, 1) := by decide +kernel
theorem dX7_append_20 : decode cX7_append 20 = .ok (.aload_n 0, 1) := by decide +kernel
theorem dX7_append_21 : decode cX7_append 21 = .ok (.dup, 1) := by decide +kernel
theorem dX7_append_22 : decode cX7_append 22 = .ok (.getfield 22, 3) := by decide +kernel
theorem dX7_append_25 : decode cX7_append 25 = .ok (.iconst 1, 1) := by decide +kernel
theorem dX7_append_26 : decode cX7_append 26 = .ok (.iadd, 1) := by decide +kernel
theorem dX7_append_27 : decode cX7_append 27 = .ok (.putfield 22, 3) := by decide +kernel
theorem dX7_append_30 : decode cX7_append 30 = .ok (.return_, 1) := by decide +kernel
def bX7_append : ol_SE := es_seq (es_if (ec_2 ol_lt (ei_f 7 2 (er_v 0)) (ei_c 300)) (es_seq (es_as 100 (er_f 7 0 (er_v 0)) (ei_f 7 2 (er_v 0)) (ei_v 1)) (es_uf 7 2 (er_v 0) ol_add (ei_c 1))) es_skip) (es_retv)
def fX7_append : ol_FE := ol_fe 2 bX7_append
set_option maxRecDepth 20000 in
theorem imX7_append (x : ol_X) (K : ol_K) : IM_S x K mX7_append 0 0 bX7_append := rs_seq (p2 := 30) (rs_if (pT := 10) (pF := 30) (pE := 30) (rc_2F (pF := 30) ol_j2_ge_F (ri_f (rr_vn dX7_append_0 rfl) gfX7_22 dX7_append_1) (ri_si dX7_append_4 (by unfold ol_inR; omega) (by decide)) dX7_append_7 (by decide)) (rs_seq (p2 := 20) (rs_as (rr_f (rr_vn dX7_append_10 rfl) gfX7_9 dX7_append_11) (ri_f (rr_vn dX7_append_14 rfl) gfX7_22 dX7_append_15) (ri_vn dX7_append_18 rfl) dX7_append_19) (rs_uf ol_op_add (rr_vn dX7_append_20 rfl) dX7_append_21 dX7_append_22 (ri_ic dX7_append_25 (by unfold ol_inR; omega)) dX7_append_26 gfX7_22 pfX7_22 rfl dX7_append_27)) rs_skip) (rs_retv rfl dX7_append_30)
theorem conX7_append (l : Launch) (K : ol_K) : ol_Con l K yX7_append mX7_append fX7_append := ol_con (M := mX7_append) (by decide) rfl rfl (imX7_append · K)
theorem dX10_clear_0 : decode cX10_clear 0 = .ok (.aload_n 0, 1) := by decide +kernel
theorem dX10_clear_1 : decode cX10_clear 1 = .ok (.getfield 10, 3) := by decide +kernel
theorem dX10_clear_4 : decode cX10_clear 4 = .ok (.getfield 91, 3) := by decide +kernel
theorem dX10_clear_7 : decode cX10_clear 7 = .ok (.istore_n 1, 1) := by decide +kernel
theorem dX10_clear_8 : decode cX10_clear 8 = .ok (.aload_n 0, 1) := by decide +kernel
theorem dX10_clear_9 : decode cX10_clear 9 = .ok (.getfield 10, 3) := by decide +kernel
theorem dX10_clear_12 : decode cX10_clear 12 = .ok (.iconst 0, 1) := by decide +kernel
theorem dX10_clear_13 : decode cX10_clear 13 = .ok (.putfield 91, 3) := by decide +kernel
theorem dX10_clear_16 : decode cX10_clear 16 = .ok (.iload_n 1, 1) := by decide +kernel
theorem dX10_clear_17 : decode cX10_clear 17 = .ok (.ireturn, 1) := by decide +kernel
def bX10_clear : ol_SE := es_seq (es_set 1 (ei_f 7 2 (er_f 10 0 (er_v 0)))) (es_seq (es_pf 7 2 (er_f 10 0 (er_v 0)) (ei_c 0)) (es_ret (ei_v 1)))
def fX10_clear : ol_FE := ol_fe 2 bX10_clear
set_option maxRecDepth 20000 in
theorem imX10_clear (x : ol_X) (K : ol_K) : IM_S x K mX10_clear 0 0 bX10_clear := rs_seq (p2 := 8) (rs_setn (ri_f (rr_f (rr_vn dX10_clear_0 rfl) gfX10_10 dX10_clear_1) gfX10_91 dX10_clear_4) dX10_clear_7 rfl (ol_ltn rfl)) (rs_seq (p2 := 16) (rs_pf (rr_f (rr_vn dX10_clear_8 rfl) gfX10_10 dX10_clear_9) (ri_ic dX10_clear_12 (by unfold ol_inR; omega)) pfX10_91 rfl dX10_clear_13) (rs_ret (ri_vn dX10_clear_16 rfl) rfl dX10_clear_17))
theorem conX10_clear (l : Launch) (K : ol_K) : ol_Con l K yX10_clear mX10_clear fX10_clear := ol_con (M := mX10_clear) (by decide) rfl rfl (imX10_clear · K)
theorem dX10_outside_0 : decode cX10_outside 0 = .ok (.iload_n 0, 1) := by decide +kernel
theorem dX10_outside_1 : decode cX10_outside 1 = .ok (.iload_n 1, 1) := by decide +kernel
theorem dX10_outside_2 : decode cX10_outside 2 = .ok (.if_icmp .lt 8, 3) := by decide +kernel
theorem dX10_outside_5 : decode cX10_outside 5 = .ok (.iload_n 0, 1) := by decide +kernel
theorem dX10_outside_6 : decode cX10_outside 6 = .ok (.iload_n 2, 1) := by decide +kernel
theorem dX10_outside_7 : decode cX10_outside 7 = .ok (.if_icmp .le 7, 3) := by decide +kernel
theorem dX10_outside_10 : decode cX10_outside 10 = .ok (.iconst 1, 1) := by decide +kernel
theorem dX10_outside_11 : decode cX10_outside 11 = .ok (.goto 4, 3) := by decide +kernel
theorem dX10_outside_14 : decode cX10_outside 14 = .ok (.iconst 0, 1) := by decide +kernel
theorem dX10_outside_15 : decode cX10_outside 15 = .ok (.ireturn, 1) := by decide +kernel
def bX10_outside : ol_SE := es_retz (ei_if (ec_or (ec_2 ol_lt (ei_v 0) (ei_v 1)) (ec_2 ol_gt (ei_v 0) (ei_v 2))) (ei_c 1) (ei_c 0))
def fX10_outside : ol_FE := ol_fe 3 bX10_outside
set_option maxRecDepth 20000 in
theorem imX10_outside (x : ol_X) (K : ol_K) : IM_S x K mX10_outside 0 0 bX10_outside := rs_retz (ri_if (pT := 10) (pF := 14) (p3 := 15) (rc_or (p2 := 5) (pT := 10) (pF := 14) (rc_2T (pT := 10) ol_j2_lt_T (ri_vn dX10_outside_0 rfl) (ri_vn dX10_outside_1 rfl) dX10_outside_2 (by decide)) (rc_2F (pF := 14) ol_j2_le_F (ri_vn dX10_outside_5 rfl) (ri_vn dX10_outside_6 rfl) dX10_outside_7 (by decide))) (ri_ic dX10_outside_10 (by unfold ol_inR; omega)) dX10_outside_11 (by decide) (ri_ic dX10_outside_14 (by unfold ol_inR; omega))) rfl dX10_outside_15
theorem conX10_outside (l : Launch) (K : ol_K) : ol_Con l K yX10_outside mX10_outside fX10_outside := ol_con (M := mX10_outside) (by decide) rfl rfl (imX10_outside · K)
theorem dX7_isFigure_0 : decode cX7_isFigure 0 = .ok (.iload_n 0, 1) := by decide +kernel
theorem dX7_isFigure_1 : decode cX7_isFigure 1 = .ok (.bipush 48, 2) := by decide +kernel
theorem dX7_isFigure_3 : decode cX7_isFigure 3 = .ok (.if_icmp .lt 13, 3) := by decide +kernel
theorem dX7_isFigure_6 : decode cX7_isFigure 6 = .ok (.iload_n 0, 1) := by decide +kernel
theorem dX7_isFigure_7 : decode cX7_isFigure 7 = .ok (.bipush 57, 2) := by decide +kernel
theorem dX7_isFigure_9 : decode cX7_isFigure 9 = .ok (.if_icmp .gt 7, 3) := by decide +kernel
theorem dX7_isFigure_12 : decode cX7_isFigure 12 = .ok (.iconst 1, 1) := by decide +kernel
theorem dX7_isFigure_13 : decode cX7_isFigure 13 = .ok (.goto 4, 3) := by decide +kernel
theorem dX7_isFigure_16 : decode cX7_isFigure 16 = .ok (.iconst 0, 1) := by decide +kernel
theorem dX7_isFigure_17 : decode cX7_isFigure 17 = .ok (.ireturn, 1) := by decide +kernel
def bX7_isFigure : ol_SE := es_retz (ei_if (ec_and (ec_2 ol_ge (ei_v 0) (ei_c 48)) (ec_2 ol_le (ei_v 0) (ei_c 57))) (ei_c 1) (ei_c 0))
def fX7_isFigure : ol_FE := ol_fe 1 bX7_isFigure
set_option maxRecDepth 20000 in
theorem imX7_isFigure (x : ol_X) (K : ol_K) : IM_S x K mX7_isFigure 0 0 bX7_isFigure := rs_retz (ri_if (pT := 12) (pF := 16) (p3 := 17) (rc_and (p2 := 6) (pT := 12) (pF := 16) (rc_2F (pF := 16) ol_j2_lt_F (ri_vn dX7_isFigure_0 rfl) (ri_bi dX7_isFigure_1 (by unfold ol_inR; omega) (by decide)) dX7_isFigure_3 (by decide)) (rc_2F (pF := 16) ol_j2_gt_F (ri_vn dX7_isFigure_6 rfl) (ri_bi dX7_isFigure_7 (by unfold ol_inR; omega) (by decide)) dX7_isFigure_9 (by decide))) (ri_ic dX7_isFigure_12 (by unfold ol_inR; omega)) dX7_isFigure_13 (by decide) (ri_ic dX7_isFigure_16 (by unfold ol_inR; omega))) rfl dX7_isFigure_17
theorem conX7_isFigure (l : Launch) (K : ol_K) : ol_Con l K yX7_isFigure mX7_isFigure fX7_isFigure := ol_con (M := mX7_isFigure) (by decide) rfl rfl (imX7_isFigure · K)
theorem dX7_isLetter_0 : decode cX7_isLetter 0 = .ok (.iload_n 0, 1) := by decide +kernel
theorem dX7_isLetter_1 : decode cX7_isLetter 1 = .ok (.bipush 97, 2) := by decide +kernel
theorem dX7_isLetter_3 : decode cX7_isLetter 3 = .ok (.if_icmp .lt 13, 3) := by decide +kernel
theorem dX7_isLetter_6 : decode cX7_isLetter 6 = .ok (.iload_n 0, 1) := by decide +kernel
theorem dX7_isLetter_7 : decode cX7_isLetter 7 = .ok (.bipush 122, 2) := by decide +kernel
theorem dX7_isLetter_9 : decode cX7_isLetter 9 = .ok (.if_icmp .gt 7, 3) := by decide +kernel
theorem dX7_isLetter_12 : decode cX7_isLetter 12 = .ok (.iconst 1, 1) := by decide +kernel
theorem dX7_isLetter_13 : decode cX7_isLetter 13 = .ok (.goto 4, 3) := by decide +kernel
theorem dX7_isLetter_16 : decode cX7_isLetter 16 = .ok (.iconst 0, 1) := by decide +kernel
theorem dX7_isLetter_17 : decode cX7_isLetter 17 = .ok (.ireturn, 1) := by decide +kernel
def bX7_isLetter : ol_SE := es_retz (ei_if (ec_and (ec_2 ol_ge (ei_v 0) (ei_c 97)) (ec_2 ol_le (ei_v 0) (ei_c 122))) (ei_c 1) (ei_c 0))
def fX7_isLetter : ol_FE := ol_fe 1 bX7_isLetter
set_option maxRecDepth 20000 in
theorem imX7_isLetter (x : ol_X) (K : ol_K) : IM_S x K mX7_isLetter 0 0 bX7_isLetter := rs_retz (ri_if (pT := 12) (pF := 16) (p3 := 17) (rc_and (p2 := 6) (pT := 12) (pF := 16) (rc_2F (pF := 16) ol_j2_lt_F (ri_vn dX7_isLetter_0 rfl) (ri_bi dX7_isLetter_1 (by unfold ol_inR; omega) (by decide)) dX7_isLetter_3 (by decide)) (rc_2F (pF := 16) ol_j2_gt_F (ri_vn dX7_isLetter_6 rfl) (ri_bi dX7_isLetter_7 (by unfold ol_inR; omega) (by decide)) dX7_isLetter_9 (by decide))) (ri_ic dX7_isLetter_12 (by unfold ol_inR; omega)) dX7_isLetter_13 (by decide) (ri_ic dX7_isLetter_16 (by unfold ol_inR; omega))) rfl dX7_isLetter_17
theorem conX7_isLetter (l : Launch) (K : ol_K) : ol_Con l K yX7_isLetter mX7_isLetter fX7_isLetter := ol_con (M := mX7_isLetter) (by decide) rfl rfl (imX7_isLetter · K)
theorem dX5_append_0 : decode cX5_append 0 = .ok (.aload_n 0, 1) := by decide +kernel
theorem dX5_append_1 : decode cX5_append 1 = .ok (.getfield 21, 3) := by decide +kernel
theorem dX5_append_4 : decode cX5_append 4 = .ok (.bipush 12, 2) := by decide +kernel
theorem dX5_append_6 : decode cX5_append 6 = .ok (.if_icmp .lt 4, 3) := by decide +kernel
theorem dX5_append_9 : decode cX5_append 9 = .ok (.return_, 1) := by decide +kernel
theorem dX5_append_10 : decode cX5_append 10 = .ok (.aload_n 0, 1) := by decide +kernel
theorem dX5_append_11 : decode cX5_append 11 = .ok (.getfield 21, 3) := by decide +kernel
theorem dX5_append_14 : decode cX5_append 14 = .ok (.iconst 5, 1) := by decide +kernel
theorem dX5_append_15 : decode cX5_append 15 = .ok (.imul, 1) := by decide +kernel
theorem dX5_append_16 : decode cX5_append 16 = .ok (.istore 6, 2) := by decide +kernel
theorem dX5_append_18 : decode cX5_append 18 = .ok (.aload_n 0, 1) := by decide +kernel
theorem dX5_append_19 : decode cX5_append 19 = .ok (.getfield 11, 3) := by decide +kernel
theorem dX5_append_22 : decode cX5_append 22 = .ok (.iload 6, 2) := by decide +kernel
theorem dX5_append_24 : decode cX5_append 24 = .ok (.iload_n 1, 1) := by decide +kernel
theorem dX5_append_25 : decode cX5_append 25 = .ok (.iastore, 1) := by decide +kernel
theorem dX5_append_26 : decode cX5_append 26 = .ok (.aload_n 0, 1) := by decide +kernel
theorem dX5_append_27 : decode cX5_append 27 = .ok (.getfield 11, 3) := by decide +kernel
theorem dX5_append_30 : decode cX5_append 30 = .ok (.iload 6, 2) := by decide +kernel
theorem dX5_append_32 : decode cX5_append 32 = .ok (.iconst 1, 1) := by decide +kernel
theorem dX5_append_33 : decode cX5_append 33 = .ok (.iadd, 1) := by decide +kernel
theorem dX5_append_34 : decode cX5_append 34 = .ok (.iload_n 2, 1) := by decide +kernel
theorem dX5_append_35 : decode cX5_append 35 = .ok (.iastore, 1) := by decide +kernel
theorem dX5_append_36 : decode cX5_append 36 = .ok (.aload_n 0, 1) := by decide +kernel
theorem dX5_append_37 : decode cX5_append 37 = .ok (.getfield 11, 3) := by decide +kernel
theorem dX5_append_40 : decode cX5_append 40 = .ok (.iload 6, 2) := by decide +kernel
theorem dX5_append_42 : decode cX5_append 42 = .ok (.iconst 2, 1) := by decide +kernel
theorem dX5_append_43 : decode cX5_append 43 = .ok (.iadd, 1) := by decide +kernel
theorem dX5_append_44 : decode cX5_append 44 = .ok (.iload_n 3, 1) := by decide +kernel
theorem dX5_append_45 : decode cX5_append 45 = .ok (.iastore, 1) := by decide +kernel
theorem dX5_append_46 : decode cX5_append 46 = .ok (.aload_n 0, 1) := by decide +kernel
theorem dX5_append_47 : decode cX5_append 47 = .ok (.getfield 11, 3) := by decide +kernel
theorem dX5_append_50 : decode cX5_append 50 = .ok (.iload 6, 2) := by decide +kernel
theorem dX5_append_52 : decode cX5_append 52 = .ok (.iconst 3, 1) := by decide +kernel
theorem dX5_append_53 : decode cX5_append 53 = .ok (.iadd, 1) := by decide +kernel
theorem dX5_append_54 : decode cX5_append 54 = .ok (.iload 4, 2) := by decide +kernel
theorem dX5_append_56 : decode cX5_append 56 = .ok (.iastore, 1) := by decide +kernel
theorem dX5_append_57 : decode cX5_append 57 = .ok (.aload_n 0, 1) := by decide +kernel
theorem dX5_append_58 : decode cX5_append 58 = .ok (.getfield 11, 3) := by decide +kernel
theorem dX5_append_61 : decode cX5_append 61 = .ok (.iload 6, 2) := by decide +kernel
theorem dX5_append_63 : decode cX5_append 63 = .ok (.iconst 4, 1) := by decide +kernel
theorem dX5_append_64 : decode cX5_append 64 = .ok (.iadd, 1) := by decide +kernel
theorem dX5_append_65 : decode cX5_append 65 = .ok (.iload 5, 2) := by decide +kernel
theorem dX5_append_67 : decode cX5_append 67 = .ok (.iastore, 1) := by decide +kernel
theorem dX5_append_68 : decode cX5_append 68 = .ok (.aload_n 0, 1) := by decide +kernel
theorem dX5_append_69 : decode cX5_append 69 = .ok (.dup, 1) := by decide +kernel
theorem dX5_append_70 : decode cX5_append 70 = .ok (.getfield 21, 3) := by decide +kernel
theorem dX5_append_73 : decode cX5_append 73 = .ok (.iconst 1, 1) := by decide +kernel
theorem dX5_append_74 : decode cX5_append 74 = .ok (.iadd, 1) := by decide +kernel
theorem dX5_append_75 : decode cX5_append 75 = .ok (.putfield 21, 3) := by decide +kernel
theorem dX5_append_78 : decode cX5_append 78 = .ok (.return_, 1) := by decide +kernel
def bX5_append : ol_SE := es_seq (es_if (ec_2 ol_ge (ei_f 5 1 (er_v 0)) (ei_c 12)) (es_retv) es_skip) (es_seq (es_set 6 (ei_2 ol_mul (ei_f 5 1 (er_v 0)) (ei_c 5))) (es_seq (es_as 100 (er_f 5 0 (er_v 0)) (ei_v 6) (ei_v 1)) (es_seq (es_as 100 (er_f 5 0 (er_v 0)) (ei_2 ol_add (ei_v 6) (ei_c 1)) (ei_v 2)) (es_seq (es_as 100 (er_f 5 0 (er_v 0)) (ei_2 ol_add (ei_v 6) (ei_c 2)) (ei_v 3)) (es_seq (es_as 100 (er_f 5 0 (er_v 0)) (ei_2 ol_add (ei_v 6) (ei_c 3)) (ei_v 4)) (es_seq (es_as 100 (er_f 5 0 (er_v 0)) (ei_2 ol_add (ei_v 6) (ei_c 4)) (ei_v 5)) (es_seq (es_uf 5 1 (er_v 0) ol_add (ei_c 1)) (es_retv))))))))
def fX5_append : ol_FE := ol_fe 7 bX5_append
set_option maxRecDepth 20000 in
theorem imX5_append (x : ol_X) (K : ol_K) : IM_S x K mX5_append 0 0 bX5_append := rs_seq (p2 := 10) (rs_if (pT := 9) (pF := 10) (pE := 10) (rc_2F (pF := 10) ol_j2_lt_F (ri_f (rr_vn dX5_append_0 rfl) gfX5_21 dX5_append_1) (ri_bi dX5_append_4 (by unfold ol_inR; omega) (by decide)) dX5_append_6 (by decide)) (rs_retv rfl dX5_append_9) rs_skip) (rs_seq (p2 := 18) (rs_set (ri_2 ol_op_mul (ri_f (rr_vn dX5_append_10 rfl) gfX5_21 dX5_append_11) (ri_ic dX5_append_14 (by unfold ol_inR; omega)) dX5_append_15) dX5_append_16 (ol_ltn rfl)) (rs_seq (p2 := 26) (rs_as (rr_f (rr_vn dX5_append_18 rfl) gfX5_11 dX5_append_19) (ri_vi dX5_append_22) (ri_vn dX5_append_24 rfl) dX5_append_25) (rs_seq (p2 := 36) (rs_as (rr_f (rr_vn dX5_append_26 rfl) gfX5_11 dX5_append_27) (ri_2 ol_op_add (ri_vi dX5_append_30) (ri_ic dX5_append_32 (by unfold ol_inR; omega)) dX5_append_33) (ri_vn dX5_append_34 rfl) dX5_append_35) (rs_seq (p2 := 46) (rs_as (rr_f (rr_vn dX5_append_36 rfl) gfX5_11 dX5_append_37) (ri_2 ol_op_add (ri_vi dX5_append_40) (ri_ic dX5_append_42 (by unfold ol_inR; omega)) dX5_append_43) (ri_vn dX5_append_44 rfl) dX5_append_45) (rs_seq (p2 := 57) (rs_as (rr_f (rr_vn dX5_append_46 rfl) gfX5_11 dX5_append_47) (ri_2 ol_op_add (ri_vi dX5_append_50) (ri_ic dX5_append_52 (by unfold ol_inR; omega)) dX5_append_53) (ri_vi dX5_append_54) dX5_append_56) (rs_seq (p2 := 68) (rs_as (rr_f (rr_vn dX5_append_57 rfl) gfX5_11 dX5_append_58) (ri_2 ol_op_add (ri_vi dX5_append_61) (ri_ic dX5_append_63 (by unfold ol_inR; omega)) dX5_append_64) (ri_vi dX5_append_65) dX5_append_67) (rs_seq (p2 := 78) (rs_uf ol_op_add (rr_vn dX5_append_68 rfl) dX5_append_69 dX5_append_70 (ri_ic dX5_append_73 (by unfold ol_inR; omega)) dX5_append_74 gfX5_21 pfX5_21 rfl dX5_append_75) (rs_retv rfl dX5_append_78))))))))
theorem conX5_append (l : Launch) (K : ol_K) : ol_Con l K yX5_append mX5_append fX5_append := ol_con (M := mX5_append) (by decide) rfl rfl (imX5_append · K)
theorem dX5_copyFrom_0 : decode cX5_copyFrom 0 = .ok (.aload_n 1, 1) := by decide +kernel
theorem dX5_copyFrom_1 : decode cX5_copyFrom 1 = .ok (.getfield 11, 3) := by decide +kernel
theorem dX5_copyFrom_4 : decode cX5_copyFrom 4 = .ok (.iconst 0, 1) := by decide +kernel
theorem dX5_copyFrom_5 : decode cX5_copyFrom 5 = .ok (.aload_n 0, 1) := by decide +kernel
theorem dX5_copyFrom_6 : decode cX5_copyFrom 6 = .ok (.getfield 11, 3) := by decide +kernel
theorem dX5_copyFrom_9 : decode cX5_copyFrom 9 = .ok (.iconst 0, 1) := by decide +kernel
theorem dX5_copyFrom_10 : decode cX5_copyFrom 10 = .ok (.bipush 60, 2) := by decide +kernel
theorem dX5_copyFrom_12 : decode cX5_copyFrom 12 = .ok (.invokestatic 15, 3) := by decide +kernel
theorem dX5_copyFrom_15 : decode cX5_copyFrom 15 = .ok (.aload_n 0, 1) := by decide +kernel
theorem dX5_copyFrom_16 : decode cX5_copyFrom 16 = .ok (.aload_n 1, 1) := by decide +kernel
theorem dX5_copyFrom_17 : decode cX5_copyFrom 17 = .ok (.getfield 21, 3) := by decide +kernel
theorem dX5_copyFrom_20 : decode cX5_copyFrom 20 = .ok (.putfield 21, 3) := by decide +kernel
theorem dX5_copyFrom_23 : decode cX5_copyFrom 23 = .ok (.return_, 1) := by decide +kernel
def bX5_copyFrom : ol_SE := es_seq (es_cp (er_f 5 0 (er_v 1)) (er_f 5 0 (er_v 0)) 60) (es_seq (es_pf 5 1 (er_v 0) (ei_f 5 1 (er_v 1))) (es_retv))
def fX5_copyFrom : ol_FE := ol_fe 2 bX5_copyFrom
set_option maxRecDepth 20000 in
theorem imX5_copyFrom (x : ol_X) (K : ol_K) : IM_S x K mX5_copyFrom 0 0 bX5_copyFrom := rs_seq (p2 := 15) (rs_cp (n := 60) (rr_f (rr_vn dX5_copyFrom_0 rfl) gfX5_11 dX5_copyFrom_1) (ri_ic dX5_copyFrom_4 (by unfold ol_inR; omega)) (rr_f (rr_vn dX5_copyFrom_5 rfl) gfX5_11 dX5_copyFrom_6) (ri_ic dX5_copyFrom_9 (by unfold ol_inR; omega)) (ri_bi dX5_copyFrom_10 (by unfold ol_inR; omega) (by decide)) dX5_copyFrom_12 tw_515 ⟨tw_517, tw_516, tw_68⟩ (by decide)) (rs_seq (p2 := 23) (rs_pf (rr_vn dX5_copyFrom_15 rfl) (ri_f (rr_vn dX5_copyFrom_16 rfl) gfX5_21 dX5_copyFrom_17) pfX5_21 rfl dX5_copyFrom_20) (rs_retv rfl dX5_copyFrom_23))
theorem conX5_copyFrom (l : Launch) (K : ol_K) : ol_Con l K yX5_copyFrom mX5_copyFrom fX5_copyFrom := ol_con (M := mX5_copyFrom) (by decide) rfl rfl (imX5_copyFrom · K)
theorem dX4_dry_0 : decode cX4_dry 0 = .ok (.iload_n 1, 1) := by decide +kernel
theorem dX4_dry_1 : decode cX4_dry 1 = .ok (.bipush 39, 2) := by decide +kernel
theorem dX4_dry_3 : decode cX4_dry 3 = .ok (.imul, 1) := by decide +kernel
theorem dX4_dry_4 : decode cX4_dry 4 = .ok (.istore_n 3, 1) := by decide +kernel
theorem dX4_dry_5 : decode cX4_dry 5 = .ok (.iload_n 3, 1) := by decide +kernel
theorem dX4_dry_6 : decode cX4_dry 6 = .ok (.iload_n 2, 1) := by decide +kernel
theorem dX4_dry_7 : decode cX4_dry 7 = .ok (.iconst 1, 1) := by decide +kernel
theorem dX4_dry_8 : decode cX4_dry 8 = .ok (.iadd, 1) := by decide +kernel
theorem dX4_dry_9 : decode cX4_dry 9 = .ok (.bipush 39, 2) := by decide +kernel
theorem dX4_dry_11 : decode cX4_dry 11 = .ok (.imul, 1) := by decide +kernel
theorem dX4_dry_12 : decode cX4_dry 12 = .ok (.if_icmp .ge 16, 3) := by decide +kernel
theorem dX4_dry_15 : decode cX4_dry 15 = .ok (.aload_n 0, 1) := by decide +kernel
theorem dX4_dry_16 : decode cX4_dry 16 = .ok (.getfield 9, 3) := by decide +kernel
theorem dX4_dry_19 : decode cX4_dry 19 = .ok (.iload_n 3, 1) := by decide +kernel
theorem dX4_dry_20 : decode cX4_dry 20 = .ok (.iconst 0, 1) := by decide +kernel
theorem dX4_dry_21 : decode cX4_dry 21 = .ok (.iastore, 1) := by decide +kernel
theorem dX4_dry_22 : decode cX4_dry 22 = .ok (.iinc 3 1, 3) := by decide +kernel
theorem dX4_dry_25 : decode cX4_dry 25 = .ok (.goto (-20), 3) := by decide +kernel
theorem dX4_dry_28 : decode cX4_dry 28 = .ok (.return_, 1) := by decide +kernel
def bX4_dry : ol_SE := es_seq (es_seq (es_set 3 (ei_2 ol_mul (ei_v 1) (ei_c 39))) (es_wh (ec_2 ol_lt (ei_v 3) (ei_2 ol_mul (ei_2 ol_add (ei_v 2) (ei_c 1)) (ei_c 39))) (es_seq (es_as 100 (er_f 4 0 (er_v 0)) (ei_v 3) (ei_c 0)) (es_inc 3 1)))) (es_retv)
def fX4_dry : ol_FE := ol_fe 4 bX4_dry
set_option maxRecDepth 20000 in
theorem imX4_dry (x : ol_X) (K : ol_K) : IM_S x K mX4_dry 0 0 bX4_dry := rs_seq (p2 := 28) (rs_seq (p2 := 5) (rs_setn (ri_2 ol_op_mul (ri_vn dX4_dry_0 rfl) (ri_bi dX4_dry_1 (by unfold ol_inR; omega) (by decide)) dX4_dry_3) dX4_dry_4 rfl (ol_ltn rfl)) (rs_wh (pH := 5) (pB := 15) (pE := 28) (pG := 25) (rc_2F (pF := 28) ol_j2_ge_F (ri_vn dX4_dry_5 rfl) (ri_2 ol_op_mul (ri_2 ol_op_add (ri_vn dX4_dry_6 rfl) (ri_ic dX4_dry_7 (by unfold ol_inR; omega)) dX4_dry_8) (ri_bi dX4_dry_9 (by unfold ol_inR; omega) (by decide)) dX4_dry_11) dX4_dry_12 (by decide)) (rs_seq (p2 := 22) (rs_as (rr_f (rr_vn dX4_dry_15 rfl) gfX4_9 dX4_dry_16) (ri_vn dX4_dry_19 rfl) (ri_ic dX4_dry_20 (by unfold ol_inR; omega)) dX4_dry_21) (rs_inc dX4_dry_22 (ol_ltn rfl))) dX4_dry_25 (by decide))) (rs_retv rfl dX4_dry_28)
theorem conX4_dry (l : Launch) (K : ol_K) : ol_Con l K yX4_dry mX4_dry fX4_dry := ol_con (M := mX4_dry) (by decide) rfl rfl (imX4_dry · K)
theorem dX4_spread_0 : decode cX4_spread 0 = .ok (.iload_n 3, 1) := by decide +kernel
theorem dX4_spread_1 : decode cX4_spread 1 = .ok (.bipush 39, 2) := by decide +kernel
theorem dX4_spread_3 : decode cX4_spread 3 = .ok (.imul, 1) := by decide +kernel
theorem dX4_spread_4 : decode cX4_spread 4 = .ok (.istore 5, 2) := by decide +kernel
theorem dX4_spread_6 : decode cX4_spread 6 = .ok (.iload 5, 2) := by decide +kernel
theorem dX4_spread_8 : decode cX4_spread 8 = .ok (.iload_n 1, 1) := by decide +kernel
theorem dX4_spread_9 : decode cX4_spread 9 = .ok (.iadd, 1) := by decide +kernel
theorem dX4_spread_10 : decode cX4_spread 10 = .ok (.istore 6, 2) := by decide +kernel
theorem dX4_spread_12 : decode cX4_spread 12 = .ok (.iload 6, 2) := by decide +kernel
theorem dX4_spread_14 : decode cX4_spread 14 = .ok (.iload 5, 2) := by decide +kernel
theorem dX4_spread_16 : decode cX4_spread 16 = .ok (.iload_n 2, 1) := by decide +kernel
theorem dX4_spread_17 : decode cX4_spread 17 = .ok (.iadd, 1) := by decide +kernel
theorem dX4_spread_18 : decode cX4_spread 18 = .ok (.if_icmp .gt 31, 3) := by decide +kernel
theorem dX4_spread_21 : decode cX4_spread 21 = .ok (.aload_n 0, 1) := by decide +kernel
theorem dX4_spread_22 : decode cX4_spread 22 = .ok (.getfield 9, 3) := by decide +kernel
theorem dX4_spread_25 : decode cX4_spread 25 = .ok (.iload 6, 2) := by decide +kernel
theorem dX4_spread_27 : decode cX4_spread 27 = .ok (.bipush 99, 2) := by decide +kernel
theorem dX4_spread_29 : decode cX4_spread 29 = .ok (.aload_n 0, 1) := by decide +kernel
theorem dX4_spread_30 : decode cX4_spread 30 = .ok (.getfield 9, 3) := by decide +kernel
theorem dX4_spread_33 : decode cX4_spread 33 = .ok (.iload 6, 2) := by decide +kernel
theorem dX4_spread_35 : decode cX4_spread 35 = .ok (.iaload, 1) := by decide +kernel
theorem dX4_spread_36 : decode cX4_spread 36 = .ok (.iload 4, 2) := by decide +kernel
theorem dX4_spread_38 : decode cX4_spread 38 = .ok (.iadd, 1) := by decide +kernel
theorem dX4_spread_39 : decode cX4_spread 39 = .ok (.invokestatic 21, 3) := by decide +kernel
theorem dX4_spread_42 : decode cX4_spread 42 = .ok (.iastore, 1) := by decide +kernel
theorem dX4_spread_43 : decode cX4_spread 43 = .ok (.iinc 6 1, 3) := by decide +kernel
theorem dX4_spread_46 : decode cX4_spread 46 = .ok (.goto (-34), 3) := by decide +kernel
theorem dX4_spread_49 : decode cX4_spread 49 = .ok (.return_, 1) := by decide +kernel
def bX4_spread : ol_SE := es_seq (es_set 5 (ei_2 ol_mul (ei_v 3) (ei_c 39))) (es_seq (es_seq (es_set 6 (ei_2 ol_add (ei_v 5) (ei_v 1))) (es_wh (ec_2 ol_le (ei_v 6) (ei_2 ol_add (ei_v 5) (ei_v 2))) (es_seq (es_as 100 (er_f 4 0 (er_v 0)) (ei_v 6) (ei_2 ol_min (ei_c 99) (ei_2 ol_add (ei_a 100 (er_f 4 0 (er_v 0)) (ei_v 6)) (ei_v 4)))) (es_inc 6 1)))) (es_retv))
def fX4_spread : ol_FE := ol_fe 7 bX4_spread
set_option maxRecDepth 20000 in
theorem imX4_spread (x : ol_X) (K : ol_K) : IM_S x K mX4_spread 0 0 bX4_spread := rs_seq (p2 := 6) (rs_set (ri_2 ol_op_mul (ri_vn dX4_spread_0 rfl) (ri_bi dX4_spread_1 (by unfold ol_inR; omega) (by decide)) dX4_spread_3) dX4_spread_4 (ol_ltn rfl)) (rs_seq (p2 := 49) (rs_seq (p2 := 12) (rs_set (ri_2 ol_op_add (ri_vi dX4_spread_6) (ri_vn dX4_spread_8 rfl) dX4_spread_9) dX4_spread_10 (ol_ltn rfl)) (rs_wh (pH := 12) (pB := 21) (pE := 49) (pG := 46) (rc_2F (pF := 49) ol_j2_gt_F (ri_vi dX4_spread_12) (ri_2 ol_op_add (ri_vi dX4_spread_14) (ri_vn dX4_spread_16 rfl) dX4_spread_17) dX4_spread_18 (by decide)) (rs_seq (p2 := 43) (rs_as (rr_f (rr_vn dX4_spread_21 rfl) gfX4_9 dX4_spread_22) (ri_vi dX4_spread_25) (ri_mi (ri_bi dX4_spread_27 (by unfold ol_inR; omega) (by decide)) (ri_2 ol_op_add (ri_a (rr_f (rr_vn dX4_spread_29 rfl) gfX4_9 dX4_spread_30) (ri_vi dX4_spread_33) rfl dX4_spread_35) (ri_vi dX4_spread_36) dX4_spread_38) dX4_spread_39 tw_539 ⟨tw_540, tw_69, tw_541⟩ (by decide) (by decide)) dX4_spread_42) (rs_inc dX4_spread_43 (ol_ltn rfl))) dX4_spread_46 (by decide))) (rs_retv rfl dX4_spread_49))
theorem conX4_spread (l : Launch) (K : ol_K) : ol_Con l K yX4_spread mX4_spread fX4_spread := ol_con (M := mX4_spread) (by decide) rfl rfl (imX4_spread · K)
theorem dX4_total_0 : decode cX4_total 0 = .ok (.iconst 0, 1) := by decide +kernel
theorem dX4_total_1 : decode cX4_total 1 = .ok (.istore_n 3, 1) := by decide +kernel
theorem dX4_total_2 : decode cX4_total 2 = .ok (.iload_n 1, 1) := by decide +kernel
theorem dX4_total_3 : decode cX4_total 3 = .ok (.bipush 39, 2) := by decide +kernel
theorem dX4_total_5 : decode cX4_total 5 = .ok (.imul, 1) := by decide +kernel
theorem dX4_total_6 : decode cX4_total 6 = .ok (.istore 4, 2) := by decide +kernel
theorem dX4_total_8 : decode cX4_total 8 = .ok (.iload 4, 2) := by decide +kernel
theorem dX4_total_10 : decode cX4_total 10 = .ok (.iload_n 2, 1) := by decide +kernel
theorem dX4_total_11 : decode cX4_total 11 = .ok (.iconst 1, 1) := by decide +kernel
theorem dX4_total_12 : decode cX4_total 12 = .ok (.iadd, 1) := by decide +kernel
theorem dX4_total_13 : decode cX4_total 13 = .ok (.bipush 39, 2) := by decide +kernel
theorem dX4_total_15 : decode cX4_total 15 = .ok (.imul, 1) := by decide +kernel
theorem dX4_total_16 : decode cX4_total 16 = .ok (.if_icmp .ge 19, 3) := by decide +kernel
theorem dX4_total_19 : decode cX4_total 19 = .ok (.iload_n 3, 1) := by decide +kernel
theorem dX4_total_20 : decode cX4_total 20 = .ok (.aload_n 0, 1) := by decide +kernel
theorem dX4_total_21 : decode cX4_total 21 = .ok (.getfield 9, 3) := by decide +kernel
theorem dX4_total_24 : decode cX4_total 24 = .ok (.iload 4, 2) := by decide +kernel
theorem dX4_total_26 : decode cX4_total 26 = .ok (.iaload, 1) := by decide +kernel
theorem dX4_total_27 : decode cX4_total 27 = .ok (.iadd, 1) := by decide +kernel
theorem dX4_total_28 : decode cX4_total 28 = .ok (.istore_n 3, 1) := by decide +kernel
theorem dX4_total_29 : decode cX4_total 29 = .ok (.iinc 4 1, 3) := by decide +kernel
theorem dX4_total_32 : decode cX4_total 32 = .ok (.goto (-24), 3) := by decide +kernel
theorem dX4_total_35 : decode cX4_total 35 = .ok (.iload_n 3, 1) := by decide +kernel
theorem dX4_total_36 : decode cX4_total 36 = .ok (.ireturn, 1) := by decide +kernel
def bX4_total : ol_SE := es_seq (es_set 3 (ei_c 0)) (es_seq (es_seq (es_set 4 (ei_2 ol_mul (ei_v 1) (ei_c 39))) (es_wh (ec_2 ol_lt (ei_v 4) (ei_2 ol_mul (ei_2 ol_add (ei_v 2) (ei_c 1)) (ei_c 39))) (es_seq (es_set 3 (ei_2 ol_add (ei_v 3) (ei_a 100 (er_f 4 0 (er_v 0)) (ei_v 4)))) (es_inc 4 1)))) (es_ret (ei_v 3)))
def fX4_total : ol_FE := ol_fe 5 bX4_total
set_option maxRecDepth 20000 in
theorem imX4_total (x : ol_X) (K : ol_K) : IM_S x K mX4_total 0 0 bX4_total := rs_seq (p2 := 2) (rs_setn (ri_ic dX4_total_0 (by unfold ol_inR; omega)) dX4_total_1 rfl (ol_ltn rfl)) (rs_seq (p2 := 35) (rs_seq (p2 := 8) (rs_set (ri_2 ol_op_mul (ri_vn dX4_total_2 rfl) (ri_bi dX4_total_3 (by unfold ol_inR; omega) (by decide)) dX4_total_5) dX4_total_6 (ol_ltn rfl)) (rs_wh (pH := 8) (pB := 19) (pE := 35) (pG := 32) (rc_2F (pF := 35) ol_j2_ge_F (ri_vi dX4_total_8) (ri_2 ol_op_mul (ri_2 ol_op_add (ri_vn dX4_total_10 rfl) (ri_ic dX4_total_11 (by unfold ol_inR; omega)) dX4_total_12) (ri_bi dX4_total_13 (by unfold ol_inR; omega) (by decide)) dX4_total_15) dX4_total_16 (by decide)) (rs_seq (p2 := 29) (rs_setn (ri_2 ol_op_add (ri_vn dX4_total_19 rfl) (ri_a (rr_f (rr_vn dX4_total_20 rfl) gfX4_9 dX4_total_21) (ri_vi dX4_total_24) rfl dX4_total_26) dX4_total_27) dX4_total_28 rfl (ol_ltn rfl)) (rs_inc dX4_total_29 (ol_ltn rfl))) dX4_total_32 (by decide))) (rs_ret (ri_vn dX4_total_35 rfl) rfl dX4_total_36))
theorem conX4_total (l : Launch) (K : ol_K) : ol_Con l K yX4_total mX4_total fX4_total := ol_con (M := mX4_total) (by decide) rfl rfl (imX4_total · K)
theorem dX1_turnOn_0 : decode cX1_turnOn 0 = .ok (.iload_n 1, 1) := by decide +kernel
theorem dX1_turnOn_1 : decode cX1_turnOn 1 = .ok (.ifCond .ne 14, 3) := by decide +kernel
theorem dX1_turnOn_4 : decode cX1_turnOn 4 = .ok (.aload_n 0, 1) := by decide +kernel
theorem dX1_turnOn_5 : decode cX1_turnOn 5 = .ok (.dup, 1) := by decide +kernel
theorem dX1_turnOn_6 : decode cX1_turnOn 6 = .ok (.getfield 59, 3) := by decide +kernel
theorem dX1_turnOn_9 : decode cX1_turnOn 9 = .ok (.iconst 1, 1) := by decide +kernel
theorem dX1_turnOn_10 : decode cX1_turnOn 10 = .ok (.iadd, 1) := by decide +kernel
theorem dX1_turnOn_11 : decode cX1_turnOn 11 = .ok (.putfield 59, 3) := by decide +kernel
theorem dX1_turnOn_14 : decode cX1_turnOn 14 = .ok (.return_, 1) := by decide +kernel
theorem dX1_turnOn_15 : decode cX1_turnOn 15 = .ok (.aload_n 0, 1) := by decide +kernel
theorem dX1_turnOn_16 : decode cX1_turnOn 16 = .ok (.getfield 26, 3) := by decide +kernel
theorem dX1_turnOn_19 : decode cX1_turnOn 19 = .ok (.aload_n 0, 1) := by decide +kernel
theorem dX1_turnOn_20 : decode cX1_turnOn 20 = .ok (.getfield 53, 3) := by decide +kernel
theorem dX1_turnOn_23 : decode cX1_turnOn 23 = .ok (.iload_n 1, 1) := by decide +kernel
theorem dX1_turnOn_24 : decode cX1_turnOn 24 = .ok (.imul, 1) := by decide +kernel
theorem dX1_turnOn_25 : decode cX1_turnOn 25 = .ok (.bipush 100, 2) := by decide +kernel
theorem dX1_turnOn_27 : decode cX1_turnOn 27 = .ok (.idiv, 1) := by decide +kernel
theorem dX1_turnOn_28 : decode cX1_turnOn 28 = .ok (.iadd, 1) := by decide +kernel
theorem dX1_turnOn_29 : decode cX1_turnOn 29 = .ok (.istore_n 2, 1) := by decide +kernel
theorem dX1_turnOn_30 : decode cX1_turnOn 30 = .ok (.bipush (-40), 2) := by decide +kernel
theorem dX1_turnOn_32 : decode cX1_turnOn 32 = .ok (.bipush 40, 2) := by decide +kernel
theorem dX1_turnOn_34 : decode cX1_turnOn 34 = .ok (.iload_n 2, 1) := by decide +kernel
theorem dX1_turnOn_35 : decode cX1_turnOn 35 = .ok (.invokestatic 81, 3) := by decide +kernel
theorem dX1_turnOn_38 : decode cX1_turnOn 38 = .ok (.invokestatic 68, 3) := by decide +kernel
theorem dX1_turnOn_41 : decode cX1_turnOn 41 = .ok (.istore_n 2, 1) := by decide +kernel
theorem dX1_turnOn_42 : decode cX1_turnOn 42 = .ok (.iload_n 2, 1) := by decide +kernel
theorem dX1_turnOn_43 : decode cX1_turnOn 43 = .ok (.aload_n 0, 1) := by decide +kernel
theorem dX1_turnOn_44 : decode cX1_turnOn 44 = .ok (.getfield 26, 3) := by decide +kernel
theorem dX1_turnOn_47 : decode cX1_turnOn 47 = .ok (.if_icmp .eq 18, 3) := by decide +kernel
theorem dX1_turnOn_50 : decode cX1_turnOn 50 = .ok (.aload_n 0, 1) := by decide +kernel
theorem dX1_turnOn_51 : decode cX1_turnOn 51 = .ok (.dup, 1) := by decide +kernel
theorem dX1_turnOn_52 : decode cX1_turnOn 52 = .ok (.getfield 62, 3) := by decide +kernel
theorem dX1_turnOn_55 : decode cX1_turnOn 55 = .ok (.iconst 1, 1) := by decide +kernel
theorem dX1_turnOn_56 : decode cX1_turnOn 56 = .ok (.iadd, 1) := by decide +kernel
theorem dX1_turnOn_57 : decode cX1_turnOn 57 = .ok (.putfield 62, 3) := by decide +kernel
theorem dX1_turnOn_60 : decode cX1_turnOn 60 = .ok (.aload_n 0, 1) := by decide +kernel
theorem dX1_turnOn_61 : decode cX1_turnOn 61 = .ok (.iload_n 2, 1) := by decide +kernel
theorem dX1_turnOn_62 : decode cX1_turnOn 62 = .ok (.putfield 26, 3) := by decide +kernel
theorem dX1_turnOn_65 : decode cX1_turnOn 65 = .ok (.iload_n 1, 1) := by decide +kernel
theorem dX1_turnOn_66 : decode cX1_turnOn 66 = .ok (.bipush 60, 2) := by decide +kernel
theorem dX1_turnOn_68 : decode cX1_turnOn 68 = .ok (.if_icmp .lt 7, 3) := by decide +kernel
theorem dX1_turnOn_71 : decode cX1_turnOn 71 = .ok (.iconst 2, 1) := by decide +kernel
theorem dX1_turnOn_72 : decode cX1_turnOn 72 = .ok (.goto 14, 3) := by decide +kernel
theorem dX1_turnOn_75 : decode cX1_turnOn 75 = .ok (.iload_n 1, 1) := by decide +kernel
theorem dX1_turnOn_76 : decode cX1_turnOn 76 = .ok (.bipush 20, 2) := by decide +kernel
theorem dX1_turnOn_78 : decode cX1_turnOn 78 = .ok (.if_icmp .lt 7, 3) := by decide +kernel
theorem dX1_turnOn_81 : decode cX1_turnOn 81 = .ok (.iconst 1, 1) := by decide +kernel
theorem dX1_turnOn_82 : decode cX1_turnOn 82 = .ok (.goto 4, 3) := by decide +kernel
theorem dX1_turnOn_85 : decode cX1_turnOn 85 = .ok (.iconst 0, 1) := by decide +kernel
theorem dX1_turnOn_86 : decode cX1_turnOn 86 = .ok (.istore_n 3, 1) := by decide +kernel
theorem dX1_turnOn_87 : decode cX1_turnOn 87 = .ok (.aload_n 0, 1) := by decide +kernel
theorem dX1_turnOn_88 : decode cX1_turnOn 88 = .ok (.aload_n 0, 1) := by decide +kernel
theorem dX1_turnOn_89 : decode cX1_turnOn 89 = .ok (.getfield 53, 3) := by decide +kernel
theorem dX1_turnOn_92 : decode cX1_turnOn 92 = .ok (.ifCond .le 16, 3) := by decide +kernel
theorem dX1_turnOn_95 : decode cX1_turnOn 95 = .ok (.iconst 0, 1) := by decide +kernel
theorem dX1_turnOn_96 : decode cX1_turnOn 96 = .ok (.aload_n 0, 1) := by decide +kernel
theorem dX1_turnOn_97 : decode cX1_turnOn 97 = .ok (.getfield 53, 3) := by decide +kernel
theorem dX1_turnOn_100 : decode cX1_turnOn 100 = .ok (.iload_n 3, 1) := by decide +kernel
theorem dX1_turnOn_101 : decode cX1_turnOn 101 = .ok (.isub, 1) := by decide +kernel
theorem dX1_turnOn_102 : decode cX1_turnOn 102 = .ok (.invokestatic 68, 3) := by decide +kernel
theorem dX1_turnOn_105 : decode cX1_turnOn 105 = .ok (.goto 13, 3) := by decide +kernel
theorem dX1_turnOn_108 : decode cX1_turnOn 108 = .ok (.iconst 0, 1) := by decide +kernel
theorem dX1_turnOn_109 : decode cX1_turnOn 109 = .ok (.aload_n 0, 1) := by decide +kernel
theorem dX1_turnOn_110 : decode cX1_turnOn 110 = .ok (.getfield 53, 3) := by decide +kernel
theorem dX1_turnOn_113 : decode cX1_turnOn 113 = .ok (.iload_n 3, 1) := by decide +kernel
theorem dX1_turnOn_114 : decode cX1_turnOn 114 = .ok (.iadd, 1) := by decide +kernel
theorem dX1_turnOn_115 : decode cX1_turnOn 115 = .ok (.invokestatic 81, 3) := by decide +kernel
theorem dX1_turnOn_118 : decode cX1_turnOn 118 = .ok (.putfield 53, 3) := by decide +kernel
theorem dX1_turnOn_121 : decode cX1_turnOn 121 = .ok (.return_, 1) := by decide +kernel
def bX1_turnOn : ol_SE := es_seq (es_if (ec_z ol_eq (ei_v 1)) (es_seq (es_uf 1 5 (er_v 0) ol_add (ei_c 1)) (es_retv)) es_skip) (es_seq (es_set 2 (ei_2 ol_add (ei_f 1 2 (er_v 0)) (ei_2 ol_div (ei_2 ol_mul (ei_f 1 3 (er_v 0)) (ei_v 1)) (ei_c 100)))) (es_seq (es_set 2 (ei_2 ol_max (ei_c (-40)) (ei_2 ol_min (ei_c 40) (ei_v 2)))) (es_seq (es_if (ec_2 ol_ne (ei_v 2) (ei_f 1 2 (er_v 0))) (es_seq (es_uf 1 6 (er_v 0) ol_add (ei_c 1)) (es_pf 1 2 (er_v 0) (ei_v 2))) es_skip) (es_seq (es_set 3 (ei_if (ec_2 ol_ge (ei_v 1) (ei_c 60)) (ei_c 2) (ei_if (ec_2 ol_ge (ei_v 1) (ei_c 20)) (ei_c 1) (ei_c 0)))) (es_seq (es_pf 1 3 (er_v 0) (ei_if (ec_z ol_gt (ei_f 1 3 (er_v 0))) (ei_2 ol_max (ei_c 0) (ei_2 ol_sub (ei_f 1 3 (er_v 0)) (ei_v 3))) (ei_2 ol_min (ei_c 0) (ei_2 ol_add (ei_f 1 3 (er_v 0)) (ei_v 3))))) (es_retv))))))
def fX1_turnOn : ol_FE := ol_fe 4 bX1_turnOn
set_option maxRecDepth 20000 in
theorem imX1_turnOn (x : ol_X) (K : ol_K) : IM_S x K mX1_turnOn 0 0 bX1_turnOn := rs_seq (p2 := 15) (rs_if (pT := 4) (pF := 15) (pE := 15) (rc_zF (pF := 15) ol_j1_ne_F (ri_vn dX1_turnOn_0 rfl) dX1_turnOn_1 (by decide)) (rs_seq (p2 := 14) (rs_uf ol_op_add (rr_vn dX1_turnOn_4 rfl) dX1_turnOn_5 dX1_turnOn_6 (ri_ic dX1_turnOn_9 (by unfold ol_inR; omega)) dX1_turnOn_10 gfX1_59 pfX1_59 rfl dX1_turnOn_11) (rs_retv rfl dX1_turnOn_14)) rs_skip) (rs_seq (p2 := 30) (rs_setn (ri_2 ol_op_add (ri_f (rr_vn dX1_turnOn_15 rfl) gfX1_26 dX1_turnOn_16) (ri_2 ol_op_div (ri_2 ol_op_mul (ri_f (rr_vn dX1_turnOn_19 rfl) gfX1_53 dX1_turnOn_20) (ri_vn dX1_turnOn_23 rfl) dX1_turnOn_24) (ri_bi dX1_turnOn_25 (by unfold ol_inR; omega) (by decide)) dX1_turnOn_27) dX1_turnOn_28) dX1_turnOn_29 rfl (ol_ltn rfl)) (rs_seq (p2 := 42) (rs_setn (ri_mx (ri_bi dX1_turnOn_30 (by unfold ol_inR; omega) (by decide)) (ri_mi (ri_bi dX1_turnOn_32 (by unfold ol_inR; omega) (by decide)) (ri_vn dX1_turnOn_34 rfl) dX1_turnOn_35 tw_586 ⟨tw_540, tw_69, tw_541⟩ (by decide) (by decide)) dX1_turnOn_38 tw_579 ⟨tw_580, tw_69, tw_581⟩ (by decide) (by decide)) dX1_turnOn_41 rfl (ol_ltn rfl)) (rs_seq (p2 := 65) (rs_if (pT := 50) (pF := 65) (pE := 65) (rc_2F (pF := 65) ol_j2_eq_F (ri_vn dX1_turnOn_42 rfl) (ri_f (rr_vn dX1_turnOn_43 rfl) gfX1_26 dX1_turnOn_44) dX1_turnOn_47 (by decide)) (rs_seq (p2 := 60) (rs_uf ol_op_add (rr_vn dX1_turnOn_50 rfl) dX1_turnOn_51 dX1_turnOn_52 (ri_ic dX1_turnOn_55 (by unfold ol_inR; omega)) dX1_turnOn_56 gfX1_62 pfX1_62 rfl dX1_turnOn_57) (rs_pf (rr_vn dX1_turnOn_60 rfl) (ri_vn dX1_turnOn_61 rfl) pfX1_26 rfl dX1_turnOn_62)) rs_skip) (rs_seq (p2 := 87) (rs_setn (ri_if (pT := 71) (pF := 75) (p3 := 86) (rc_2F (pF := 75) ol_j2_lt_F (ri_vn dX1_turnOn_65 rfl) (ri_bi dX1_turnOn_66 (by unfold ol_inR; omega) (by decide)) dX1_turnOn_68 (by decide)) (ri_ic dX1_turnOn_71 (by unfold ol_inR; omega)) dX1_turnOn_72 (by decide) (ri_if (pT := 81) (pF := 85) (p3 := 86) (rc_2F (pF := 85) ol_j2_lt_F (ri_vn dX1_turnOn_75 rfl) (ri_bi dX1_turnOn_76 (by unfold ol_inR; omega) (by decide)) dX1_turnOn_78 (by decide)) (ri_ic dX1_turnOn_81 (by unfold ol_inR; omega)) dX1_turnOn_82 (by decide) (ri_ic dX1_turnOn_85 (by unfold ol_inR; omega)))) dX1_turnOn_86 rfl (ol_ltn rfl)) (rs_seq (p2 := 121) (rs_pf (rr_vn dX1_turnOn_87 rfl) (ri_if (pT := 95) (pF := 108) (p3 := 118) (rc_zF (pF := 108) ol_j1_le_F (ri_f (rr_vn dX1_turnOn_88 rfl) gfX1_53 dX1_turnOn_89) dX1_turnOn_92 (by decide)) (ri_mx (ri_ic dX1_turnOn_95 (by unfold ol_inR; omega)) (ri_2 ol_op_sub (ri_f (rr_vn dX1_turnOn_96 rfl) gfX1_53 dX1_turnOn_97) (ri_vn dX1_turnOn_100 rfl) dX1_turnOn_101) dX1_turnOn_102 tw_579 ⟨tw_580, tw_69, tw_581⟩ (by decide) (by decide)) dX1_turnOn_105 (by decide) (ri_mi (ri_ic dX1_turnOn_108 (by unfold ol_inR; omega)) (ri_2 ol_op_add (ri_f (rr_vn dX1_turnOn_109 rfl) gfX1_53 dX1_turnOn_110) (ri_vn dX1_turnOn_113 rfl) dX1_turnOn_114) dX1_turnOn_115 tw_586 ⟨tw_540, tw_69, tw_541⟩ (by decide) (by decide))) pfX1_53 rfl dX1_turnOn_118) (rs_retv rfl dX1_turnOn_121))))))
theorem conX1_turnOn (l : Launch) (K : ol_K) : ol_Con l K yX1_turnOn mX1_turnOn fX1_turnOn := ol_con (M := mX1_turnOn) (by decide) rfl rfl (imX1_turnOn · K)
theorem dX1_takeOil_0 : decode cX1_takeOil 0 = .ok (.iconst 0, 1) := by decide +kernel
theorem dX1_takeOil_1 : decode cX1_takeOil 1 = .ok (.istore_n 2, 1) := by decide +kernel
theorem dX1_takeOil_2 : decode cX1_takeOil 2 = .ok (.iload_n 1, 1) := by decide +kernel
theorem dX1_takeOil_3 : decode cX1_takeOil 3 = .ok (.ifCond .le 21, 3) := by decide +kernel
theorem dX1_takeOil_6 : decode cX1_takeOil 6 = .ok (.aload_n 0, 1) := by decide +kernel
theorem dX1_takeOil_7 : decode cX1_takeOil 7 = .ok (.getfield 56, 3) := by decide +kernel
theorem dX1_takeOil_10 : decode cX1_takeOil 10 = .ok (.bipush 9, 2) := by decide +kernel
theorem dX1_takeOil_12 : decode cX1_takeOil 12 = .ok (.if_icmp .ge 7, 3) := by decide +kernel
theorem dX1_takeOil_15 : decode cX1_takeOil 15 = .ok (.iconst 1, 1) := by decide +kernel
theorem dX1_takeOil_16 : decode cX1_takeOil 16 = .ok (.goto 4, 3) := by decide +kernel
theorem dX1_takeOil_19 : decode cX1_takeOil 19 = .ok (.iconst 0, 1) := by decide +kernel
theorem dX1_takeOil_20 : decode cX1_takeOil 20 = .ok (.istore_n 2, 1) := by decide +kernel
theorem dX1_takeOil_21 : decode cX1_takeOil 21 = .ok (.goto 12, 3) := by decide +kernel
theorem dX1_takeOil_24 : decode cX1_takeOil 24 = .ok (.aload_n 0, 1) := by decide +kernel
theorem dX1_takeOil_25 : decode cX1_takeOil 25 = .ok (.getfield 56, 3) := by decide +kernel
theorem dX1_takeOil_28 : decode cX1_takeOil 28 = .ok (.ifCond .le 5, 3) := by decide +kernel
theorem dX1_takeOil_31 : decode cX1_takeOil 31 = .ok (.iconst (-1), 1) := by decide +kernel
theorem dX1_takeOil_32 : decode cX1_takeOil 32 = .ok (.istore_n 2, 1) := by decide +kernel
theorem dX1_takeOil_33 : decode cX1_takeOil 33 = .ok (.aload_n 0, 1) := by decide +kernel
theorem dX1_takeOil_34 : decode cX1_takeOil 34 = .ok (.dup, 1) := by decide +kernel
theorem dX1_takeOil_35 : decode cX1_takeOil 35 = .ok (.getfield 56, 3) := by decide +kernel
theorem dX1_takeOil_38 : decode cX1_takeOil 38 = .ok (.iload_n 2, 1) := by decide +kernel
theorem dX1_takeOil_39 : decode cX1_takeOil 39 = .ok (.iadd, 1) := by decide +kernel
theorem dX1_takeOil_40 : decode cX1_takeOil 40 = .ok (.putfield 56, 3) := by decide +kernel
theorem dX1_takeOil_43 : decode cX1_takeOil 43 = .ok (.iload_n 2, 1) := by decide +kernel
theorem dX1_takeOil_44 : decode cX1_takeOil 44 = .ok (.ireturn, 1) := by decide +kernel
def bX1_takeOil : ol_SE := es_seq (es_set 2 (ei_c 0)) (es_seq (es_if (ec_z ol_gt (ei_v 1)) (es_set 2 (ei_if (ec_2 ol_lt (ei_f 1 4 (er_v 0)) (ei_c 9)) (ei_c 1) (ei_c 0))) (es_if (ec_z ol_gt (ei_f 1 4 (er_v 0))) (es_set 2 (ei_c (-1))) es_skip)) (es_seq (es_uf 1 4 (er_v 0) ol_add (ei_v 2)) (es_ret (ei_v 2))))
def fX1_takeOil : ol_FE := ol_fe 3 bX1_takeOil
set_option maxRecDepth 20000 in
theorem imX1_takeOil (x : ol_X) (K : ol_K) : IM_S x K mX1_takeOil 0 0 bX1_takeOil := rs_seq (p2 := 2) (rs_setn (ri_ic dX1_takeOil_0 (by unfold ol_inR; omega)) dX1_takeOil_1 rfl (ol_ltn rfl)) (rs_seq (p2 := 33) (rs_if (pT := 6) (pF := 24) (pE := 33) (rc_zF (pF := 24) ol_j1_le_F (ri_vn dX1_takeOil_2 rfl) dX1_takeOil_3 (by decide)) (rs_goto (p3 := 33) (rs_setn (ri_if (pT := 15) (pF := 19) (p3 := 20) (rc_2F (pF := 19) ol_j2_ge_F (ri_f (rr_vn dX1_takeOil_6 rfl) gfX1_56 dX1_takeOil_7) (ri_bi dX1_takeOil_10 (by unfold ol_inR; omega) (by decide)) dX1_takeOil_12 (by decide)) (ri_ic dX1_takeOil_15 (by unfold ol_inR; omega)) dX1_takeOil_16 (by decide) (ri_ic dX1_takeOil_19 (by unfold ol_inR; omega))) dX1_takeOil_20 rfl (ol_ltn rfl)) dX1_takeOil_21 (by decide)) (rs_if (pT := 31) (pF := 33) (pE := 33) (rc_zF (pF := 33) ol_j1_le_F (ri_f (rr_vn dX1_takeOil_24 rfl) gfX1_56 dX1_takeOil_25) dX1_takeOil_28 (by decide)) (rs_setn (ri_ic dX1_takeOil_31 (by unfold ol_inR; omega)) dX1_takeOil_32 rfl (ol_ltn rfl)) rs_skip)) (rs_seq (p2 := 43) (rs_uf ol_op_add (rr_vn dX1_takeOil_33 rfl) dX1_takeOil_34 dX1_takeOil_35 (ri_vn dX1_takeOil_38 rfl) dX1_takeOil_39 gfX1_56 pfX1_56 rfl dX1_takeOil_40) (rs_ret (ri_vn dX1_takeOil_43 rfl) rfl dX1_takeOil_44)))
theorem conX1_takeOil (l : Launch) (K : ol_K) : ol_Con l K yX1_takeOil mX1_takeOil fX1_takeOil := ol_con (M := mX1_takeOil) (by decide) rfl rfl (imX1_takeOil · K)
theorem dX6_topple_0 : decode cX6_topple 0 = .ok (.aload_n 0, 1) := by decide +kernel
theorem dX6_topple_1 : decode cX6_topple 1 = .ok (.dup, 1) := by decide +kernel
theorem dX6_topple_2 : decode cX6_topple 2 = .ok (.getfield 19, 3) := by decide +kernel
theorem dX6_topple_5 : decode cX6_topple 5 = .ok (.iconst 1, 1) := by decide +kernel
theorem dX6_topple_6 : decode cX6_topple 6 = .ok (.iload_n 1, 1) := by decide +kernel
theorem dX6_topple_7 : decode cX6_topple 7 = .ok (.ishl, 1) := by decide +kernel
theorem dX6_topple_8 : decode cX6_topple 8 = .ok (.ior, 1) := by decide +kernel
theorem dX6_topple_9 : decode cX6_topple 9 = .ok (.putfield 19, 3) := by decide +kernel
theorem dX6_topple_12 : decode cX6_topple 12 = .ok (.iload_n 2, 1) := by decide +kernel
theorem dX6_topple_13 : decode cX6_topple 13 = .ok (.iconst 3, 1) := by decide +kernel
theorem dX6_topple_14 : decode cX6_topple 14 = .ok (.if_icmp .lt 4, 3) := by decide +kernel
theorem dX6_topple_17 : decode cX6_topple 17 = .ok (.return_, 1) := by decide +kernel
theorem dX6_topple_18 : decode cX6_topple 18 = .ok (.iload_n 1, 1) := by decide +kernel
theorem dX6_topple_19 : decode cX6_topple 19 = .ok (.iload_n 2, 1) := by decide +kernel
theorem dX6_topple_20 : decode cX6_topple 20 = .ok (.iadd, 1) := by decide +kernel
theorem dX6_topple_21 : decode cX6_topple 21 = .ok (.iload_n 3, 1) := by decide +kernel
theorem dX6_topple_22 : decode cX6_topple 22 = .ok (.iconst 4, 1) := by decide +kernel
theorem dX6_topple_23 : decode cX6_topple 23 = .ok (.if_icmp .le 7, 3) := by decide +kernel
theorem dX6_topple_26 : decode cX6_topple 26 = .ok (.iconst 2, 1) := by decide +kernel
theorem dX6_topple_27 : decode cX6_topple 27 = .ok (.goto 4, 3) := by decide +kernel
theorem dX6_topple_30 : decode cX6_topple 30 = .ok (.iconst 1, 1) := by decide +kernel
theorem dX6_topple_31 : decode cX6_topple 31 = .ok (.iadd, 1) := by decide +kernel
theorem dX6_topple_32 : decode cX6_topple 32 = .ok (.istore 4, 2) := by decide +kernel
theorem dX6_topple_34 : decode cX6_topple 34 = .ok (.iload_n 1, 1) := by decide +kernel
theorem dX6_topple_35 : decode cX6_topple 35 = .ok (.iload_n 2, 1) := by decide +kernel
theorem dX6_topple_36 : decode cX6_topple 36 = .ok (.iadd, 1) := by decide +kernel
theorem dX6_topple_37 : decode cX6_topple 37 = .ok (.iload_n 3, 1) := by decide +kernel
theorem dX6_topple_38 : decode cX6_topple 38 = .ok (.bipush (-4), 2) := by decide +kernel
theorem dX6_topple_40 : decode cX6_topple 40 = .ok (.if_icmp .ge 7, 3) := by decide +kernel
theorem dX6_topple_43 : decode cX6_topple 43 = .ok (.iconst 1, 1) := by decide +kernel
theorem dX6_topple_44 : decode cX6_topple 44 = .ok (.goto 4, 3) := by decide +kernel
theorem dX6_topple_47 : decode cX6_topple 47 = .ok (.iconst 2, 1) := by decide +kernel
theorem dX6_topple_48 : decode cX6_topple 48 = .ok (.iadd, 1) := by decide +kernel
theorem dX6_topple_49 : decode cX6_topple 49 = .ok (.istore 5, 2) := by decide +kernel
theorem dX6_topple_51 : decode cX6_topple 51 = .ok (.iload 4, 2) := by decide +kernel
theorem dX6_topple_53 : decode cX6_topple 53 = .ok (.istore 6, 2) := by decide +kernel
theorem dX6_topple_55 : decode cX6_topple 55 = .ok (.iload 6, 2) := by decide +kernel
theorem dX6_topple_57 : decode cX6_topple 57 = .ok (.iload 5, 2) := by decide +kernel
theorem dX6_topple_59 : decode cX6_topple 59 = .ok (.if_icmp .gt 42, 3) := by decide +kernel
theorem dX6_topple_62 : decode cX6_topple 62 = .ok (.aload_n 0, 1) := by decide +kernel
theorem dX6_topple_63 : decode cX6_topple 63 = .ok (.getfield 15, 3) := by decide +kernel
theorem dX6_topple_66 : decode cX6_topple 66 = .ok (.iload 6, 2) := by decide +kernel
theorem dX6_topple_68 : decode cX6_topple 68 = .ok (.ishr, 1) := by decide +kernel
theorem dX6_topple_69 : decode cX6_topple 69 = .ok (.iconst 1, 1) := by decide +kernel
theorem dX6_topple_70 : decode cX6_topple 70 = .ok (.iand, 1) := by decide +kernel
theorem dX6_topple_71 : decode cX6_topple 71 = .ok (.ifCond .ne 24, 3) := by decide +kernel
theorem dX6_topple_74 : decode cX6_topple 74 = .ok (.aload_n 0, 1) := by decide +kernel
theorem dX6_topple_75 : decode cX6_topple 75 = .ok (.dup, 1) := by decide +kernel
theorem dX6_topple_76 : decode cX6_topple 76 = .ok (.getfield 15, 3) := by decide +kernel
theorem dX6_topple_79 : decode cX6_topple 79 = .ok (.iconst 1, 1) := by decide +kernel
theorem dX6_topple_80 : decode cX6_topple 80 = .ok (.iload 6, 2) := by decide +kernel
theorem dX6_topple_82 : decode cX6_topple 82 = .ok (.ishl, 1) := by decide +kernel
theorem dX6_topple_83 : decode cX6_topple 83 = .ok (.ior, 1) := by decide +kernel
theorem dX6_topple_84 : decode cX6_topple 84 = .ok (.putfield 15, 3) := by decide +kernel
theorem dX6_topple_87 : decode cX6_topple 87 = .ok (.aload_n 0, 1) := by decide +kernel
theorem dX6_topple_88 : decode cX6_topple 88 = .ok (.getfield 9, 3) := by decide +kernel
theorem dX6_topple_91 : decode cX6_topple 91 = .ok (.iload 6, 2) := by decide +kernel
theorem dX6_topple_93 : decode cX6_topple 93 = .ok (.iload_n 3, 1) := by decide +kernel
theorem dX6_topple_94 : decode cX6_topple 94 = .ok (.iastore, 1) := by decide +kernel
theorem dX6_topple_95 : decode cX6_topple 95 = .ok (.iinc 6 1, 3) := by decide +kernel
theorem dX6_topple_98 : decode cX6_topple 98 = .ok (.goto (-43), 3) := by decide +kernel
theorem dX6_topple_101 : decode cX6_topple 101 = .ok (.return_, 1) := by decide +kernel
def bX6_topple : ol_SE := es_seq (es_uf 6 2 (er_v 0) ol_or (ei_2 ol_shl (ei_c 1) (ei_v 1))) (es_seq (es_if (ec_2 ol_ge (ei_v 2) (ei_c 3)) (es_retv) es_skip) (es_seq (es_set 4 (ei_2 ol_add (ei_2 ol_add (ei_v 1) (ei_v 2)) (ei_if (ec_2 ol_gt (ei_v 3) (ei_c 4)) (ei_c 2) (ei_c 1)))) (es_seq (es_set 5 (ei_2 ol_add (ei_2 ol_add (ei_v 1) (ei_v 2)) (ei_if (ec_2 ol_lt (ei_v 3) (ei_c (-4))) (ei_c 1) (ei_c 2)))) (es_seq (es_seq (es_set 6 (ei_v 4)) (es_wh (ec_2 ol_le (ei_v 6) (ei_v 5)) (es_seq (es_if (ec_z ol_eq (ei_2 ol_and (ei_2 ol_shr (ei_f 6 1 (er_v 0)) (ei_v 6)) (ei_c 1))) (es_seq (es_uf 6 1 (er_v 0) ol_or (ei_2 ol_shl (ei_c 1) (ei_v 6))) (es_as 100 (er_f 6 0 (er_v 0)) (ei_v 6) (ei_v 3))) es_skip) (es_inc 6 1)))) (es_retv)))))
def fX6_topple : ol_FE := ol_fe 7 bX6_topple
set_option maxRecDepth 20000 in
theorem imX6_topple (x : ol_X) (K : ol_K) : IM_S x K mX6_topple 0 0 bX6_topple := rs_seq (p2 := 12) (rs_uf ol_op_or (rr_vn dX6_topple_0 rfl) dX6_topple_1 dX6_topple_2 (ri_2 ol_op_shl (ri_ic dX6_topple_5 (by unfold ol_inR; omega)) (ri_vn dX6_topple_6 rfl) dX6_topple_7) dX6_topple_8 gfX6_19 pfX6_19 rfl dX6_topple_9) (rs_seq (p2 := 18) (rs_if (pT := 17) (pF := 18) (pE := 18) (rc_2F (pF := 18) ol_j2_lt_F (ri_vn dX6_topple_12 rfl) (ri_ic dX6_topple_13 (by unfold ol_inR; omega)) dX6_topple_14 (by decide)) (rs_retv rfl dX6_topple_17) rs_skip) (rs_seq (p2 := 34) (rs_set (ri_2 ol_op_add (ri_2 ol_op_add (ri_vn dX6_topple_18 rfl) (ri_vn dX6_topple_19 rfl) dX6_topple_20) (ri_if (pT := 26) (pF := 30) (p3 := 31) (rc_2F (pF := 30) ol_j2_le_F (ri_vn dX6_topple_21 rfl) (ri_ic dX6_topple_22 (by unfold ol_inR; omega)) dX6_topple_23 (by decide)) (ri_ic dX6_topple_26 (by unfold ol_inR; omega)) dX6_topple_27 (by decide) (ri_ic dX6_topple_30 (by unfold ol_inR; omega))) dX6_topple_31) dX6_topple_32 (ol_ltn rfl)) (rs_seq (p2 := 51) (rs_set (ri_2 ol_op_add (ri_2 ol_op_add (ri_vn dX6_topple_34 rfl) (ri_vn dX6_topple_35 rfl) dX6_topple_36) (ri_if (pT := 43) (pF := 47) (p3 := 48) (rc_2F (pF := 47) ol_j2_ge_F (ri_vn dX6_topple_37 rfl) (ri_bi dX6_topple_38 (by unfold ol_inR; omega) (by decide)) dX6_topple_40 (by decide)) (ri_ic dX6_topple_43 (by unfold ol_inR; omega)) dX6_topple_44 (by decide) (ri_ic dX6_topple_47 (by unfold ol_inR; omega))) dX6_topple_48) dX6_topple_49 (ol_ltn rfl)) (rs_seq (p2 := 101) (rs_seq (p2 := 55) (rs_set (ri_vi dX6_topple_51) dX6_topple_53 (ol_ltn rfl)) (rs_wh (pH := 55) (pB := 62) (pE := 101) (pG := 98) (rc_2F (pF := 101) ol_j2_gt_F (ri_vi dX6_topple_55) (ri_vi dX6_topple_57) dX6_topple_59 (by decide)) (rs_seq (p2 := 95) (rs_if (pT := 74) (pF := 95) (pE := 95) (rc_zF (pF := 95) ol_j1_ne_F (ri_2 ol_op_and (ri_2 ol_op_shr (ri_f (rr_vn dX6_topple_62 rfl) gfX6_15 dX6_topple_63) (ri_vi dX6_topple_66) dX6_topple_68) (ri_ic dX6_topple_69 (by unfold ol_inR; omega)) dX6_topple_70) dX6_topple_71 (by decide)) (rs_seq (p2 := 87) (rs_uf ol_op_or (rr_vn dX6_topple_74 rfl) dX6_topple_75 dX6_topple_76 (ri_2 ol_op_shl (ri_ic dX6_topple_79 (by unfold ol_inR; omega)) (ri_vi dX6_topple_80) dX6_topple_82) dX6_topple_83 gfX6_15 pfX6_15 rfl dX6_topple_84) (rs_as (rr_f (rr_vn dX6_topple_87 rfl) gfX6_9 dX6_topple_88) (ri_vi dX6_topple_91) (ri_vn dX6_topple_93 rfl) dX6_topple_94)) rs_skip) (rs_inc dX6_topple_95 (ol_ltn rfl))) dX6_topple_98 (by decide))) (rs_retv rfl dX6_topple_101)))))
theorem conX6_topple (l : Launch) (K : ol_K) : ol_Con l K yX6_topple mX6_topple fX6_topple := ol_con (M := mX6_topple) (by decide) rfl rfl (imX6_topple · K)
theorem dJ6_bitCount_0f7a4_0 : decode cJ6_bitCount_0f7a4 0 = .ok (.iload_n 0, 1) := by decide +kernel
theorem dJ6_bitCount_0f7a4_1 : decode cJ6_bitCount_0f7a4 1 = .ok (.iload_n 0, 1) := by decide +kernel
theorem dJ6_bitCount_0f7a4_2 : decode cJ6_bitCount_0f7a4 2 = .ok (.iconst 1, 1) := by decide +kernel
theorem dJ6_bitCount_0f7a4_3 : decode cJ6_bitCount_0f7a4 3 = .ok (.iushr, 1) := by decide +kernel
theorem dJ6_bitCount_0f7a4_4 : decode cJ6_bitCount_0f7a4 4 = .ok (.ldc_w 265, 3) := by decide +kernel
theorem dJ6_bitCount_0f7a4_7 : decode cJ6_bitCount_0f7a4 7 = .ok (.iand, 1) := by decide +kernel
theorem dJ6_bitCount_0f7a4_8 : decode cJ6_bitCount_0f7a4 8 = .ok (.isub, 1) := by decide +kernel
theorem dJ6_bitCount_0f7a4_9 : decode cJ6_bitCount_0f7a4 9 = .ok (.istore_n 0, 1) := by decide +kernel
theorem dJ6_bitCount_0f7a4_10 : decode cJ6_bitCount_0f7a4 10 = .ok (.iload_n 0, 1) := by decide +kernel
theorem dJ6_bitCount_0f7a4_11 : decode cJ6_bitCount_0f7a4 11 = .ok (.ldc_w 266, 3) := by decide +kernel
theorem dJ6_bitCount_0f7a4_14 : decode cJ6_bitCount_0f7a4 14 = .ok (.iand, 1) := by decide +kernel
theorem dJ6_bitCount_0f7a4_15 : decode cJ6_bitCount_0f7a4 15 = .ok (.iload_n 0, 1) := by decide +kernel
theorem dJ6_bitCount_0f7a4_16 : decode cJ6_bitCount_0f7a4 16 = .ok (.iconst 2, 1) := by decide +kernel
theorem dJ6_bitCount_0f7a4_17 : decode cJ6_bitCount_0f7a4 17 = .ok (.iushr, 1) := by decide +kernel
theorem dJ6_bitCount_0f7a4_18 : decode cJ6_bitCount_0f7a4 18 = .ok (.ldc_w 266, 3) := by decide +kernel
theorem dJ6_bitCount_0f7a4_21 : decode cJ6_bitCount_0f7a4 21 = .ok (.iand, 1) := by decide +kernel
theorem dJ6_bitCount_0f7a4_22 : decode cJ6_bitCount_0f7a4 22 = .ok (.iadd, 1) := by decide +kernel
theorem dJ6_bitCount_0f7a4_23 : decode cJ6_bitCount_0f7a4 23 = .ok (.istore_n 0, 1) := by decide +kernel
theorem dJ6_bitCount_0f7a4_24 : decode cJ6_bitCount_0f7a4 24 = .ok (.iload_n 0, 1) := by decide +kernel
theorem dJ6_bitCount_0f7a4_25 : decode cJ6_bitCount_0f7a4 25 = .ok (.iload_n 0, 1) := by decide +kernel
theorem dJ6_bitCount_0f7a4_26 : decode cJ6_bitCount_0f7a4 26 = .ok (.iconst 4, 1) := by decide +kernel
theorem dJ6_bitCount_0f7a4_27 : decode cJ6_bitCount_0f7a4 27 = .ok (.iushr, 1) := by decide +kernel
theorem dJ6_bitCount_0f7a4_28 : decode cJ6_bitCount_0f7a4 28 = .ok (.iadd, 1) := by decide +kernel
theorem dJ6_bitCount_0f7a4_29 : decode cJ6_bitCount_0f7a4 29 = .ok (.ldc_w 267, 3) := by decide +kernel
theorem dJ6_bitCount_0f7a4_32 : decode cJ6_bitCount_0f7a4 32 = .ok (.iand, 1) := by decide +kernel
theorem dJ6_bitCount_0f7a4_33 : decode cJ6_bitCount_0f7a4 33 = .ok (.istore_n 0, 1) := by decide +kernel
theorem dJ6_bitCount_0f7a4_34 : decode cJ6_bitCount_0f7a4 34 = .ok (.iload_n 0, 1) := by decide +kernel
theorem dJ6_bitCount_0f7a4_35 : decode cJ6_bitCount_0f7a4 35 = .ok (.iload_n 0, 1) := by decide +kernel
theorem dJ6_bitCount_0f7a4_36 : decode cJ6_bitCount_0f7a4 36 = .ok (.bipush 8, 2) := by decide +kernel
theorem dJ6_bitCount_0f7a4_38 : decode cJ6_bitCount_0f7a4 38 = .ok (.iushr, 1) := by decide +kernel
theorem dJ6_bitCount_0f7a4_39 : decode cJ6_bitCount_0f7a4 39 = .ok (.iadd, 1) := by decide +kernel
theorem dJ6_bitCount_0f7a4_40 : decode cJ6_bitCount_0f7a4 40 = .ok (.istore_n 0, 1) := by decide +kernel
theorem dJ6_bitCount_0f7a4_41 : decode cJ6_bitCount_0f7a4 41 = .ok (.iload_n 0, 1) := by decide +kernel
theorem dJ6_bitCount_0f7a4_42 : decode cJ6_bitCount_0f7a4 42 = .ok (.iload_n 0, 1) := by decide +kernel
theorem dJ6_bitCount_0f7a4_43 : decode cJ6_bitCount_0f7a4 43 = .ok (.bipush 16, 2) := by decide +kernel
theorem dJ6_bitCount_0f7a4_45 : decode cJ6_bitCount_0f7a4 45 = .ok (.iushr, 1) := by decide +kernel
theorem dJ6_bitCount_0f7a4_46 : decode cJ6_bitCount_0f7a4 46 = .ok (.iadd, 1) := by decide +kernel
theorem dJ6_bitCount_0f7a4_47 : decode cJ6_bitCount_0f7a4 47 = .ok (.istore_n 0, 1) := by decide +kernel
theorem dJ6_bitCount_0f7a4_48 : decode cJ6_bitCount_0f7a4 48 = .ok (.iload_n 0, 1) := by decide +kernel
theorem dJ6_bitCount_0f7a4_49 : decode cJ6_bitCount_0f7a4 49 = .ok (.bipush 63, 2) := by decide +kernel
theorem dJ6_bitCount_0f7a4_51 : decode cJ6_bitCount_0f7a4 51 = .ok (.iand, 1) := by decide +kernel
theorem dJ6_bitCount_0f7a4_52 : decode cJ6_bitCount_0f7a4 52 = .ok (.ireturn, 1) := by decide +kernel
def bJ6_bitCount_0f7a4 : ol_SE := es_seq (es_set 0 (ei_2 ol_sub (ei_v 0) (ei_2 ol_and (ei_2 ol_ush (ei_v 0) (ei_c 1)) (ei_c 1431655765)))) (es_seq (es_set 0 (ei_2 ol_add (ei_2 ol_and (ei_v 0) (ei_c 858993459)) (ei_2 ol_and (ei_2 ol_ush (ei_v 0) (ei_c 2)) (ei_c 858993459)))) (es_seq (es_set 0 (ei_2 ol_and (ei_2 ol_add (ei_v 0) (ei_2 ol_ush (ei_v 0) (ei_c 4))) (ei_c 252645135))) (es_seq (es_set 0 (ei_2 ol_add (ei_v 0) (ei_2 ol_ush (ei_v 0) (ei_c 8)))) (es_seq (es_set 0 (ei_2 ol_add (ei_v 0) (ei_2 ol_ush (ei_v 0) (ei_c 16)))) (es_ret (ei_2 ol_and (ei_v 0) (ei_c 63)))))))
def fJ6_bitCount_0f7a4 : ol_FE := ol_fe 1 bJ6_bitCount_0f7a4
set_option maxRecDepth 20000 in
theorem imJ6_bitCount_0f7a4 (x : ol_X) (K : ol_K) : IM_S x K mJ6_bitCount_0f7a4 0 0 bJ6_bitCount_0f7a4 := rs_seq (p2 := 10) (rs_setn (ri_2 ol_op_sub (ri_vn dJ6_bitCount_0f7a4_0 rfl) (ri_2 ol_op_and (ri_2 ol_op_ush (ri_vn dJ6_bitCount_0f7a4_1 rfl) (ri_ic dJ6_bitCount_0f7a4_2 (by unfold ol_inR; omega)) dJ6_bitCount_0f7a4_3) (ri_ldcw dJ6_bitCount_0f7a4_4 (by unfold ol_inR; omega) tw_608) dJ6_bitCount_0f7a4_7) dJ6_bitCount_0f7a4_8) dJ6_bitCount_0f7a4_9 rfl (ol_ltn rfl)) (rs_seq (p2 := 24) (rs_setn (ri_2 ol_op_add (ri_2 ol_op_and (ri_vn dJ6_bitCount_0f7a4_10 rfl) (ri_ldcw dJ6_bitCount_0f7a4_11 (by unfold ol_inR; omega) tw_609) dJ6_bitCount_0f7a4_14) (ri_2 ol_op_and (ri_2 ol_op_ush (ri_vn dJ6_bitCount_0f7a4_15 rfl) (ri_ic dJ6_bitCount_0f7a4_16 (by unfold ol_inR; omega)) dJ6_bitCount_0f7a4_17) (ri_ldcw dJ6_bitCount_0f7a4_18 (by unfold ol_inR; omega) tw_609) dJ6_bitCount_0f7a4_21) dJ6_bitCount_0f7a4_22) dJ6_bitCount_0f7a4_23 rfl (ol_ltn rfl)) (rs_seq (p2 := 34) (rs_setn (ri_2 ol_op_and (ri_2 ol_op_add (ri_vn dJ6_bitCount_0f7a4_24 rfl) (ri_2 ol_op_ush (ri_vn dJ6_bitCount_0f7a4_25 rfl) (ri_ic dJ6_bitCount_0f7a4_26 (by unfold ol_inR; omega)) dJ6_bitCount_0f7a4_27) dJ6_bitCount_0f7a4_28) (ri_ldcw dJ6_bitCount_0f7a4_29 (by unfold ol_inR; omega) tw_610) dJ6_bitCount_0f7a4_32) dJ6_bitCount_0f7a4_33 rfl (ol_ltn rfl)) (rs_seq (p2 := 41) (rs_setn (ri_2 ol_op_add (ri_vn dJ6_bitCount_0f7a4_34 rfl) (ri_2 ol_op_ush (ri_vn dJ6_bitCount_0f7a4_35 rfl) (ri_bi dJ6_bitCount_0f7a4_36 (by unfold ol_inR; omega) (by decide)) dJ6_bitCount_0f7a4_38) dJ6_bitCount_0f7a4_39) dJ6_bitCount_0f7a4_40 rfl (ol_ltn rfl)) (rs_seq (p2 := 48) (rs_setn (ri_2 ol_op_add (ri_vn dJ6_bitCount_0f7a4_41 rfl) (ri_2 ol_op_ush (ri_vn dJ6_bitCount_0f7a4_42 rfl) (ri_bi dJ6_bitCount_0f7a4_43 (by unfold ol_inR; omega) (by decide)) dJ6_bitCount_0f7a4_45) dJ6_bitCount_0f7a4_46) dJ6_bitCount_0f7a4_47 rfl (ol_ltn rfl)) (rs_ret (ri_2 ol_op_and (ri_vn dJ6_bitCount_0f7a4_48 rfl) (ri_bi dJ6_bitCount_0f7a4_49 (by unfold ol_inR; omega) (by decide)) dJ6_bitCount_0f7a4_51) rfl dJ6_bitCount_0f7a4_52)))))
theorem conJ6_bitCount_0f7a4 (l : Launch) (K : ol_K) : ol_Con l K yJ6_bitCount_0f7a4 mJ6_bitCount_0f7a4 fJ6_bitCount_0f7a4 := ol_con (M := mJ6_bitCount_0f7a4) (by decide) rfl rfl (imJ6_bitCount_0f7a4 · K)
