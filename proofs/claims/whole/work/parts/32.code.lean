/-! by program: what each method does, and that its code does it -/
theorem dX11_in_0 : decode cX11_in 0 = .ok (.iload_n 0, 1) := by decide +kernel
theorem dX11_in_1 : decode cX11_in 1 = .ok (.iload_n 1, 1) := by decide +kernel
theorem dX11_in_2 : decode cX11_in 2 = .ok (.if_icmp .lt 12, 3) := by decide +kernel
theorem dX11_in_5 : decode cX11_in 5 = .ok (.iload_n 0, 1) := by decide +kernel
theorem dX11_in_6 : decode cX11_in 6 = .ok (.iload_n 2, 1) := by decide +kernel
theorem dX11_in_7 : decode cX11_in 7 = .ok (.if_icmp .gt 7, 3) := by decide +kernel
theorem dX11_in_10 : decode cX11_in 10 = .ok (.iconst 1, 1) := by decide +kernel
theorem dX11_in_11 : decode cX11_in 11 = .ok (.goto 4, 3) := by decide +kernel
theorem dX11_in_14 : decode cX11_in 14 = .ok (.iconst 0, 1) := by decide +kernel
theorem dX11_in_15 : decode cX11_in 15 = .ok (.ireturn, 1) := by decide +kernel
def bX11_in : ol_SE := es_retz (ei_if (ec_and (ec_2 ol_ge (ei_v 0) (ei_v 1)) (ec_2 ol_le (ei_v 0) (ei_v 2))) (ei_c 1) (ei_c 0))
def fX11_in : ol_FE := ol_fe 3 bX11_in
set_option maxRecDepth 20000 in
theorem imX11_in (x : ol_X) (K : ol_K) : IM_S x K mX11_in 0 0 bX11_in := rs_retz (ri_if (pT := 10) (pF := 14) (p3 := 15) (rc_and (p2 := 5) (pT := 10) (pF := 14) (rc_2F (pF := 14) ol_j2_lt_F (ri_vn dX11_in_0 rfl) (ri_vn dX11_in_1 rfl) dX11_in_2 (by decide)) (rc_2F (pF := 14) ol_j2_gt_F (ri_vn dX11_in_5 rfl) (ri_vn dX11_in_6 rfl) dX11_in_7 (by decide))) (ri_ic dX11_in_10 (by unfold ol_inR; omega)) dX11_in_11 (by decide) (ri_ic dX11_in_14 (by unfold ol_inR; omega))) rfl dX11_in_15
theorem conX11_in (l : Launch) (K : ol_K) : ol_Con l K yX11_in mX11_in fX11_in := ol_con (M := mX11_in) (by decide) rfl rfl (imX11_in · K)
theorem dX11_clear_0 : decode cX11_clear 0 = .ok (.aload_n 0, 1) := by decide +kernel
theorem dX11_clear_1 : decode cX11_clear 1 = .ok (.getfield 67, 3) := by decide +kernel
theorem dX11_clear_4 : decode cX11_clear 4 = .ok (.istore_n 1, 1) := by decide +kernel
theorem dX11_clear_5 : decode cX11_clear 5 = .ok (.aload_n 0, 1) := by decide +kernel
theorem dX11_clear_6 : decode cX11_clear 6 = .ok (.iconst 0, 1) := by decide +kernel
theorem dX11_clear_7 : decode cX11_clear 7 = .ok (.putfield 67, 3) := by decide +kernel
theorem dX11_clear_10 : decode cX11_clear 10 = .ok (.iload_n 1, 1) := by decide +kernel
theorem dX11_clear_11 : decode cX11_clear 11 = .ok (.ireturn, 1) := by decide +kernel
def bX11_clear : ol_SE := es_seq (es_set 1 (ei_f 11 2 (er_v 0))) (es_seq (es_pf 11 2 (er_v 0) (ei_c 0)) (es_ret (ei_v 1)))
def fX11_clear : ol_FE := ol_fe 2 bX11_clear
set_option maxRecDepth 20000 in
theorem imX11_clear (x : ol_X) (K : ol_K) : IM_S x K mX11_clear 0 0 bX11_clear := rs_seq (p2 := 5) (rs_setn (ri_f (rr_vn dX11_clear_0 rfl) gfX11_67 dX11_clear_1) dX11_clear_4 rfl (ol_ltn rfl)) (rs_seq (p2 := 10) (rs_pf (rr_vn dX11_clear_5 rfl) (ri_ic dX11_clear_6 (by unfold ol_inR; omega)) pfX11_67 rfl dX11_clear_7) (rs_ret (ri_vn dX11_clear_10 rfl) rfl dX11_clear_11))
theorem conX11_clear (l : Launch) (K : ol_K) : ol_Con l K yX11_clear mX11_clear fX11_clear := ol_con (M := mX11_clear) (by decide) rfl rfl (imX11_clear · K)
theorem dX11_here_0 : decode cX11_here 0 = .ok (.aload_n 0, 1) := by decide +kernel
theorem dX11_here_1 : decode cX11_here 1 = .ok (.getfield 73, 3) := by decide +kernel
theorem dX11_here_4 : decode cX11_here 4 = .ok (.aload_n 0, 1) := by decide +kernel
theorem dX11_here_5 : decode cX11_here 5 = .ok (.getfield 67, 3) := by decide +kernel
theorem dX11_here_8 : decode cX11_here 8 = .ok (.if_icmp .ge 19, 3) := by decide +kernel
theorem dX11_here_11 : decode cX11_here 11 = .ok (.aload_n 0, 1) := by decide +kernel
theorem dX11_here_12 : decode cX11_here 12 = .ok (.getfield 7, 3) := by decide +kernel
theorem dX11_here_15 : decode cX11_here 15 = .ok (.aload_n 0, 1) := by decide +kernel
theorem dX11_here_16 : decode cX11_here 16 = .ok (.getfield 73, 3) := by decide +kernel
theorem dX11_here_19 : decode cX11_here 19 = .ok (.baload, 1) := by decide +kernel
theorem dX11_here_20 : decode cX11_here 20 = .ok (.sipush 255, 3) := by decide +kernel
theorem dX11_here_23 : decode cX11_here 23 = .ok (.iand, 1) := by decide +kernel
theorem dX11_here_24 : decode cX11_here 24 = .ok (.goto 4, 3) := by decide +kernel
theorem dX11_here_27 : decode cX11_here 27 = .ok (.iconst (-1), 1) := by decide +kernel
theorem dX11_here_28 : decode cX11_here 28 = .ok (.ireturn, 1) := by decide +kernel
def bX11_here : ol_SE := es_ret (ei_if (ec_2 ol_lt (ei_f 11 5 (er_v 0)) (ei_f 11 2 (er_v 0))) (ei_2 ol_and (ei_a 101 (er_f 11 1 (er_v 0)) (ei_f 11 5 (er_v 0))) (ei_c 255)) (ei_c (-1)))
def fX11_here : ol_FE := ol_fe 1 bX11_here
set_option maxRecDepth 20000 in
theorem imX11_here (x : ol_X) (K : ol_K) : IM_S x K mX11_here 0 0 bX11_here := rs_ret (ri_if (pT := 11) (pF := 27) (p3 := 28) (rc_2F (pF := 27) ol_j2_ge_F (ri_f (rr_vn dX11_here_0 rfl) gfX11_73 dX11_here_1) (ri_f (rr_vn dX11_here_4 rfl) gfX11_67 dX11_here_5) dX11_here_8 (by decide)) (ri_2 ol_op_and (ri_ba (rr_f (rr_vn dX11_here_11 rfl) gfX11_7 dX11_here_12) (ri_f (rr_vn dX11_here_15 rfl) gfX11_73 dX11_here_16) rfl dX11_here_19) (ri_si dX11_here_20 (by unfold ol_inR; omega) (by decide)) dX11_here_23) dX11_here_24 (by decide) (ri_ic dX11_here_27 (by unfold ol_inR; omega))) rfl dX11_here_28
theorem conX11_here (l : Launch) (K : ol_K) : ol_Con l K yX11_here mX11_here fX11_here := ol_con (M := mX11_here) (by decide) rfl rfl (imX11_here · K)
theorem dX11_copy_0 : decode cX11_copy 0 = .ok (.iconst 0, 1) := by decide +kernel
theorem dX11_copy_1 : decode cX11_copy 1 = .ok (.istore_n 3, 1) := by decide +kernel
theorem dX11_copy_2 : decode cX11_copy 2 = .ok (.iload_n 3, 1) := by decide +kernel
theorem dX11_copy_3 : decode cX11_copy 3 = .ok (.sipush 780, 3) := by decide +kernel
theorem dX11_copy_6 : decode cX11_copy 6 = .ok (.if_icmp .ge 25, 3) := by decide +kernel
theorem dX11_copy_9 : decode cX11_copy 9 = .ok (.aload_n 0, 1) := by decide +kernel
theorem dX11_copy_10 : decode cX11_copy 10 = .ok (.getfield 13, 3) := by decide +kernel
theorem dX11_copy_13 : decode cX11_copy 13 = .ok (.iload_n 2, 1) := by decide +kernel
theorem dX11_copy_14 : decode cX11_copy 14 = .ok (.iload_n 3, 1) := by decide +kernel
theorem dX11_copy_15 : decode cX11_copy 15 = .ok (.iadd, 1) := by decide +kernel
theorem dX11_copy_16 : decode cX11_copy 16 = .ok (.aload_n 0, 1) := by decide +kernel
theorem dX11_copy_17 : decode cX11_copy 17 = .ok (.getfield 13, 3) := by decide +kernel
theorem dX11_copy_20 : decode cX11_copy 20 = .ok (.iload_n 1, 1) := by decide +kernel
theorem dX11_copy_21 : decode cX11_copy 21 = .ok (.iload_n 3, 1) := by decide +kernel
theorem dX11_copy_22 : decode cX11_copy 22 = .ok (.iadd, 1) := by decide +kernel
theorem dX11_copy_23 : decode cX11_copy 23 = .ok (.iaload, 1) := by decide +kernel
theorem dX11_copy_24 : decode cX11_copy 24 = .ok (.iastore, 1) := by decide +kernel
theorem dX11_copy_25 : decode cX11_copy 25 = .ok (.iinc 3 1, 3) := by decide +kernel
theorem dX11_copy_28 : decode cX11_copy 28 = .ok (.goto (-26), 3) := by decide +kernel
theorem dX11_copy_31 : decode cX11_copy 31 = .ok (.return_, 1) := by decide +kernel
def bX11_copy : ol_SE := es_seq (es_seq (es_set 3 (ei_c 0)) (es_wh (ec_2 ol_lt (ei_v 3) (ei_c 780)) (es_seq (es_as 100 (er_f 11 3 (er_v 0)) (ei_2 ol_add (ei_v 2) (ei_v 3)) (ei_a 100 (er_f 11 3 (er_v 0)) (ei_2 ol_add (ei_v 1) (ei_v 3)))) (es_inc 3 1)))) (es_retv)
def fX11_copy : ol_FE := ol_fe 4 bX11_copy
set_option maxRecDepth 20000 in
theorem imX11_copy (x : ol_X) (K : ol_K) : IM_S x K mX11_copy 0 0 bX11_copy := rs_seq (p2 := 31) (rs_seq (p2 := 2) (rs_setn (ri_ic dX11_copy_0 (by unfold ol_inR; omega)) dX11_copy_1 rfl (ol_ltn rfl)) (rs_wh (pH := 2) (pB := 9) (pE := 31) (pG := 28) (rc_2F (pF := 31) ol_j2_ge_F (ri_vn dX11_copy_2 rfl) (ri_si dX11_copy_3 (by unfold ol_inR; omega) (by decide)) dX11_copy_6 (by decide)) (rs_seq (p2 := 25) (rs_as (rr_f (rr_vn dX11_copy_9 rfl) gfX11_13 dX11_copy_10) (ri_2 ol_op_add (ri_vn dX11_copy_13 rfl) (ri_vn dX11_copy_14 rfl) dX11_copy_15) (ri_a (rr_f (rr_vn dX11_copy_16 rfl) gfX11_13 dX11_copy_17) (ri_2 ol_op_add (ri_vn dX11_copy_20 rfl) (ri_vn dX11_copy_21 rfl) dX11_copy_22) rfl dX11_copy_23) dX11_copy_24) (rs_inc dX11_copy_25 (ol_ltn rfl))) dX11_copy_28 (by decide))) (rs_retv rfl dX11_copy_31)
theorem conX11_copy (l : Launch) (K : ol_K) : ol_Con l K yX11_copy mX11_copy fX11_copy := ol_con (M := mX11_copy) (by decide) rfl rfl (imX11_copy · K)
theorem dX11_allDrops_0 : decode cX11_allDrops 0 = .ok (.iconst 0, 1) := by decide +kernel
theorem dX11_allDrops_1 : decode cX11_allDrops 1 = .ok (.istore_n 1, 1) := by decide +kernel
theorem dX11_allDrops_2 : decode cX11_allDrops 2 = .ok (.iconst 0, 1) := by decide +kernel
theorem dX11_allDrops_3 : decode cX11_allDrops 3 = .ok (.istore_n 2, 1) := by decide +kernel
theorem dX11_allDrops_4 : decode cX11_allDrops 4 = .ok (.iload_n 2, 1) := by decide +kernel
theorem dX11_allDrops_5 : decode cX11_allDrops 5 = .ok (.sipush 780, 3) := by decide +kernel
theorem dX11_allDrops_8 : decode cX11_allDrops 8 = .ok (.if_icmp .ge 18, 3) := by decide +kernel
theorem dX11_allDrops_11 : decode cX11_allDrops 11 = .ok (.iload_n 1, 1) := by decide +kernel
theorem dX11_allDrops_12 : decode cX11_allDrops 12 = .ok (.aload_n 0, 1) := by decide +kernel
theorem dX11_allDrops_13 : decode cX11_allDrops 13 = .ok (.getfield 13, 3) := by decide +kernel
theorem dX11_allDrops_16 : decode cX11_allDrops 16 = .ok (.iload_n 2, 1) := by decide +kernel
theorem dX11_allDrops_17 : decode cX11_allDrops 17 = .ok (.iaload, 1) := by decide +kernel
theorem dX11_allDrops_18 : decode cX11_allDrops 18 = .ok (.iadd, 1) := by decide +kernel
theorem dX11_allDrops_19 : decode cX11_allDrops 19 = .ok (.istore_n 1, 1) := by decide +kernel
theorem dX11_allDrops_20 : decode cX11_allDrops 20 = .ok (.iinc 2 1, 3) := by decide +kernel
theorem dX11_allDrops_23 : decode cX11_allDrops 23 = .ok (.goto (-19), 3) := by decide +kernel
theorem dX11_allDrops_26 : decode cX11_allDrops 26 = .ok (.iload_n 1, 1) := by decide +kernel
theorem dX11_allDrops_27 : decode cX11_allDrops 27 = .ok (.ireturn, 1) := by decide +kernel
def bX11_allDrops : ol_SE := es_seq (es_set 1 (ei_c 0)) (es_seq (es_seq (es_set 2 (ei_c 0)) (es_wh (ec_2 ol_lt (ei_v 2) (ei_c 780)) (es_seq (es_set 1 (ei_2 ol_add (ei_v 1) (ei_a 100 (er_f 11 3 (er_v 0)) (ei_v 2)))) (es_inc 2 1)))) (es_ret (ei_v 1)))
def fX11_allDrops : ol_FE := ol_fe 3 bX11_allDrops
set_option maxRecDepth 20000 in
theorem imX11_allDrops (x : ol_X) (K : ol_K) : IM_S x K mX11_allDrops 0 0 bX11_allDrops := rs_seq (p2 := 2) (rs_setn (ri_ic dX11_allDrops_0 (by unfold ol_inR; omega)) dX11_allDrops_1 rfl (ol_ltn rfl)) (rs_seq (p2 := 26) (rs_seq (p2 := 4) (rs_setn (ri_ic dX11_allDrops_2 (by unfold ol_inR; omega)) dX11_allDrops_3 rfl (ol_ltn rfl)) (rs_wh (pH := 4) (pB := 11) (pE := 26) (pG := 23) (rc_2F (pF := 26) ol_j2_ge_F (ri_vn dX11_allDrops_4 rfl) (ri_si dX11_allDrops_5 (by unfold ol_inR; omega) (by decide)) dX11_allDrops_8 (by decide)) (rs_seq (p2 := 20) (rs_setn (ri_2 ol_op_add (ri_vn dX11_allDrops_11 rfl) (ri_a (rr_f (rr_vn dX11_allDrops_12 rfl) gfX11_13 dX11_allDrops_13) (ri_vn dX11_allDrops_16 rfl) rfl dX11_allDrops_17) dX11_allDrops_18) dX11_allDrops_19 rfl (ol_ltn rfl)) (rs_inc dX11_allDrops_20 (ol_ltn rfl))) dX11_allDrops_23 (by decide))) (rs_ret (ri_vn dX11_allDrops_26 rfl) rfl dX11_allDrops_27))
theorem conX11_allDrops (l : Launch) (K : ol_K) : ol_Con l K yX11_allDrops mX11_allDrops fX11_allDrops := ol_con (M := mX11_allDrops) (by decide) rfl rfl (imX11_allDrops · K)
theorem dX11_isTold_0 : decode cX11_isTold 0 = .ok (.aload_n 0, 1) := by decide +kernel
theorem dX11_isTold_1 : decode cX11_isTold 1 = .ok (.getfield 112, 3) := by decide +kernel
theorem dX11_isTold_4 : decode cX11_isTold 4 = .ok (.iload_n 1, 1) := by decide +kernel
theorem dX11_isTold_5 : decode cX11_isTold 5 = .ok (.ishr, 1) := by decide +kernel
theorem dX11_isTold_6 : decode cX11_isTold 6 = .ok (.iconst 1, 1) := by decide +kernel
theorem dX11_isTold_7 : decode cX11_isTold 7 = .ok (.iand, 1) := by decide +kernel
theorem dX11_isTold_8 : decode cX11_isTold 8 = .ok (.iconst 1, 1) := by decide +kernel
theorem dX11_isTold_9 : decode cX11_isTold 9 = .ok (.if_icmp .ne 7, 3) := by decide +kernel
theorem dX11_isTold_12 : decode cX11_isTold 12 = .ok (.iconst 1, 1) := by decide +kernel
theorem dX11_isTold_13 : decode cX11_isTold 13 = .ok (.goto 4, 3) := by decide +kernel
theorem dX11_isTold_16 : decode cX11_isTold 16 = .ok (.iconst 0, 1) := by decide +kernel
theorem dX11_isTold_17 : decode cX11_isTold 17 = .ok (.ireturn, 1) := by decide +kernel
def bX11_isTold : ol_SE := es_retz (ei_if (ec_2 ol_eq (ei_2 ol_and (ei_2 ol_shr (ei_f 11 4 (er_v 0)) (ei_v 1)) (ei_c 1)) (ei_c 1)) (ei_c 1) (ei_c 0))
def fX11_isTold : ol_FE := ol_fe 2 bX11_isTold
set_option maxRecDepth 20000 in
theorem imX11_isTold (x : ol_X) (K : ol_K) : IM_S x K mX11_isTold 0 0 bX11_isTold := rs_retz (ri_if (pT := 12) (pF := 16) (p3 := 17) (rc_2F (pF := 16) ol_j2_ne_F (ri_2 ol_op_and (ri_2 ol_op_shr (ri_f (rr_vn dX11_isTold_0 rfl) gfX11_112 dX11_isTold_1) (ri_vn dX11_isTold_4 rfl) dX11_isTold_5) (ri_ic dX11_isTold_6 (by unfold ol_inR; omega)) dX11_isTold_7) (ri_ic dX11_isTold_8 (by unfold ol_inR; omega)) dX11_isTold_9 (by decide)) (ri_ic dX11_isTold_12 (by unfold ol_inR; omega)) dX11_isTold_13 (by decide) (ri_ic dX11_isTold_16 (by unfold ol_inR; omega))) rfl dX11_isTold_17
theorem conX11_isTold (l : Launch) (K : ol_K) : ol_Con l K yX11_isTold mX11_isTold fX11_isTold := ol_con (M := mX11_isTold) (by decide) rfl rfl (imX11_isTold · K)
theorem dX11_hitNext_0 : decode cX11_hitNext 0 = .ok (.iconst 0, 1) := by decide +kernel
theorem dX11_hitNext_1 : decode cX11_hitNext 1 = .ok (.istore_n 2, 1) := by decide +kernel
theorem dX11_hitNext_2 : decode cX11_hitNext 2 = .ok (.iload_n 2, 1) := by decide +kernel
theorem dX11_hitNext_3 : decode cX11_hitNext 3 = .ok (.bipush 10, 2) := by decide +kernel
theorem dX11_hitNext_5 : decode cX11_hitNext 5 = .ok (.if_icmp .ge 140, 3) := by decide +kernel
theorem dX11_hitNext_8 : decode cX11_hitNext 8 = .ok (.aload_n 0, 1) := by decide +kernel
theorem dX11_hitNext_9 : decode cX11_hitNext 9 = .ok (.getfield 26, 3) := by decide +kernel
theorem dX11_hitNext_12 : decode cX11_hitNext 12 = .ok (.iload_n 2, 1) := by decide +kernel
theorem dX11_hitNext_13 : decode cX11_hitNext 13 = .ok (.iaload, 1) := by decide +kernel
theorem dX11_hitNext_14 : decode cX11_hitNext 14 = .ok (.aload_n 0, 1) := by decide +kernel
theorem dX11_hitNext_15 : decode cX11_hitNext 15 = .ok (.getfield 26, 3) := by decide +kernel
theorem dX11_hitNext_18 : decode cX11_hitNext 18 = .ok (.iload_n 1, 1) := by decide +kernel
theorem dX11_hitNext_19 : decode cX11_hitNext 19 = .ok (.iaload, 1) := by decide +kernel
theorem dX11_hitNext_20 : decode cX11_hitNext 20 = .ok (.isub, 1) := by decide +kernel
theorem dX11_hitNext_21 : decode cX11_hitNext 21 = .ok (.bipush 30, 2) := by decide +kernel
theorem dX11_hitNext_23 : decode cX11_hitNext 23 = .ok (.if_icmp .ne 18, 3) := by decide +kernel
theorem dX11_hitNext_26 : decode cX11_hitNext 26 = .ok (.aload_n 0, 1) := by decide +kernel
theorem dX11_hitNext_27 : decode cX11_hitNext 27 = .ok (.getfield 29, 3) := by decide +kernel
theorem dX11_hitNext_30 : decode cX11_hitNext 30 = .ok (.iload_n 1, 1) := by decide +kernel
theorem dX11_hitNext_31 : decode cX11_hitNext 31 = .ok (.iaload, 1) := by decide +kernel
theorem dX11_hitNext_32 : decode cX11_hitNext 32 = .ok (.bipush (-4), 2) := by decide +kernel
theorem dX11_hitNext_34 : decode cX11_hitNext 34 = .ok (.if_icmp .lt 7, 3) := by decide +kernel
theorem dX11_hitNext_37 : decode cX11_hitNext 37 = .ok (.iconst 1, 1) := by decide +kernel
theorem dX11_hitNext_38 : decode cX11_hitNext 38 = .ok (.goto 4, 3) := by decide +kernel
theorem dX11_hitNext_41 : decode cX11_hitNext 41 = .ok (.iconst 0, 1) := by decide +kernel
theorem dX11_hitNext_42 : decode cX11_hitNext 42 = .ok (.istore_n 3, 1) := by decide +kernel
theorem dX11_hitNext_43 : decode cX11_hitNext 43 = .ok (.aload_n 0, 1) := by decide +kernel
theorem dX11_hitNext_44 : decode cX11_hitNext 44 = .ok (.getfield 26, 3) := by decide +kernel
theorem dX11_hitNext_47 : decode cX11_hitNext 47 = .ok (.iload_n 1, 1) := by decide +kernel
theorem dX11_hitNext_48 : decode cX11_hitNext 48 = .ok (.iaload, 1) := by decide +kernel
theorem dX11_hitNext_49 : decode cX11_hitNext 49 = .ok (.aload_n 0, 1) := by decide +kernel
theorem dX11_hitNext_50 : decode cX11_hitNext 50 = .ok (.getfield 26, 3) := by decide +kernel
theorem dX11_hitNext_53 : decode cX11_hitNext 53 = .ok (.iload_n 2, 1) := by decide +kernel
theorem dX11_hitNext_54 : decode cX11_hitNext 54 = .ok (.iaload, 1) := by decide +kernel
theorem dX11_hitNext_55 : decode cX11_hitNext 55 = .ok (.isub, 1) := by decide +kernel
theorem dX11_hitNext_56 : decode cX11_hitNext 56 = .ok (.bipush 30, 2) := by decide +kernel
theorem dX11_hitNext_58 : decode cX11_hitNext 58 = .ok (.if_icmp .ne 17, 3) := by decide +kernel
theorem dX11_hitNext_61 : decode cX11_hitNext 61 = .ok (.aload_n 0, 1) := by decide +kernel
theorem dX11_hitNext_62 : decode cX11_hitNext 62 = .ok (.getfield 29, 3) := by decide +kernel
theorem dX11_hitNext_65 : decode cX11_hitNext 65 = .ok (.iload_n 1, 1) := by decide +kernel
theorem dX11_hitNext_66 : decode cX11_hitNext 66 = .ok (.iaload, 1) := by decide +kernel
theorem dX11_hitNext_67 : decode cX11_hitNext 67 = .ok (.iconst 4, 1) := by decide +kernel
theorem dX11_hitNext_68 : decode cX11_hitNext 68 = .ok (.if_icmp .gt 7, 3) := by decide +kernel
theorem dX11_hitNext_71 : decode cX11_hitNext 71 = .ok (.iconst 1, 1) := by decide +kernel
theorem dX11_hitNext_72 : decode cX11_hitNext 72 = .ok (.goto 4, 3) := by decide +kernel
theorem dX11_hitNext_75 : decode cX11_hitNext 75 = .ok (.iconst 0, 1) := by decide +kernel
theorem dX11_hitNext_76 : decode cX11_hitNext 76 = .ok (.istore 4, 2) := by decide +kernel
theorem dX11_hitNext_78 : decode cX11_hitNext 78 = .ok (.aload_n 0, 1) := by decide +kernel
theorem dX11_hitNext_79 : decode cX11_hitNext 79 = .ok (.getfield 23, 3) := by decide +kernel
theorem dX11_hitNext_82 : decode cX11_hitNext 82 = .ok (.iload_n 2, 1) := by decide +kernel
theorem dX11_hitNext_83 : decode cX11_hitNext 83 = .ok (.iaload, 1) := by decide +kernel
theorem dX11_hitNext_84 : decode cX11_hitNext 84 = .ok (.aload_n 0, 1) := by decide +kernel
theorem dX11_hitNext_85 : decode cX11_hitNext 85 = .ok (.getfield 23, 3) := by decide +kernel
theorem dX11_hitNext_88 : decode cX11_hitNext 88 = .ok (.iload_n 1, 1) := by decide +kernel
theorem dX11_hitNext_89 : decode cX11_hitNext 89 = .ok (.iaload, 1) := by decide +kernel
theorem dX11_hitNext_90 : decode cX11_hitNext 90 = .ok (.iconst 1, 1) := by decide +kernel
theorem dX11_hitNext_91 : decode cX11_hitNext 91 = .ok (.iadd, 1) := by decide +kernel
theorem dX11_hitNext_92 : decode cX11_hitNext 92 = .ok (.if_icmp .ne 47, 3) := by decide +kernel
theorem dX11_hitNext_95 : decode cX11_hitNext 95 = .ok (.iload_n 3, 1) := by decide +kernel
theorem dX11_hitNext_96 : decode cX11_hitNext 96 = .ok (.ifCond .ne 8, 3) := by decide +kernel
theorem dX11_hitNext_99 : decode cX11_hitNext 99 = .ok (.iload 4, 2) := by decide +kernel
theorem dX11_hitNext_101 : decode cX11_hitNext 101 = .ok (.ifCond .eq 38, 3) := by decide +kernel
theorem dX11_hitNext_104 : decode cX11_hitNext 104 = .ok (.aload_n 0, 1) := by decide +kernel
theorem dX11_hitNext_105 : decode cX11_hitNext 105 = .ok (.getfield 157, 3) := by decide +kernel
theorem dX11_hitNext_108 : decode cX11_hitNext 108 = .ok (.iload_n 2, 1) := by decide +kernel
theorem dX11_hitNext_109 : decode cX11_hitNext 109 = .ok (.ishr, 1) := by decide +kernel
theorem dX11_hitNext_110 : decode cX11_hitNext 110 = .ok (.iconst 1, 1) := by decide +kernel
theorem dX11_hitNext_111 : decode cX11_hitNext 111 = .ok (.iand, 1) := by decide +kernel
theorem dX11_hitNext_112 : decode cX11_hitNext 112 = .ok (.ifCond .ne 27, 3) := by decide +kernel
theorem dX11_hitNext_115 : decode cX11_hitNext 115 = .ok (.aload_n 0, 1) := by decide +kernel
theorem dX11_hitNext_116 : decode cX11_hitNext 116 = .ok (.dup, 1) := by decide +kernel
theorem dX11_hitNext_117 : decode cX11_hitNext 117 = .ok (.getfield 157, 3) := by decide +kernel
theorem dX11_hitNext_120 : decode cX11_hitNext 120 = .ok (.iconst 1, 1) := by decide +kernel
theorem dX11_hitNext_121 : decode cX11_hitNext 121 = .ok (.iload_n 2, 1) := by decide +kernel
theorem dX11_hitNext_122 : decode cX11_hitNext 122 = .ok (.ishl, 1) := by decide +kernel
theorem dX11_hitNext_123 : decode cX11_hitNext 123 = .ok (.ior, 1) := by decide +kernel
theorem dX11_hitNext_124 : decode cX11_hitNext 124 = .ok (.putfield 157, 3) := by decide +kernel
theorem dX11_hitNext_127 : decode cX11_hitNext 127 = .ok (.aload_n 0, 1) := by decide +kernel
theorem dX11_hitNext_128 : decode cX11_hitNext 128 = .ok (.getfield 29, 3) := by decide +kernel
theorem dX11_hitNext_131 : decode cX11_hitNext 131 = .ok (.iload_n 2, 1) := by decide +kernel
theorem dX11_hitNext_132 : decode cX11_hitNext 132 = .ok (.aload_n 0, 1) := by decide +kernel
theorem dX11_hitNext_133 : decode cX11_hitNext 133 = .ok (.getfield 29, 3) := by decide +kernel
theorem dX11_hitNext_136 : decode cX11_hitNext 136 = .ok (.iload_n 1, 1) := by decide +kernel
theorem dX11_hitNext_137 : decode cX11_hitNext 137 = .ok (.iaload, 1) := by decide +kernel
theorem dX11_hitNext_138 : decode cX11_hitNext 138 = .ok (.iastore, 1) := by decide +kernel
theorem dX11_hitNext_139 : decode cX11_hitNext 139 = .ok (.iinc 2 1, 3) := by decide +kernel
theorem dX11_hitNext_142 : decode cX11_hitNext 142 = .ok (.goto (-140), 3) := by decide +kernel
theorem dX11_hitNext_145 : decode cX11_hitNext 145 = .ok (.return_, 1) := by decide +kernel
def bX11_hitNext : ol_SE := es_seq (es_seq (es_set 2 (ei_c 0)) (es_wh (ec_2 ol_lt (ei_v 2) (ei_c 10)) (es_seq (es_seq (es_set 3 (ei_if (ec_and (ec_2 ol_eq (ei_2 ol_sub (ei_a 100 (er_f 11 21 (er_v 0)) (ei_v 2)) (ei_a 100 (er_f 11 21 (er_v 0)) (ei_v 1))) (ei_c 30)) (ec_2 ol_ge (ei_a 100 (er_f 11 22 (er_v 0)) (ei_v 1)) (ei_c (-4)))) (ei_c 1) (ei_c 0))) (es_seq (es_set 4 (ei_if (ec_and (ec_2 ol_eq (ei_2 ol_sub (ei_a 100 (er_f 11 21 (er_v 0)) (ei_v 1)) (ei_a 100 (er_f 11 21 (er_v 0)) (ei_v 2))) (ei_c 30)) (ec_2 ol_le (ei_a 100 (er_f 11 22 (er_v 0)) (ei_v 1)) (ei_c 4))) (ei_c 1) (ei_c 0))) (es_if (ec_and (ec_and (ec_2 ol_eq (ei_a 100 (er_f 11 20 (er_v 0)) (ei_v 2)) (ei_2 ol_add (ei_a 100 (er_f 11 20 (er_v 0)) (ei_v 1)) (ei_c 1))) (ec_or (ec_z ol_ne (ei_v 3)) (ec_z ol_ne (ei_v 4)))) (ec_z ol_eq (ei_2 ol_and (ei_2 ol_shr (ei_f 11 23 (er_v 0)) (ei_v 2)) (ei_c 1)))) (es_seq (es_uf 11 23 (er_v 0) ol_or (ei_2 ol_shl (ei_c 1) (ei_v 2))) (es_as 100 (er_f 11 22 (er_v 0)) (ei_v 2) (ei_a 100 (er_f 11 22 (er_v 0)) (ei_v 1)))) es_skip))) (es_inc 2 1)))) (es_retv)
def fX11_hitNext : ol_FE := ol_fe 5 bX11_hitNext
set_option maxRecDepth 20000 in
theorem imX11_hitNext (x : ol_X) (K : ol_K) : IM_S x K mX11_hitNext 0 0 bX11_hitNext := rs_seq (p2 := 145) (rs_seq (p2 := 2) (rs_setn (ri_ic dX11_hitNext_0 (by unfold ol_inR; omega)) dX11_hitNext_1 rfl (ol_ltn rfl)) (rs_wh (pH := 2) (pB := 8) (pE := 145) (pG := 142) (rc_2F (pF := 145) ol_j2_ge_F (ri_vn dX11_hitNext_2 rfl) (ri_bi dX11_hitNext_3 (by unfold ol_inR; omega) (by decide)) dX11_hitNext_5 (by decide)) (rs_seq (p2 := 139) (rs_seq (p2 := 43) (rs_setn (ri_if (pT := 37) (pF := 41) (p3 := 42) (rc_and (p2 := 26) (pT := 37) (pF := 41) (rc_2F (pF := 41) ol_j2_ne_F (ri_2 ol_op_sub (ri_a (rr_f (rr_vn dX11_hitNext_8 rfl) gfX11_26 dX11_hitNext_9) (ri_vn dX11_hitNext_12 rfl) rfl dX11_hitNext_13) (ri_a (rr_f (rr_vn dX11_hitNext_14 rfl) gfX11_26 dX11_hitNext_15) (ri_vn dX11_hitNext_18 rfl) rfl dX11_hitNext_19) dX11_hitNext_20) (ri_bi dX11_hitNext_21 (by unfold ol_inR; omega) (by decide)) dX11_hitNext_23 (by decide)) (rc_2F (pF := 41) ol_j2_lt_F (ri_a (rr_f (rr_vn dX11_hitNext_26 rfl) gfX11_29 dX11_hitNext_27) (ri_vn dX11_hitNext_30 rfl) rfl dX11_hitNext_31) (ri_bi dX11_hitNext_32 (by unfold ol_inR; omega) (by decide)) dX11_hitNext_34 (by decide))) (ri_ic dX11_hitNext_37 (by unfold ol_inR; omega)) dX11_hitNext_38 (by decide) (ri_ic dX11_hitNext_41 (by unfold ol_inR; omega))) dX11_hitNext_42 rfl (ol_ltn rfl)) (rs_seq (p2 := 78) (rs_set (ri_if (pT := 71) (pF := 75) (p3 := 76) (rc_and (p2 := 61) (pT := 71) (pF := 75) (rc_2F (pF := 75) ol_j2_ne_F (ri_2 ol_op_sub (ri_a (rr_f (rr_vn dX11_hitNext_43 rfl) gfX11_26 dX11_hitNext_44) (ri_vn dX11_hitNext_47 rfl) rfl dX11_hitNext_48) (ri_a (rr_f (rr_vn dX11_hitNext_49 rfl) gfX11_26 dX11_hitNext_50) (ri_vn dX11_hitNext_53 rfl) rfl dX11_hitNext_54) dX11_hitNext_55) (ri_bi dX11_hitNext_56 (by unfold ol_inR; omega) (by decide)) dX11_hitNext_58 (by decide)) (rc_2F (pF := 75) ol_j2_gt_F (ri_a (rr_f (rr_vn dX11_hitNext_61 rfl) gfX11_29 dX11_hitNext_62) (ri_vn dX11_hitNext_65 rfl) rfl dX11_hitNext_66) (ri_ic dX11_hitNext_67 (by unfold ol_inR; omega)) dX11_hitNext_68 (by decide))) (ri_ic dX11_hitNext_71 (by unfold ol_inR; omega)) dX11_hitNext_72 (by decide) (ri_ic dX11_hitNext_75 (by unfold ol_inR; omega))) dX11_hitNext_76 (ol_ltn rfl)) (rs_if (pT := 115) (pF := 139) (pE := 139) (rc_and (p2 := 104) (pT := 115) (pF := 139) (rc_and (p2 := 95) (pT := 104) (pF := 139) (rc_2F (pF := 139) ol_j2_ne_F (ri_a (rr_f (rr_vn dX11_hitNext_78 rfl) gfX11_23 dX11_hitNext_79) (ri_vn dX11_hitNext_82 rfl) rfl dX11_hitNext_83) (ri_2 ol_op_add (ri_a (rr_f (rr_vn dX11_hitNext_84 rfl) gfX11_23 dX11_hitNext_85) (ri_vn dX11_hitNext_88 rfl) rfl dX11_hitNext_89) (ri_ic dX11_hitNext_90 (by unfold ol_inR; omega)) dX11_hitNext_91) dX11_hitNext_92 (by decide)) (rc_or (p2 := 99) (pT := 104) (pF := 139) (rc_zT (pT := 104) ol_j1_ne_T (ri_vn dX11_hitNext_95 rfl) dX11_hitNext_96 (by decide)) (rc_zF (pF := 139) ol_j1_eq_F (ri_vi dX11_hitNext_99) dX11_hitNext_101 (by decide)))) (rc_zF (pF := 139) ol_j1_ne_F (ri_2 ol_op_and (ri_2 ol_op_shr (ri_f (rr_vn dX11_hitNext_104 rfl) gfX11_157 dX11_hitNext_105) (ri_vn dX11_hitNext_108 rfl) dX11_hitNext_109) (ri_ic dX11_hitNext_110 (by unfold ol_inR; omega)) dX11_hitNext_111) dX11_hitNext_112 (by decide))) (rs_seq (p2 := 127) (rs_uf ol_op_or (rr_vn dX11_hitNext_115 rfl) dX11_hitNext_116 dX11_hitNext_117 (ri_2 ol_op_shl (ri_ic dX11_hitNext_120 (by unfold ol_inR; omega)) (ri_vn dX11_hitNext_121 rfl) dX11_hitNext_122) dX11_hitNext_123 gfX11_157 pfX11_157 rfl dX11_hitNext_124) (rs_as (rr_f (rr_vn dX11_hitNext_127 rfl) gfX11_29 dX11_hitNext_128) (ri_vn dX11_hitNext_131 rfl) (ri_a (rr_f (rr_vn dX11_hitNext_132 rfl) gfX11_29 dX11_hitNext_133) (ri_vn dX11_hitNext_136 rfl) rfl dX11_hitNext_137) dX11_hitNext_138)) rs_skip))) (rs_inc dX11_hitNext_139 (ol_ltn rfl))) dX11_hitNext_142 (by decide))) (rs_retv rfl dX11_hitNext_145)
theorem conX11_hitNext (l : Launch) (K : ol_K) : ol_Con l K yX11_hitNext mX11_hitNext fX11_hitNext := ol_con (M := mX11_hitNext) (by decide) rfl rfl (imX11_hitNext · K)
theorem dX11_bitsIn_0 : decode cX11_bitsIn 0 = .ok (.iconst 0, 1) := by decide +kernel
theorem dX11_bitsIn_1 : decode cX11_bitsIn 1 = .ok (.istore_n 1, 1) := by decide +kernel
theorem dX11_bitsIn_2 : decode cX11_bitsIn 2 = .ok (.iconst 0, 1) := by decide +kernel
theorem dX11_bitsIn_3 : decode cX11_bitsIn 3 = .ok (.istore_n 2, 1) := by decide +kernel
theorem dX11_bitsIn_4 : decode cX11_bitsIn 4 = .ok (.iload_n 2, 1) := by decide +kernel
theorem dX11_bitsIn_5 : decode cX11_bitsIn 5 = .ok (.bipush 10, 2) := by decide +kernel
theorem dX11_bitsIn_7 : decode cX11_bitsIn 7 = .ok (.if_icmp .ge 17, 3) := by decide +kernel
theorem dX11_bitsIn_10 : decode cX11_bitsIn 10 = .ok (.iload_n 1, 1) := by decide +kernel
theorem dX11_bitsIn_11 : decode cX11_bitsIn 11 = .ok (.iload_n 0, 1) := by decide +kernel
theorem dX11_bitsIn_12 : decode cX11_bitsIn 12 = .ok (.iload_n 2, 1) := by decide +kernel
theorem dX11_bitsIn_13 : decode cX11_bitsIn 13 = .ok (.ishr, 1) := by decide +kernel
theorem dX11_bitsIn_14 : decode cX11_bitsIn 14 = .ok (.iconst 1, 1) := by decide +kernel
theorem dX11_bitsIn_15 : decode cX11_bitsIn 15 = .ok (.iand, 1) := by decide +kernel
theorem dX11_bitsIn_16 : decode cX11_bitsIn 16 = .ok (.iadd, 1) := by decide +kernel
theorem dX11_bitsIn_17 : decode cX11_bitsIn 17 = .ok (.istore_n 1, 1) := by decide +kernel
theorem dX11_bitsIn_18 : decode cX11_bitsIn 18 = .ok (.iinc 2 1, 3) := by decide +kernel
theorem dX11_bitsIn_21 : decode cX11_bitsIn 21 = .ok (.goto (-17), 3) := by decide +kernel
theorem dX11_bitsIn_24 : decode cX11_bitsIn 24 = .ok (.iload_n 1, 1) := by decide +kernel
theorem dX11_bitsIn_25 : decode cX11_bitsIn 25 = .ok (.ireturn, 1) := by decide +kernel
def bX11_bitsIn : ol_SE := es_seq (es_set 1 (ei_c 0)) (es_seq (es_seq (es_set 2 (ei_c 0)) (es_wh (ec_2 ol_lt (ei_v 2) (ei_c 10)) (es_seq (es_set 1 (ei_2 ol_add (ei_v 1) (ei_2 ol_and (ei_2 ol_shr (ei_v 0) (ei_v 2)) (ei_c 1)))) (es_inc 2 1)))) (es_ret (ei_v 1)))
def fX11_bitsIn : ol_FE := ol_fe 3 bX11_bitsIn
set_option maxRecDepth 20000 in
theorem imX11_bitsIn (x : ol_X) (K : ol_K) : IM_S x K mX11_bitsIn 0 0 bX11_bitsIn := rs_seq (p2 := 2) (rs_setn (ri_ic dX11_bitsIn_0 (by unfold ol_inR; omega)) dX11_bitsIn_1 rfl (ol_ltn rfl)) (rs_seq (p2 := 24) (rs_seq (p2 := 4) (rs_setn (ri_ic dX11_bitsIn_2 (by unfold ol_inR; omega)) dX11_bitsIn_3 rfl (ol_ltn rfl)) (rs_wh (pH := 4) (pB := 10) (pE := 24) (pG := 21) (rc_2F (pF := 24) ol_j2_ge_F (ri_vn dX11_bitsIn_4 rfl) (ri_bi dX11_bitsIn_5 (by unfold ol_inR; omega) (by decide)) dX11_bitsIn_7 (by decide)) (rs_seq (p2 := 18) (rs_setn (ri_2 ol_op_add (ri_vn dX11_bitsIn_10 rfl) (ri_2 ol_op_and (ri_2 ol_op_shr (ri_vn dX11_bitsIn_11 rfl) (ri_vn dX11_bitsIn_12 rfl) dX11_bitsIn_13) (ri_ic dX11_bitsIn_14 (by unfold ol_inR; omega)) dX11_bitsIn_15) dX11_bitsIn_16) dX11_bitsIn_17 rfl (ol_ltn rfl)) (rs_inc dX11_bitsIn_18 (ol_ltn rfl))) dX11_bitsIn_21 (by decide))) (rs_ret (ri_vn dX11_bitsIn_24 rfl) rfl dX11_bitsIn_25))
theorem conX11_bitsIn (l : Launch) (K : ol_K) : ol_Con l K yX11_bitsIn mX11_bitsIn fX11_bitsIn := ol_con (M := mX11_bitsIn) (by decide) rfl rfl (imX11_bitsIn · K)
theorem dX11_countTenth_0 : decode cX11_countTenth 0 = .ok (.iload_n 2, 1) := by decide +kernel
theorem dX11_countTenth_1 : decode cX11_countTenth 1 = .ok (.iload_n 1, 1) := by decide +kernel
theorem dX11_countTenth_2 : decode cX11_countTenth 2 = .ok (.isub, 1) := by decide +kernel
theorem dX11_countTenth_3 : decode cX11_countTenth 3 = .ok (.istore_n 3, 1) := by decide +kernel
theorem dX11_countTenth_4 : decode cX11_countTenth 4 = .ok (.iload_n 3, 1) := by decide +kernel
theorem dX11_countTenth_5 : decode cX11_countTenth 5 = .ok (.ifCond .le 12, 3) := by decide +kernel
theorem dX11_countTenth_8 : decode cX11_countTenth 8 = .ok (.aload_n 0, 1) := by decide +kernel
theorem dX11_countTenth_9 : decode cX11_countTenth 9 = .ok (.getfield 35, 3) := by decide +kernel
theorem dX11_countTenth_12 : decode cX11_countTenth 12 = .ok (.iload_n 1, 1) := by decide +kernel
theorem dX11_countTenth_13 : decode cX11_countTenth 13 = .ok (.iaload, 1) := by decide +kernel
theorem dX11_countTenth_14 : decode cX11_countTenth 14 = .ok (.goto 4, 3) := by decide +kernel
theorem dX11_countTenth_17 : decode cX11_countTenth 17 = .ok (.iconst 0, 1) := by decide +kernel
theorem dX11_countTenth_18 : decode cX11_countTenth 18 = .ok (.istore 4, 2) := by decide +kernel
theorem dX11_countTenth_20 : decode cX11_countTenth 20 = .ok (.iload_n 3, 1) := by decide +kernel
theorem dX11_countTenth_21 : decode cX11_countTenth 21 = .ok (.iconst 1, 1) := by decide +kernel
theorem dX11_countTenth_22 : decode cX11_countTenth 22 = .ok (.if_icmp .le 14, 3) := by decide +kernel
theorem dX11_countTenth_25 : decode cX11_countTenth 25 = .ok (.aload_n 0, 1) := by decide +kernel
theorem dX11_countTenth_26 : decode cX11_countTenth 26 = .ok (.getfield 35, 3) := by decide +kernel
theorem dX11_countTenth_29 : decode cX11_countTenth 29 = .ok (.iload_n 1, 1) := by decide +kernel
theorem dX11_countTenth_30 : decode cX11_countTenth 30 = .ok (.iconst 1, 1) := by decide +kernel
theorem dX11_countTenth_31 : decode cX11_countTenth 31 = .ok (.iadd, 1) := by decide +kernel
theorem dX11_countTenth_32 : decode cX11_countTenth 32 = .ok (.iaload, 1) := by decide +kernel
theorem dX11_countTenth_33 : decode cX11_countTenth 33 = .ok (.goto 4, 3) := by decide +kernel
theorem dX11_countTenth_36 : decode cX11_countTenth 36 = .ok (.iconst 0, 1) := by decide +kernel
theorem dX11_countTenth_37 : decode cX11_countTenth 37 = .ok (.istore 5, 2) := by decide +kernel
theorem dX11_countTenth_39 : decode cX11_countTenth 39 = .ok (.iload_n 3, 1) := by decide +kernel
theorem dX11_countTenth_40 : decode cX11_countTenth 40 = .ok (.iconst 2, 1) := by decide +kernel
theorem dX11_countTenth_41 : decode cX11_countTenth 41 = .ok (.if_icmp .le 14, 3) := by decide +kernel
theorem dX11_countTenth_44 : decode cX11_countTenth 44 = .ok (.aload_n 0, 1) := by decide +kernel
theorem dX11_countTenth_45 : decode cX11_countTenth 45 = .ok (.getfield 35, 3) := by decide +kernel
theorem dX11_countTenth_48 : decode cX11_countTenth 48 = .ok (.iload_n 1, 1) := by decide +kernel
theorem dX11_countTenth_49 : decode cX11_countTenth 49 = .ok (.iconst 2, 1) := by decide +kernel
theorem dX11_countTenth_50 : decode cX11_countTenth 50 = .ok (.iadd, 1) := by decide +kernel
theorem dX11_countTenth_51 : decode cX11_countTenth 51 = .ok (.iaload, 1) := by decide +kernel
theorem dX11_countTenth_52 : decode cX11_countTenth 52 = .ok (.goto 4, 3) := by decide +kernel
theorem dX11_countTenth_55 : decode cX11_countTenth 55 = .ok (.iconst 0, 1) := by decide +kernel
theorem dX11_countTenth_56 : decode cX11_countTenth 56 = .ok (.istore 6, 2) := by decide +kernel
theorem dX11_countTenth_58 : decode cX11_countTenth 58 = .ok (.iload 4, 2) := by decide +kernel
theorem dX11_countTenth_60 : decode cX11_countTenth 60 = .ok (.bipush 10, 2) := by decide +kernel
theorem dX11_countTenth_62 : decode cX11_countTenth 62 = .ok (.if_icmp .eq 18, 3) := by decide +kernel
theorem dX11_countTenth_65 : decode cX11_countTenth 65 = .ok (.iload_n 3, 1) := by decide +kernel
theorem dX11_countTenth_66 : decode cX11_countTenth 66 = .ok (.iconst 1, 1) := by decide +kernel
theorem dX11_countTenth_67 : decode cX11_countTenth 67 = .ok (.if_icmp .le 17, 3) := by decide +kernel
theorem dX11_countTenth_70 : decode cX11_countTenth 70 = .ok (.iload 4, 2) := by decide +kernel
theorem dX11_countTenth_72 : decode cX11_countTenth 72 = .ok (.iload 5, 2) := by decide +kernel
theorem dX11_countTenth_74 : decode cX11_countTenth 74 = .ok (.iadd, 1) := by decide +kernel
theorem dX11_countTenth_75 : decode cX11_countTenth 75 = .ok (.bipush 10, 2) := by decide +kernel
theorem dX11_countTenth_77 : decode cX11_countTenth 77 = .ok (.if_icmp .ne 7, 3) := by decide +kernel
theorem dX11_countTenth_80 : decode cX11_countTenth 80 = .ok (.iconst 1, 1) := by decide +kernel
theorem dX11_countTenth_81 : decode cX11_countTenth 81 = .ok (.goto 4, 3) := by decide +kernel
theorem dX11_countTenth_84 : decode cX11_countTenth 84 = .ok (.iconst 0, 1) := by decide +kernel
theorem dX11_countTenth_85 : decode cX11_countTenth 85 = .ok (.istore 7, 2) := by decide +kernel
theorem dX11_countTenth_87 : decode cX11_countTenth 87 = .ok (.iload_n 3, 1) := by decide +kernel
theorem dX11_countTenth_88 : decode cX11_countTenth 88 = .ok (.ifCond .ne 12, 3) := by decide +kernel
theorem dX11_countTenth_91 : decode cX11_countTenth 91 = .ok (.aload_n 0, 1) := by decide +kernel
theorem dX11_countTenth_92 : decode cX11_countTenth 92 = .ok (.bipush 10, 2) := by decide +kernel
theorem dX11_countTenth_94 : decode cX11_countTenth 94 = .ok (.putfield 197, 3) := by decide +kernel
theorem dX11_countTenth_97 : decode cX11_countTenth 97 = .ok (.goto 102, 3) := by decide +kernel
theorem dX11_countTenth_100 : decode cX11_countTenth 100 = .ok (.iload_n 3, 1) := by decide +kernel
theorem dX11_countTenth_101 : decode cX11_countTenth 101 = .ok (.iconst 1, 1) := by decide +kernel
theorem dX11_countTenth_102 : decode cX11_countTenth 102 = .ok (.if_icmp .ne 27, 3) := by decide +kernel
theorem dX11_countTenth_105 : decode cX11_countTenth 105 = .ok (.aload_n 0, 1) := by decide +kernel
theorem dX11_countTenth_106 : decode cX11_countTenth 106 = .ok (.iload 4, 2) := by decide +kernel
theorem dX11_countTenth_108 : decode cX11_countTenth 108 = .ok (.bipush 10, 2) := by decide +kernel
theorem dX11_countTenth_110 : decode cX11_countTenth 110 = .ok (.if_icmp .ne 8, 3) := by decide +kernel
theorem dX11_countTenth_113 : decode cX11_countTenth 113 = .ok (.bipush 10, 2) := by decide +kernel
theorem dX11_countTenth_115 : decode cX11_countTenth 115 = .ok (.goto 8, 3) := by decide +kernel
theorem dX11_countTenth_118 : decode cX11_countTenth 118 = .ok (.bipush 10, 2) := by decide +kernel
theorem dX11_countTenth_120 : decode cX11_countTenth 120 = .ok (.iload 4, 2) := by decide +kernel
theorem dX11_countTenth_122 : decode cX11_countTenth 122 = .ok (.isub, 1) := by decide +kernel
theorem dX11_countTenth_123 : decode cX11_countTenth 123 = .ok (.putfield 197, 3) := by decide +kernel
theorem dX11_countTenth_126 : decode cX11_countTenth 126 = .ok (.goto 73, 3) := by decide +kernel
theorem dX11_countTenth_129 : decode cX11_countTenth 129 = .ok (.iload_n 3, 1) := by decide +kernel
theorem dX11_countTenth_130 : decode cX11_countTenth 130 = .ok (.iconst 2, 1) := by decide +kernel
theorem dX11_countTenth_131 : decode cX11_countTenth 131 = .ok (.if_icmp .ne 39, 3) := by decide +kernel
theorem dX11_countTenth_134 : decode cX11_countTenth 134 = .ok (.iload 7, 2) := by decide +kernel
theorem dX11_countTenth_136 : decode cX11_countTenth 136 = .ok (.ifCond .eq 34, 3) := by decide +kernel
theorem dX11_countTenth_139 : decode cX11_countTenth 139 = .ok (.aload_n 0, 1) := by decide +kernel
theorem dX11_countTenth_140 : decode cX11_countTenth 140 = .ok (.iload 4, 2) := by decide +kernel
theorem dX11_countTenth_142 : decode cX11_countTenth 142 = .ok (.bipush 10, 2) := by decide +kernel
theorem dX11_countTenth_144 : decode cX11_countTenth 144 = .ok (.if_icmp .ne 18, 3) := by decide +kernel
theorem dX11_countTenth_147 : decode cX11_countTenth 147 = .ok (.iload 5, 2) := by decide +kernel
theorem dX11_countTenth_149 : decode cX11_countTenth 149 = .ok (.bipush 10, 2) := by decide +kernel
theorem dX11_countTenth_151 : decode cX11_countTenth 151 = .ok (.if_icmp .ge 11, 3) := by decide +kernel
theorem dX11_countTenth_154 : decode cX11_countTenth 154 = .ok (.bipush 10, 2) := by decide +kernel
theorem dX11_countTenth_156 : decode cX11_countTenth 156 = .ok (.iload 5, 2) := by decide +kernel
theorem dX11_countTenth_158 : decode cX11_countTenth 158 = .ok (.isub, 1) := by decide +kernel
theorem dX11_countTenth_159 : decode cX11_countTenth 159 = .ok (.goto 5, 3) := by decide +kernel
theorem dX11_countTenth_162 : decode cX11_countTenth 162 = .ok (.bipush 10, 2) := by decide +kernel
theorem dX11_countTenth_164 : decode cX11_countTenth 164 = .ok (.putfield 197, 3) := by decide +kernel
theorem dX11_countTenth_167 : decode cX11_countTenth 167 = .ok (.goto 32, 3) := by decide +kernel
theorem dX11_countTenth_170 : decode cX11_countTenth 170 = .ok (.aload_n 0, 1) := by decide +kernel
theorem dX11_countTenth_171 : decode cX11_countTenth 171 = .ok (.bipush (-9), 2) := by decide +kernel
theorem dX11_countTenth_173 : decode cX11_countTenth 173 = .ok (.putfield 197, 3) := by decide +kernel
theorem dX11_countTenth_176 : decode cX11_countTenth 176 = .ok (.aload_n 0, 1) := by decide +kernel
theorem dX11_countTenth_177 : decode cX11_countTenth 177 = .ok (.bipush 10, 2) := by decide +kernel
theorem dX11_countTenth_179 : decode cX11_countTenth 179 = .ok (.putfield 191, 3) := by decide +kernel
theorem dX11_countTenth_182 : decode cX11_countTenth 182 = .ok (.aload_n 0, 1) := by decide +kernel
theorem dX11_countTenth_183 : decode cX11_countTenth 183 = .ok (.dup, 1) := by decide +kernel
theorem dX11_countTenth_184 : decode cX11_countTenth 184 = .ok (.getfield 194, 3) := by decide +kernel
theorem dX11_countTenth_187 : decode cX11_countTenth 187 = .ok (.iload 4, 2) := by decide +kernel
theorem dX11_countTenth_189 : decode cX11_countTenth 189 = .ok (.iload 5, 2) := by decide +kernel
theorem dX11_countTenth_191 : decode cX11_countTenth 191 = .ok (.iadd, 1) := by decide +kernel
theorem dX11_countTenth_192 : decode cX11_countTenth 192 = .ok (.iload 6, 2) := by decide +kernel
theorem dX11_countTenth_194 : decode cX11_countTenth 194 = .ok (.iadd, 1) := by decide +kernel
theorem dX11_countTenth_195 : decode cX11_countTenth 195 = .ok (.iadd, 1) := by decide +kernel
theorem dX11_countTenth_196 : decode cX11_countTenth 196 = .ok (.putfield 194, 3) := by decide +kernel
theorem dX11_countTenth_199 : decode cX11_countTenth 199 = .ok (.return_, 1) := by decide +kernel
def bX11_countTenth : ol_SE := es_seq (es_set 3 (ei_2 ol_sub (ei_v 2) (ei_v 1))) (es_seq (es_set 4 (ei_if (ec_z ol_gt (ei_v 3)) (ei_a 100 (er_f 11 27 (er_v 0)) (ei_v 1)) (ei_c 0))) (es_seq (es_set 5 (ei_if (ec_2 ol_gt (ei_v 3) (ei_c 1)) (ei_a 100 (er_f 11 27 (er_v 0)) (ei_2 ol_add (ei_v 1) (ei_c 1))) (ei_c 0))) (es_seq (es_set 6 (ei_if (ec_2 ol_gt (ei_v 3) (ei_c 2)) (ei_a 100 (er_f 11 27 (er_v 0)) (ei_2 ol_add (ei_v 1) (ei_c 2))) (ei_c 0))) (es_seq (es_set 7 (ei_if (ec_or (ec_2 ol_eq (ei_v 4) (ei_c 10)) (ec_and (ec_2 ol_gt (ei_v 3) (ei_c 1)) (ec_2 ol_eq (ei_2 ol_add (ei_v 4) (ei_v 5)) (ei_c 10)))) (ei_c 1) (ei_c 0))) (es_seq (es_if (ec_z ol_eq (ei_v 3)) (es_pf 11 31 (er_v 0) (ei_c 10)) (es_if (ec_2 ol_eq (ei_v 3) (ei_c 1)) (es_pf 11 31 (er_v 0) (ei_if (ec_2 ol_eq (ei_v 4) (ei_c 10)) (ei_c 10) (ei_2 ol_sub (ei_c 10) (ei_v 4)))) (es_if (ec_and (ec_2 ol_eq (ei_v 3) (ei_c 2)) (ec_z ol_ne (ei_v 7))) (es_pf 11 31 (er_v 0) (ei_if (ec_and (ec_2 ol_eq (ei_v 4) (ei_c 10)) (ec_2 ol_lt (ei_v 5) (ei_c 10))) (ei_2 ol_sub (ei_c 10) (ei_v 5)) (ei_c 10))) (es_seq (es_pf 11 31 (er_v 0) (ei_c (-9))) (es_seq (es_pf 11 29 (er_v 0) (ei_c 10)) (es_uf 11 30 (er_v 0) ol_add (ei_2 ol_add (ei_2 ol_add (ei_v 4) (ei_v 5)) (ei_v 6)))))))) (es_retv))))))
def fX11_countTenth : ol_FE := ol_fe 8 bX11_countTenth
set_option maxRecDepth 20000 in
theorem imX11_countTenth (x : ol_X) (K : ol_K) : IM_S x K mX11_countTenth 0 0 bX11_countTenth := rs_seq (p2 := 4) (rs_setn (ri_2 ol_op_sub (ri_vn dX11_countTenth_0 rfl) (ri_vn dX11_countTenth_1 rfl) dX11_countTenth_2) dX11_countTenth_3 rfl (ol_ltn rfl)) (rs_seq (p2 := 20) (rs_set (ri_if (pT := 8) (pF := 17) (p3 := 18) (rc_zF (pF := 17) ol_j1_le_F (ri_vn dX11_countTenth_4 rfl) dX11_countTenth_5 (by decide)) (ri_a (rr_f (rr_vn dX11_countTenth_8 rfl) gfX11_35 dX11_countTenth_9) (ri_vn dX11_countTenth_12 rfl) rfl dX11_countTenth_13) dX11_countTenth_14 (by decide) (ri_ic dX11_countTenth_17 (by unfold ol_inR; omega))) dX11_countTenth_18 (ol_ltn rfl)) (rs_seq (p2 := 39) (rs_set (ri_if (pT := 25) (pF := 36) (p3 := 37) (rc_2F (pF := 36) ol_j2_le_F (ri_vn dX11_countTenth_20 rfl) (ri_ic dX11_countTenth_21 (by unfold ol_inR; omega)) dX11_countTenth_22 (by decide)) (ri_a (rr_f (rr_vn dX11_countTenth_25 rfl) gfX11_35 dX11_countTenth_26) (ri_2 ol_op_add (ri_vn dX11_countTenth_29 rfl) (ri_ic dX11_countTenth_30 (by unfold ol_inR; omega)) dX11_countTenth_31) rfl dX11_countTenth_32) dX11_countTenth_33 (by decide) (ri_ic dX11_countTenth_36 (by unfold ol_inR; omega))) dX11_countTenth_37 (ol_ltn rfl)) (rs_seq (p2 := 58) (rs_set (ri_if (pT := 44) (pF := 55) (p3 := 56) (rc_2F (pF := 55) ol_j2_le_F (ri_vn dX11_countTenth_39 rfl) (ri_ic dX11_countTenth_40 (by unfold ol_inR; omega)) dX11_countTenth_41 (by decide)) (ri_a (rr_f (rr_vn dX11_countTenth_44 rfl) gfX11_35 dX11_countTenth_45) (ri_2 ol_op_add (ri_vn dX11_countTenth_48 rfl) (ri_ic dX11_countTenth_49 (by unfold ol_inR; omega)) dX11_countTenth_50) rfl dX11_countTenth_51) dX11_countTenth_52 (by decide) (ri_ic dX11_countTenth_55 (by unfold ol_inR; omega))) dX11_countTenth_56 (ol_ltn rfl)) (rs_seq (p2 := 87) (rs_set (ri_if (pT := 80) (pF := 84) (p3 := 85) (rc_or (p2 := 65) (pT := 80) (pF := 84) (rc_2T (pT := 80) ol_j2_eq_T (ri_vi dX11_countTenth_58) (ri_bi dX11_countTenth_60 (by unfold ol_inR; omega) (by decide)) dX11_countTenth_62 (by decide)) (rc_and (p2 := 70) (pT := 80) (pF := 84) (rc_2F (pF := 84) ol_j2_le_F (ri_vn dX11_countTenth_65 rfl) (ri_ic dX11_countTenth_66 (by unfold ol_inR; omega)) dX11_countTenth_67 (by decide)) (rc_2F (pF := 84) ol_j2_ne_F (ri_2 ol_op_add (ri_vi dX11_countTenth_70) (ri_vi dX11_countTenth_72) dX11_countTenth_74) (ri_bi dX11_countTenth_75 (by unfold ol_inR; omega) (by decide)) dX11_countTenth_77 (by decide)))) (ri_ic dX11_countTenth_80 (by unfold ol_inR; omega)) dX11_countTenth_81 (by decide) (ri_ic dX11_countTenth_84 (by unfold ol_inR; omega))) dX11_countTenth_85 (ol_ltn rfl)) (rs_seq (p2 := 199) (rs_if (pT := 91) (pF := 100) (pE := 199) (rc_zF (pF := 100) ol_j1_ne_F (ri_vn dX11_countTenth_87 rfl) dX11_countTenth_88 (by decide)) (rs_goto (p3 := 199) (rs_pf (rr_vn dX11_countTenth_91 rfl) (ri_bi dX11_countTenth_92 (by unfold ol_inR; omega) (by decide)) pfX11_197 rfl dX11_countTenth_94) dX11_countTenth_97 (by decide)) (rs_if (pT := 105) (pF := 129) (pE := 199) (rc_2F (pF := 129) ol_j2_ne_F (ri_vn dX11_countTenth_100 rfl) (ri_ic dX11_countTenth_101 (by unfold ol_inR; omega)) dX11_countTenth_102 (by decide)) (rs_goto (p3 := 199) (rs_pf (rr_vn dX11_countTenth_105 rfl) (ri_if (pT := 113) (pF := 118) (p3 := 123) (rc_2F (pF := 118) ol_j2_ne_F (ri_vi dX11_countTenth_106) (ri_bi dX11_countTenth_108 (by unfold ol_inR; omega) (by decide)) dX11_countTenth_110 (by decide)) (ri_bi dX11_countTenth_113 (by unfold ol_inR; omega) (by decide)) dX11_countTenth_115 (by decide) (ri_2 ol_op_sub (ri_bi dX11_countTenth_118 (by unfold ol_inR; omega) (by decide)) (ri_vi dX11_countTenth_120) dX11_countTenth_122)) pfX11_197 rfl dX11_countTenth_123) dX11_countTenth_126 (by decide)) (rs_if (pT := 139) (pF := 170) (pE := 199) (rc_and (p2 := 134) (pT := 139) (pF := 170) (rc_2F (pF := 170) ol_j2_ne_F (ri_vn dX11_countTenth_129 rfl) (ri_ic dX11_countTenth_130 (by unfold ol_inR; omega)) dX11_countTenth_131 (by decide)) (rc_zF (pF := 170) ol_j1_eq_F (ri_vi dX11_countTenth_134) dX11_countTenth_136 (by decide))) (rs_goto (p3 := 199) (rs_pf (rr_vn dX11_countTenth_139 rfl) (ri_if (pT := 154) (pF := 162) (p3 := 164) (rc_and (p2 := 147) (pT := 154) (pF := 162) (rc_2F (pF := 162) ol_j2_ne_F (ri_vi dX11_countTenth_140) (ri_bi dX11_countTenth_142 (by unfold ol_inR; omega) (by decide)) dX11_countTenth_144 (by decide)) (rc_2F (pF := 162) ol_j2_ge_F (ri_vi dX11_countTenth_147) (ri_bi dX11_countTenth_149 (by unfold ol_inR; omega) (by decide)) dX11_countTenth_151 (by decide))) (ri_2 ol_op_sub (ri_bi dX11_countTenth_154 (by unfold ol_inR; omega) (by decide)) (ri_vi dX11_countTenth_156) dX11_countTenth_158) dX11_countTenth_159 (by decide) (ri_bi dX11_countTenth_162 (by unfold ol_inR; omega) (by decide))) pfX11_197 rfl dX11_countTenth_164) dX11_countTenth_167 (by decide)) (rs_seq (p2 := 176) (rs_pf (rr_vn dX11_countTenth_170 rfl) (ri_bi dX11_countTenth_171 (by unfold ol_inR; omega) (by decide)) pfX11_197 rfl dX11_countTenth_173) (rs_seq (p2 := 182) (rs_pf (rr_vn dX11_countTenth_176 rfl) (ri_bi dX11_countTenth_177 (by unfold ol_inR; omega) (by decide)) pfX11_191 rfl dX11_countTenth_179) (rs_uf ol_op_add (rr_vn dX11_countTenth_182 rfl) dX11_countTenth_183 dX11_countTenth_184 (ri_2 ol_op_add (ri_2 ol_op_add (ri_vi dX11_countTenth_187) (ri_vi dX11_countTenth_189) dX11_countTenth_191) (ri_vi dX11_countTenth_192) dX11_countTenth_194) dX11_countTenth_195 gfX11_194 pfX11_194 rfl dX11_countTenth_196)))))) (rs_retv rfl dX11_countTenth_199))))))
theorem conX11_countTenth (l : Launch) (K : ol_K) : ol_Con l K yX11_countTenth mX11_countTenth fX11_countTenth := ol_con (M := mX11_countTenth) (by decide) rfl rfl (imX11_countTenth · K)
theorem dX11_anew_0 : decode cX11_anew 0 = .ok (.aload_n 0, 1) := by decide +kernel
theorem dX11_anew_1 : decode cX11_anew 1 = .ok (.getfield 203, 3) := by decide +kernel
theorem dX11_anew_4 : decode cX11_anew 4 = .ok (.istore_n 1, 1) := by decide +kernel
theorem dX11_anew_5 : decode cX11_anew 5 = .ok (.aload_n 0, 1) := by decide +kernel
theorem dX11_anew_6 : decode cX11_anew 6 = .ok (.iconst 0, 1) := by decide +kernel
theorem dX11_anew_7 : decode cX11_anew 7 = .ok (.putfield 203, 3) := by decide +kernel
theorem dX11_anew_10 : decode cX11_anew 10 = .ok (.iload_n 1, 1) := by decide +kernel
theorem dX11_anew_11 : decode cX11_anew 11 = .ok (.ireturn, 1) := by decide +kernel
def bX11_anew : ol_SE := es_seq (es_set 1 (ei_f 11 28 (er_v 0))) (es_seq (es_pf 11 28 (er_v 0) (ei_c 0)) (es_ret (ei_v 1)))
def fX11_anew : ol_FE := ol_fe 2 bX11_anew
set_option maxRecDepth 20000 in
theorem imX11_anew (x : ol_X) (K : ol_K) : IM_S x K mX11_anew 0 0 bX11_anew := rs_seq (p2 := 5) (rs_setn (ri_f (rr_vn dX11_anew_0 rfl) gfX11_203 dX11_anew_1) dX11_anew_4 rfl (ol_ltn rfl)) (rs_seq (p2 := 10) (rs_pf (rr_vn dX11_anew_5 rfl) (ri_ic dX11_anew_6 (by unfold ol_inR; omega)) pfX11_203 rfl dX11_anew_7) (rs_ret (ri_vn dX11_anew_10 rfl) rfl dX11_anew_11))
theorem conX11_anew (l : Launch) (K : ol_K) : ol_Con l K yX11_anew mX11_anew fX11_anew := ol_con (M := mX11_anew) (by decide) rfl rfl (imX11_anew · K)
theorem dX11_cameHow_0 : decode cX11_cameHow 0 = .ok (.aload_n 0, 1) := by decide +kernel
theorem dX11_cameHow_1 : decode cX11_cameHow 1 = .ok (.getfield 147, 3) := by decide +kernel
theorem dX11_cameHow_4 : decode cX11_cameHow 4 = .ok (.ifCond .ne 10, 3) := by decide +kernel
theorem dX11_cameHow_7 : decode cX11_cameHow 7 = .ok (.aload_n 0, 1) := by decide +kernel
theorem dX11_cameHow_8 : decode cX11_cameHow 8 = .ok (.getfield 125, 3) := by decide +kernel
theorem dX11_cameHow_11 : decode cX11_cameHow 11 = .ok (.ifCond .ne 5, 3) := by decide +kernel
theorem dX11_cameHow_14 : decode cX11_cameHow 14 = .ok (.iconst 0, 1) := by decide +kernel
theorem dX11_cameHow_15 : decode cX11_cameHow 15 = .ok (.ireturn, 1) := by decide +kernel
theorem dX11_cameHow_16 : decode cX11_cameHow 16 = .ok (.aload_n 0, 1) := by decide +kernel
theorem dX11_cameHow_17 : decode cX11_cameHow 17 = .ok (.getfield 125, 3) := by decide +kernel
theorem dX11_cameHow_20 : decode cX11_cameHow 20 = .ok (.ifCond .le 14, 3) := by decide +kernel
theorem dX11_cameHow_23 : decode cX11_cameHow 23 = .ok (.aload_n 0, 1) := by decide +kernel
theorem dX11_cameHow_24 : decode cX11_cameHow 24 = .ok (.getfield 144, 3) := by decide +kernel
theorem dX11_cameHow_27 : decode cX11_cameHow 27 = .ok (.sipush 195, 3) := by decide +kernel
theorem dX11_cameHow_30 : decode cX11_cameHow 30 = .ok (.isub, 1) := by decide +kernel
theorem dX11_cameHow_31 : decode cX11_cameHow 31 = .ok (.goto 11, 3) := by decide +kernel
theorem dX11_cameHow_34 : decode cX11_cameHow 34 = .ok (.sipush 195, 3) := by decide +kernel
theorem dX11_cameHow_37 : decode cX11_cameHow 37 = .ok (.aload_n 0, 1) := by decide +kernel
theorem dX11_cameHow_38 : decode cX11_cameHow 38 = .ok (.getfield 144, 3) := by decide +kernel
theorem dX11_cameHow_41 : decode cX11_cameHow 41 = .ok (.isub, 1) := by decide +kernel
theorem dX11_cameHow_42 : decode cX11_cameHow 42 = .ok (.istore_n 1, 1) := by decide +kernel
theorem dX11_cameHow_43 : decode cX11_cameHow 43 = .ok (.iload_n 1, 1) := by decide +kernel
theorem dX11_cameHow_44 : decode cX11_cameHow 44 = .ok (.ifCond .lt 7, 3) := by decide +kernel
theorem dX11_cameHow_47 : decode cX11_cameHow 47 = .ok (.iconst 1, 1) := by decide +kernel
theorem dX11_cameHow_48 : decode cX11_cameHow 48 = .ok (.goto 14, 3) := by decide +kernel
theorem dX11_cameHow_51 : decode cX11_cameHow 51 = .ok (.iload_n 1, 1) := by decide +kernel
theorem dX11_cameHow_52 : decode cX11_cameHow 52 = .ok (.bipush (-35), 2) := by decide +kernel
theorem dX11_cameHow_54 : decode cX11_cameHow 54 = .ok (.if_icmp .gt 7, 3) := by decide +kernel
theorem dX11_cameHow_57 : decode cX11_cameHow 57 = .ok (.iconst 2, 1) := by decide +kernel
theorem dX11_cameHow_58 : decode cX11_cameHow 58 = .ok (.goto 4, 3) := by decide +kernel
theorem dX11_cameHow_61 : decode cX11_cameHow 61 = .ok (.iconst 0, 1) := by decide +kernel
theorem dX11_cameHow_62 : decode cX11_cameHow 62 = .ok (.ireturn, 1) := by decide +kernel
def bX11_cameHow : ol_SE := es_seq (es_if (ec_or (ec_z ol_ne (ei_f 11 18 (er_v 0))) (ec_z ol_eq (ei_f 11 13 (er_v 0)))) (es_ret (ei_c 0)) es_skip) (es_seq (es_set 1 (ei_if (ec_z ol_gt (ei_f 11 13 (er_v 0))) (ei_2 ol_sub (ei_f 11 12 (er_v 0)) (ei_c 195)) (ei_2 ol_sub (ei_c 195) (ei_f 11 12 (er_v 0))))) (es_ret (ei_if (ec_z ol_ge (ei_v 1)) (ei_c 1) (ei_if (ec_2 ol_le (ei_v 1) (ei_c (-35))) (ei_c 2) (ei_c 0)))))
def fX11_cameHow : ol_FE := ol_fe 2 bX11_cameHow
set_option maxRecDepth 20000 in
theorem imX11_cameHow (x : ol_X) (K : ol_K) : IM_S x K mX11_cameHow 0 0 bX11_cameHow := rs_seq (p2 := 16) (rs_if (pT := 14) (pF := 16) (pE := 16) (rc_or (p2 := 7) (pT := 14) (pF := 16) (rc_zT (pT := 14) ol_j1_ne_T (ri_f (rr_vn dX11_cameHow_0 rfl) gfX11_147 dX11_cameHow_1) dX11_cameHow_4 (by decide)) (rc_zF (pF := 16) ol_j1_ne_F (ri_f (rr_vn dX11_cameHow_7 rfl) gfX11_125 dX11_cameHow_8) dX11_cameHow_11 (by decide))) (rs_ret (ri_ic dX11_cameHow_14 (by unfold ol_inR; omega)) rfl dX11_cameHow_15) rs_skip) (rs_seq (p2 := 43) (rs_setn (ri_if (pT := 23) (pF := 34) (p3 := 42) (rc_zF (pF := 34) ol_j1_le_F (ri_f (rr_vn dX11_cameHow_16 rfl) gfX11_125 dX11_cameHow_17) dX11_cameHow_20 (by decide)) (ri_2 ol_op_sub (ri_f (rr_vn dX11_cameHow_23 rfl) gfX11_144 dX11_cameHow_24) (ri_si dX11_cameHow_27 (by unfold ol_inR; omega) (by decide)) dX11_cameHow_30) dX11_cameHow_31 (by decide) (ri_2 ol_op_sub (ri_si dX11_cameHow_34 (by unfold ol_inR; omega) (by decide)) (ri_f (rr_vn dX11_cameHow_37 rfl) gfX11_144 dX11_cameHow_38) dX11_cameHow_41)) dX11_cameHow_42 rfl (ol_ltn rfl)) (rs_ret (ri_if (pT := 47) (pF := 51) (p3 := 62) (rc_zF (pF := 51) ol_j1_lt_F (ri_vn dX11_cameHow_43 rfl) dX11_cameHow_44 (by decide)) (ri_ic dX11_cameHow_47 (by unfold ol_inR; omega)) dX11_cameHow_48 (by decide) (ri_if (pT := 57) (pF := 61) (p3 := 62) (rc_2F (pF := 61) ol_j2_gt_F (ri_vn dX11_cameHow_51 rfl) (ri_bi dX11_cameHow_52 (by unfold ol_inR; omega) (by decide)) dX11_cameHow_54 (by decide)) (ri_ic dX11_cameHow_57 (by unfold ol_inR; omega)) dX11_cameHow_58 (by decide) (ri_ic dX11_cameHow_61 (by unfold ol_inR; omega)))) rfl dX11_cameHow_62))
theorem conX11_cameHow (l : Launch) (K : ol_K) : ol_Con l K yX11_cameHow mX11_cameHow fX11_cameHow := ol_con (M := mX11_cameHow) (by decide) rfl rfl (imX11_cameHow · K)
theorem dX11_move_0 : decode cX11_move 0 = .ok (.aload_n 0, 1) := by decide +kernel
theorem dX11_move_1 : decode cX11_move 1 = .ok (.getfield 44, 3) := by decide +kernel
theorem dX11_move_4 : decode cX11_move 4 = .ok (.iload_n 1, 1) := by decide +kernel
theorem dX11_move_5 : decode cX11_move 5 = .ok (.iconst 2, 1) := by decide +kernel
theorem dX11_move_6 : decode cX11_move 6 = .ok (.iadd, 1) := by decide +kernel
theorem dX11_move_7 : decode cX11_move 7 = .ok (.iaload, 1) := by decide +kernel
theorem dX11_move_8 : decode cX11_move 8 = .ok (.ifCond .le 7, 3) := by decide +kernel
theorem dX11_move_11 : decode cX11_move 11 = .ok (.iconst 1, 1) := by decide +kernel
theorem dX11_move_12 : decode cX11_move 12 = .ok (.goto 19, 3) := by decide +kernel
theorem dX11_move_15 : decode cX11_move 15 = .ok (.aload_n 0, 1) := by decide +kernel
theorem dX11_move_16 : decode cX11_move 16 = .ok (.getfield 44, 3) := by decide +kernel
theorem dX11_move_19 : decode cX11_move 19 = .ok (.iload_n 1, 1) := by decide +kernel
theorem dX11_move_20 : decode cX11_move 20 = .ok (.iconst 2, 1) := by decide +kernel
theorem dX11_move_21 : decode cX11_move 21 = .ok (.iadd, 1) := by decide +kernel
theorem dX11_move_22 : decode cX11_move 22 = .ok (.iaload, 1) := by decide +kernel
theorem dX11_move_23 : decode cX11_move 23 = .ok (.ifCond .ge 7, 3) := by decide +kernel
theorem dX11_move_26 : decode cX11_move 26 = .ok (.iconst (-1), 1) := by decide +kernel
theorem dX11_move_27 : decode cX11_move 27 = .ok (.goto 4, 3) := by decide +kernel
theorem dX11_move_30 : decode cX11_move 30 = .ok (.iconst 0, 1) := by decide +kernel
theorem dX11_move_31 : decode cX11_move 31 = .ok (.istore_n 3, 1) := by decide +kernel
theorem dX11_move_32 : decode cX11_move 32 = .ok (.aload_n 0, 1) := by decide +kernel
theorem dX11_move_33 : decode cX11_move 33 = .ok (.getfield 44, 3) := by decide +kernel
theorem dX11_move_36 : decode cX11_move 36 = .ok (.iload_n 1, 1) := by decide +kernel
theorem dX11_move_37 : decode cX11_move 37 = .ok (.iconst 5, 1) := by decide +kernel
theorem dX11_move_38 : decode cX11_move 38 = .ok (.iadd, 1) := by decide +kernel
theorem dX11_move_39 : decode cX11_move 39 = .ok (.iload_n 2, 1) := by decide +kernel
theorem dX11_move_40 : decode cX11_move 40 = .ok (.ifCond .ne 7, 3) := by decide +kernel
theorem dX11_move_43 : decode cX11_move 43 = .ok (.iconst 0, 1) := by decide +kernel
theorem dX11_move_44 : decode cX11_move 44 = .ok (.goto 13, 3) := by decide +kernel
theorem dX11_move_47 : decode cX11_move 47 = .ok (.aload_n 0, 1) := by decide +kernel
theorem dX11_move_48 : decode cX11_move 48 = .ok (.getfield 44, 3) := by decide +kernel
theorem dX11_move_51 : decode cX11_move 51 = .ok (.iload_n 1, 1) := by decide +kernel
theorem dX11_move_52 : decode cX11_move 52 = .ok (.iconst 5, 1) := by decide +kernel
theorem dX11_move_53 : decode cX11_move 53 = .ok (.iadd, 1) := by decide +kernel
theorem dX11_move_54 : decode cX11_move 54 = .ok (.iaload, 1) := by decide +kernel
theorem dX11_move_55 : decode cX11_move 55 = .ok (.iconst 1, 1) := by decide +kernel
theorem dX11_move_56 : decode cX11_move 56 = .ok (.iadd, 1) := by decide +kernel
theorem dX11_move_57 : decode cX11_move 57 = .ok (.iastore, 1) := by decide +kernel
theorem dX11_move_58 : decode cX11_move 58 = .ok (.aload_n 0, 1) := by decide +kernel
theorem dX11_move_59 : decode cX11_move 59 = .ok (.getfield 44, 3) := by decide +kernel
theorem dX11_move_62 : decode cX11_move 62 = .ok (.iload_n 1, 1) := by decide +kernel
theorem dX11_move_63 : decode cX11_move 63 = .ok (.iconst 4, 1) := by decide +kernel
theorem dX11_move_64 : decode cX11_move 64 = .ok (.iadd, 1) := by decide +kernel
theorem dX11_move_65 : decode cX11_move 65 = .ok (.iaload, 1) := by decide +kernel
theorem dX11_move_66 : decode cX11_move 66 = .ok (.iconst 1, 1) := by decide +kernel
theorem dX11_move_67 : decode cX11_move 67 = .ok (.if_icmp .ne 58, 3) := by decide +kernel
theorem dX11_move_70 : decode cX11_move 70 = .ok (.iload_n 2, 1) := by decide +kernel
theorem dX11_move_71 : decode cX11_move 71 = .ok (.ifCond .eq 54, 3) := by decide +kernel
theorem dX11_move_74 : decode cX11_move 74 = .ok (.aload_n 0, 1) := by decide +kernel
theorem dX11_move_75 : decode cX11_move 75 = .ok (.getfield 44, 3) := by decide +kernel
theorem dX11_move_78 : decode cX11_move 78 = .ok (.iload_n 1, 1) := by decide +kernel
theorem dX11_move_79 : decode cX11_move 79 = .ok (.iaload, 1) := by decide +kernel
theorem dX11_move_80 : decode cX11_move 80 = .ok (.iload_n 2, 1) := by decide +kernel
theorem dX11_move_81 : decode cX11_move 81 = .ok (.iconst 1, 1) := by decide +kernel
theorem dX11_move_82 : decode cX11_move 82 = .ok (.if_icmp .ne 10, 3) := by decide +kernel
theorem dX11_move_85 : decode cX11_move 85 = .ok (.bipush (-2), 2) := by decide +kernel
theorem dX11_move_87 : decode cX11_move 87 = .ok (.iload_n 3, 1) := by decide +kernel
theorem dX11_move_88 : decode cX11_move 88 = .ok (.imul, 1) := by decide +kernel
theorem dX11_move_89 : decode cX11_move 89 = .ok (.goto 4, 3) := by decide +kernel
theorem dX11_move_92 : decode cX11_move 92 = .ok (.iload_n 3, 1) := by decide +kernel
theorem dX11_move_93 : decode cX11_move 93 = .ok (.iadd, 1) := by decide +kernel
theorem dX11_move_94 : decode cX11_move 94 = .ok (.istore 4, 2) := by decide +kernel
theorem dX11_move_96 : decode cX11_move 96 = .ok (.aload_n 0, 1) := by decide +kernel
theorem dX11_move_97 : decode cX11_move 97 = .ok (.getfield 44, 3) := by decide +kernel
theorem dX11_move_100 : decode cX11_move 100 = .ok (.iload_n 1, 1) := by decide +kernel
theorem dX11_move_101 : decode cX11_move 101 = .ok (.iload 4, 2) := by decide +kernel
theorem dX11_move_103 : decode cX11_move 103 = .ok (.ifCond .ge 7, 3) := by decide +kernel
theorem dX11_move_106 : decode cX11_move 106 = .ok (.iconst 0, 1) := by decide +kernel
theorem dX11_move_107 : decode cX11_move 107 = .ok (.goto 17, 3) := by decide +kernel
theorem dX11_move_110 : decode cX11_move 110 = .ok (.iload 4, 2) := by decide +kernel
theorem dX11_move_112 : decode cX11_move 112 = .ok (.bipush 38, 2) := by decide +kernel
theorem dX11_move_114 : decode cX11_move 114 = .ok (.if_icmp .le 8, 3) := by decide +kernel
theorem dX11_move_117 : decode cX11_move 117 = .ok (.bipush 38, 2) := by decide +kernel
theorem dX11_move_119 : decode cX11_move 119 = .ok (.goto 5, 3) := by decide +kernel
theorem dX11_move_122 : decode cX11_move 122 = .ok (.iload 4, 2) := by decide +kernel
theorem dX11_move_124 : decode cX11_move 124 = .ok (.iastore, 1) := by decide +kernel
theorem dX11_move_125 : decode cX11_move 125 = .ok (.aload_n 0, 1) := by decide +kernel
theorem dX11_move_126 : decode cX11_move 126 = .ok (.getfield 44, 3) := by decide +kernel
theorem dX11_move_129 : decode cX11_move 129 = .ok (.iload_n 1, 1) := by decide +kernel
theorem dX11_move_130 : decode cX11_move 130 = .ok (.iconst 4, 1) := by decide +kernel
theorem dX11_move_131 : decode cX11_move 131 = .ok (.iadd, 1) := by decide +kernel
theorem dX11_move_132 : decode cX11_move 132 = .ok (.iaload, 1) := by decide +kernel
theorem dX11_move_133 : decode cX11_move 133 = .ok (.iconst 2, 1) := by decide +kernel
theorem dX11_move_134 : decode cX11_move 134 = .ok (.if_icmp .ne 45, 3) := by decide +kernel
theorem dX11_move_137 : decode cX11_move 137 = .ok (.aload_n 0, 1) := by decide +kernel
theorem dX11_move_138 : decode cX11_move 138 = .ok (.getfield 44, 3) := by decide +kernel
theorem dX11_move_141 : decode cX11_move 141 = .ok (.iload_n 1, 1) := by decide +kernel
theorem dX11_move_142 : decode cX11_move 142 = .ok (.iconst 5, 1) := by decide +kernel
theorem dX11_move_143 : decode cX11_move 143 = .ok (.iadd, 1) := by decide +kernel
theorem dX11_move_144 : decode cX11_move 144 = .ok (.iaload, 1) := by decide +kernel
theorem dX11_move_145 : decode cX11_move 145 = .ok (.iconst 2, 1) := by decide +kernel
theorem dX11_move_146 : decode cX11_move 146 = .ok (.if_icmp .ne 33, 3) := by decide +kernel
theorem dX11_move_149 : decode cX11_move 149 = .ok (.aload_n 0, 1) := by decide +kernel
theorem dX11_move_150 : decode cX11_move 150 = .ok (.getfield 44, 3) := by decide +kernel
theorem dX11_move_153 : decode cX11_move 153 = .ok (.iload_n 1, 1) := by decide +kernel
theorem dX11_move_154 : decode cX11_move 154 = .ok (.iconst 3, 1) := by decide +kernel
theorem dX11_move_155 : decode cX11_move 155 = .ok (.iadd, 1) := by decide +kernel
theorem dX11_move_156 : decode cX11_move 156 = .ok (.aload_n 0, 1) := by decide +kernel
theorem dX11_move_157 : decode cX11_move 157 = .ok (.getfield 44, 3) := by decide +kernel
theorem dX11_move_160 : decode cX11_move 160 = .ok (.iload_n 1, 1) := by decide +kernel
theorem dX11_move_161 : decode cX11_move 161 = .ok (.iconst 3, 1) := by decide +kernel
theorem dX11_move_162 : decode cX11_move 162 = .ok (.iadd, 1) := by decide +kernel
theorem dX11_move_163 : decode cX11_move 163 = .ok (.iaload, 1) := by decide +kernel
theorem dX11_move_164 : decode cX11_move 164 = .ok (.iconst 1, 1) := by decide +kernel
theorem dX11_move_165 : decode cX11_move 165 = .ok (.iadd, 1) := by decide +kernel
theorem dX11_move_166 : decode cX11_move 166 = .ok (.bipush 6, 2) := by decide +kernel
theorem dX11_move_168 : decode cX11_move 168 = .ok (.irem, 1) := by decide +kernel
theorem dX11_move_169 : decode cX11_move 169 = .ok (.iastore, 1) := by decide +kernel
theorem dX11_move_170 : decode cX11_move 170 = .ok (.aload_n 0, 1) := by decide +kernel
theorem dX11_move_171 : decode cX11_move 171 = .ok (.getfield 44, 3) := by decide +kernel
theorem dX11_move_174 : decode cX11_move 174 = .ok (.iload_n 1, 1) := by decide +kernel
theorem dX11_move_175 : decode cX11_move 175 = .ok (.iconst 5, 1) := by decide +kernel
theorem dX11_move_176 : decode cX11_move 176 = .ok (.iadd, 1) := by decide +kernel
theorem dX11_move_177 : decode cX11_move 177 = .ok (.iconst 0, 1) := by decide +kernel
theorem dX11_move_178 : decode cX11_move 178 = .ok (.iastore, 1) := by decide +kernel
theorem dX11_move_179 : decode cX11_move 179 = .ok (.return_, 1) := by decide +kernel
def bX11_move : ol_SE := es_seq (es_set 3 (ei_if (ec_z ol_gt (ei_a 100 (er_f 11 35 (er_v 0)) (ei_2 ol_add (ei_v 1) (ei_c 2)))) (ei_c 1) (ei_if (ec_z ol_lt (ei_a 100 (er_f 11 35 (er_v 0)) (ei_2 ol_add (ei_v 1) (ei_c 2)))) (ei_c (-1)) (ei_c 0)))) (es_seq (es_as 100 (er_f 11 35 (er_v 0)) (ei_2 ol_add (ei_v 1) (ei_c 5)) (ei_if (ec_z ol_eq (ei_v 2)) (ei_c 0) (ei_2 ol_add (ei_a 100 (er_f 11 35 (er_v 0)) (ei_2 ol_add (ei_v 1) (ei_c 5))) (ei_c 1)))) (es_seq (es_if (ec_and (ec_2 ol_eq (ei_a 100 (er_f 11 35 (er_v 0)) (ei_2 ol_add (ei_v 1) (ei_c 4))) (ei_c 1)) (ec_z ol_ne (ei_v 2))) (es_seq (es_set 4 (ei_2 ol_add (ei_a 100 (er_f 11 35 (er_v 0)) (ei_v 1)) (ei_if (ec_2 ol_eq (ei_v 2) (ei_c 1)) (ei_2 ol_mul (ei_c (-2)) (ei_v 3)) (ei_v 3)))) (es_as 100 (er_f 11 35 (er_v 0)) (ei_v 1) (ei_if (ec_z ol_lt (ei_v 4)) (ei_c 0) (ei_if (ec_2 ol_gt (ei_v 4) (ei_c 38)) (ei_c 38) (ei_v 4))))) es_skip) (es_seq (es_if (ec_and (ec_2 ol_eq (ei_a 100 (er_f 11 35 (er_v 0)) (ei_2 ol_add (ei_v 1) (ei_c 4))) (ei_c 2)) (ec_2 ol_eq (ei_a 100 (er_f 11 35 (er_v 0)) (ei_2 ol_add (ei_v 1) (ei_c 5))) (ei_c 2))) (es_seq (es_as 100 (er_f 11 35 (er_v 0)) (ei_2 ol_add (ei_v 1) (ei_c 3)) (ei_2 ol_rem (ei_2 ol_add (ei_a 100 (er_f 11 35 (er_v 0)) (ei_2 ol_add (ei_v 1) (ei_c 3))) (ei_c 1)) (ei_c 6))) (es_as 100 (er_f 11 35 (er_v 0)) (ei_2 ol_add (ei_v 1) (ei_c 5)) (ei_c 0))) es_skip) (es_retv))))
def fX11_move : ol_FE := ol_fe 5 bX11_move
set_option maxRecDepth 20000 in
theorem imX11_move (x : ol_X) (K : ol_K) : IM_S x K mX11_move 0 0 bX11_move := rs_seq (p2 := 32) (rs_setn (ri_if (pT := 11) (pF := 15) (p3 := 31) (rc_zF (pF := 15) ol_j1_le_F (ri_a (rr_f (rr_vn dX11_move_0 rfl) gfX11_44 dX11_move_1) (ri_2 ol_op_add (ri_vn dX11_move_4 rfl) (ri_ic dX11_move_5 (by unfold ol_inR; omega)) dX11_move_6) rfl dX11_move_7) dX11_move_8 (by decide)) (ri_ic dX11_move_11 (by unfold ol_inR; omega)) dX11_move_12 (by decide) (ri_if (pT := 26) (pF := 30) (p3 := 31) (rc_zF (pF := 30) ol_j1_ge_F (ri_a (rr_f (rr_vn dX11_move_15 rfl) gfX11_44 dX11_move_16) (ri_2 ol_op_add (ri_vn dX11_move_19 rfl) (ri_ic dX11_move_20 (by unfold ol_inR; omega)) dX11_move_21) rfl dX11_move_22) dX11_move_23 (by decide)) (ri_ic dX11_move_26 (by unfold ol_inR; omega)) dX11_move_27 (by decide) (ri_ic dX11_move_30 (by unfold ol_inR; omega)))) dX11_move_31 rfl (ol_ltn rfl)) (rs_seq (p2 := 58) (rs_as (rr_f (rr_vn dX11_move_32 rfl) gfX11_44 dX11_move_33) (ri_2 ol_op_add (ri_vn dX11_move_36 rfl) (ri_ic dX11_move_37 (by unfold ol_inR; omega)) dX11_move_38) (ri_if (pT := 43) (pF := 47) (p3 := 57) (rc_zF (pF := 47) ol_j1_ne_F (ri_vn dX11_move_39 rfl) dX11_move_40 (by decide)) (ri_ic dX11_move_43 (by unfold ol_inR; omega)) dX11_move_44 (by decide) (ri_2 ol_op_add (ri_a (rr_f (rr_vn dX11_move_47 rfl) gfX11_44 dX11_move_48) (ri_2 ol_op_add (ri_vn dX11_move_51 rfl) (ri_ic dX11_move_52 (by unfold ol_inR; omega)) dX11_move_53) rfl dX11_move_54) (ri_ic dX11_move_55 (by unfold ol_inR; omega)) dX11_move_56)) dX11_move_57) (rs_seq (p2 := 125) (rs_if (pT := 74) (pF := 125) (pE := 125) (rc_and (p2 := 70) (pT := 74) (pF := 125) (rc_2F (pF := 125) ol_j2_ne_F (ri_a (rr_f (rr_vn dX11_move_58 rfl) gfX11_44 dX11_move_59) (ri_2 ol_op_add (ri_vn dX11_move_62 rfl) (ri_ic dX11_move_63 (by unfold ol_inR; omega)) dX11_move_64) rfl dX11_move_65) (ri_ic dX11_move_66 (by unfold ol_inR; omega)) dX11_move_67 (by decide)) (rc_zF (pF := 125) ol_j1_eq_F (ri_vn dX11_move_70 rfl) dX11_move_71 (by decide))) (rs_seq (p2 := 96) (rs_set (ri_2 ol_op_add (ri_a (rr_f (rr_vn dX11_move_74 rfl) gfX11_44 dX11_move_75) (ri_vn dX11_move_78 rfl) rfl dX11_move_79) (ri_if (pT := 85) (pF := 92) (p3 := 93) (rc_2F (pF := 92) ol_j2_ne_F (ri_vn dX11_move_80 rfl) (ri_ic dX11_move_81 (by unfold ol_inR; omega)) dX11_move_82 (by decide)) (ri_2 ol_op_mul (ri_bi dX11_move_85 (by unfold ol_inR; omega) (by decide)) (ri_vn dX11_move_87 rfl) dX11_move_88) dX11_move_89 (by decide) (ri_vn dX11_move_92 rfl)) dX11_move_93) dX11_move_94 (ol_ltn rfl)) (rs_as (rr_f (rr_vn dX11_move_96 rfl) gfX11_44 dX11_move_97) (ri_vn dX11_move_100 rfl) (ri_if (pT := 106) (pF := 110) (p3 := 124) (rc_zF (pF := 110) ol_j1_ge_F (ri_vi dX11_move_101) dX11_move_103 (by decide)) (ri_ic dX11_move_106 (by unfold ol_inR; omega)) dX11_move_107 (by decide) (ri_if (pT := 117) (pF := 122) (p3 := 124) (rc_2F (pF := 122) ol_j2_le_F (ri_vi dX11_move_110) (ri_bi dX11_move_112 (by unfold ol_inR; omega) (by decide)) dX11_move_114 (by decide)) (ri_bi dX11_move_117 (by unfold ol_inR; omega) (by decide)) dX11_move_119 (by decide) (ri_vi dX11_move_122))) dX11_move_124)) rs_skip) (rs_seq (p2 := 179) (rs_if (pT := 149) (pF := 179) (pE := 179) (rc_and (p2 := 137) (pT := 149) (pF := 179) (rc_2F (pF := 179) ol_j2_ne_F (ri_a (rr_f (rr_vn dX11_move_125 rfl) gfX11_44 dX11_move_126) (ri_2 ol_op_add (ri_vn dX11_move_129 rfl) (ri_ic dX11_move_130 (by unfold ol_inR; omega)) dX11_move_131) rfl dX11_move_132) (ri_ic dX11_move_133 (by unfold ol_inR; omega)) dX11_move_134 (by decide)) (rc_2F (pF := 179) ol_j2_ne_F (ri_a (rr_f (rr_vn dX11_move_137 rfl) gfX11_44 dX11_move_138) (ri_2 ol_op_add (ri_vn dX11_move_141 rfl) (ri_ic dX11_move_142 (by unfold ol_inR; omega)) dX11_move_143) rfl dX11_move_144) (ri_ic dX11_move_145 (by unfold ol_inR; omega)) dX11_move_146 (by decide))) (rs_seq (p2 := 170) (rs_as (rr_f (rr_vn dX11_move_149 rfl) gfX11_44 dX11_move_150) (ri_2 ol_op_add (ri_vn dX11_move_153 rfl) (ri_ic dX11_move_154 (by unfold ol_inR; omega)) dX11_move_155) (ri_2 ol_op_rem (ri_2 ol_op_add (ri_a (rr_f (rr_vn dX11_move_156 rfl) gfX11_44 dX11_move_157) (ri_2 ol_op_add (ri_vn dX11_move_160 rfl) (ri_ic dX11_move_161 (by unfold ol_inR; omega)) dX11_move_162) rfl dX11_move_163) (ri_ic dX11_move_164 (by unfold ol_inR; omega)) dX11_move_165) (ri_bi dX11_move_166 (by unfold ol_inR; omega) (by decide)) dX11_move_168) dX11_move_169) (rs_as (rr_f (rr_vn dX11_move_170 rfl) gfX11_44 dX11_move_171) (ri_2 ol_op_add (ri_vn dX11_move_174 rfl) (ri_ic dX11_move_175 (by unfold ol_inR; omega)) dX11_move_176) (ri_ic dX11_move_177 (by unfold ol_inR; omega)) dX11_move_178)) rs_skip) (rs_retv rfl dX11_move_179))))
theorem conX11_move (l : Launch) (K : ol_K) : ol_Con l K yX11_move mX11_move fX11_move := ol_con (M := mX11_move) (by decide) rfl rfl (imX11_move · K)
