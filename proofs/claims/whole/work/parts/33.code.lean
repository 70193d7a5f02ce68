/-! by program: what each method does, and that its code does it -/
theorem dX11_copyThrowers_0 : decode cX11_copyThrowers 0 = .ok (.iconst 0, 1) := by decide +kernel
theorem dX11_copyThrowers_1 : decode cX11_copyThrowers 1 = .ok (.istore_n 3, 1) := by decide +kernel
theorem dX11_copyThrowers_2 : decode cX11_copyThrowers 2 = .ok (.iload_n 3, 1) := by decide +kernel
theorem dX11_copyThrowers_3 : decode cX11_copyThrowers 3 = .ok (.bipush 24, 2) := by decide +kernel
theorem dX11_copyThrowers_5 : decode cX11_copyThrowers 5 = .ok (.if_icmp .ge 31, 3) := by decide +kernel
theorem dX11_copyThrowers_8 : decode cX11_copyThrowers 8 = .ok (.aload_n 0, 1) := by decide +kernel
theorem dX11_copyThrowers_9 : decode cX11_copyThrowers 9 = .ok (.getfield 44, 3) := by decide +kernel
theorem dX11_copyThrowers_12 : decode cX11_copyThrowers 12 = .ok (.bipush 24, 2) := by decide +kernel
theorem dX11_copyThrowers_14 : decode cX11_copyThrowers 14 = .ok (.iload_n 2, 1) := by decide +kernel
theorem dX11_copyThrowers_15 : decode cX11_copyThrowers 15 = .ok (.imul, 1) := by decide +kernel
theorem dX11_copyThrowers_16 : decode cX11_copyThrowers 16 = .ok (.iload_n 3, 1) := by decide +kernel
theorem dX11_copyThrowers_17 : decode cX11_copyThrowers 17 = .ok (.iadd, 1) := by decide +kernel
theorem dX11_copyThrowers_18 : decode cX11_copyThrowers 18 = .ok (.aload_n 0, 1) := by decide +kernel
theorem dX11_copyThrowers_19 : decode cX11_copyThrowers 19 = .ok (.getfield 44, 3) := by decide +kernel
theorem dX11_copyThrowers_22 : decode cX11_copyThrowers 22 = .ok (.bipush 24, 2) := by decide +kernel
theorem dX11_copyThrowers_24 : decode cX11_copyThrowers 24 = .ok (.iload_n 1, 1) := by decide +kernel
theorem dX11_copyThrowers_25 : decode cX11_copyThrowers 25 = .ok (.imul, 1) := by decide +kernel
theorem dX11_copyThrowers_26 : decode cX11_copyThrowers 26 = .ok (.iload_n 3, 1) := by decide +kernel
theorem dX11_copyThrowers_27 : decode cX11_copyThrowers 27 = .ok (.iadd, 1) := by decide +kernel
theorem dX11_copyThrowers_28 : decode cX11_copyThrowers 28 = .ok (.iaload, 1) := by decide +kernel
theorem dX11_copyThrowers_29 : decode cX11_copyThrowers 29 = .ok (.iastore, 1) := by decide +kernel
theorem dX11_copyThrowers_30 : decode cX11_copyThrowers 30 = .ok (.iinc 3 1, 3) := by decide +kernel
theorem dX11_copyThrowers_33 : decode cX11_copyThrowers 33 = .ok (.goto (-31), 3) := by decide +kernel
theorem dX11_copyThrowers_36 : decode cX11_copyThrowers 36 = .ok (.return_, 1) := by decide +kernel
def bX11_copyThrowers : ol_SE := es_seq (es_seq (es_set 3 (ei_c 0)) (es_wh (ec_2 ol_lt (ei_v 3) (ei_c 24)) (es_seq (es_as 100 (er_f 11 35 (er_v 0)) (ei_2 ol_add (ei_2 ol_mul (ei_c 24) (ei_v 2)) (ei_v 3)) (ei_a 100 (er_f 11 35 (er_v 0)) (ei_2 ol_add (ei_2 ol_mul (ei_c 24) (ei_v 1)) (ei_v 3)))) (es_inc 3 1)))) (es_retv)
def fX11_copyThrowers : ol_FE := ol_fe 4 bX11_copyThrowers
set_option maxRecDepth 20000 in
theorem imX11_copyThrowers (x : ol_X) (K : ol_K) : IM_S x K mX11_copyThrowers 0 0 bX11_copyThrowers := rs_seq (p2 := 36) (rs_seq (p2 := 2) (rs_setn (ri_ic dX11_copyThrowers_0 (by unfold ol_inR; omega)) dX11_copyThrowers_1 rfl (ol_ltn rfl)) (rs_wh (pH := 2) (pB := 8) (pE := 36) (pG := 33) (rc_2F (pF := 36) ol_j2_ge_F (ri_vn dX11_copyThrowers_2 rfl) (ri_bi dX11_copyThrowers_3 (by unfold ol_inR; omega) (by decide)) dX11_copyThrowers_5 (by decide)) (rs_seq (p2 := 30) (rs_as (rr_f (rr_vn dX11_copyThrowers_8 rfl) gfX11_44 dX11_copyThrowers_9) (ri_2 ol_op_add (ri_2 ol_op_mul (ri_bi dX11_copyThrowers_12 (by unfold ol_inR; omega) (by decide)) (ri_vn dX11_copyThrowers_14 rfl) dX11_copyThrowers_15) (ri_vn dX11_copyThrowers_16 rfl) dX11_copyThrowers_17) (ri_a (rr_f (rr_vn dX11_copyThrowers_18 rfl) gfX11_44 dX11_copyThrowers_19) (ri_2 ol_op_add (ri_2 ol_op_mul (ri_bi dX11_copyThrowers_22 (by unfold ol_inR; omega) (by decide)) (ri_vn dX11_copyThrowers_24 rfl) dX11_copyThrowers_25) (ri_vn dX11_copyThrowers_26 rfl) dX11_copyThrowers_27) rfl dX11_copyThrowers_28) dX11_copyThrowers_29) (rs_inc dX11_copyThrowers_30 (ol_ltn rfl))) dX11_copyThrowers_33 (by decide))) (rs_retv rfl dX11_copyThrowers_36)
theorem conX11_copyThrowers (l : Launch) (K : ol_K) : ol_Con l K yX11_copyThrowers mX11_copyThrowers fX11_copyThrowers := ol_con (M := mX11_copyThrowers) (by decide) rfl rfl (imX11_copyThrowers · K)
theorem dX11_asTheyCame_0 : decode cX11_asTheyCame 0 = .ok (.iconst 0, 1) := by decide +kernel
theorem dX11_asTheyCame_1 : decode cX11_asTheyCame 1 = .ok (.istore_n 1, 1) := by decide +kernel
theorem dX11_asTheyCame_2 : decode cX11_asTheyCame 2 = .ok (.iconst 0, 1) := by decide +kernel
theorem dX11_asTheyCame_3 : decode cX11_asTheyCame 3 = .ok (.istore_n 2, 1) := by decide +kernel
theorem dX11_asTheyCame_4 : decode cX11_asTheyCame 4 = .ok (.iload_n 2, 1) := by decide +kernel
theorem dX11_asTheyCame_5 : decode cX11_asTheyCame 5 = .ok (.aload_n 0, 1) := by decide +kernel
theorem dX11_asTheyCame_6 : decode cX11_asTheyCame 6 = .ok (.getfield 219, 3) := by decide +kernel
theorem dX11_asTheyCame_9 : decode cX11_asTheyCame 9 = .ok (.if_icmp .ge 16, 3) := by decide +kernel
theorem dX11_asTheyCame_12 : decode cX11_asTheyCame 12 = .ok (.bipush 10, 2) := by decide +kernel
theorem dX11_asTheyCame_14 : decode cX11_asTheyCame 14 = .ok (.iload_n 1, 1) := by decide +kernel
theorem dX11_asTheyCame_15 : decode cX11_asTheyCame 15 = .ok (.imul, 1) := by decide +kernel
theorem dX11_asTheyCame_16 : decode cX11_asTheyCame 16 = .ok (.iload_n 2, 1) := by decide +kernel
theorem dX11_asTheyCame_17 : decode cX11_asTheyCame 17 = .ok (.iadd, 1) := by decide +kernel
theorem dX11_asTheyCame_18 : decode cX11_asTheyCame 18 = .ok (.istore_n 1, 1) := by decide +kernel
theorem dX11_asTheyCame_19 : decode cX11_asTheyCame 19 = .ok (.iinc 2 1, 3) := by decide +kernel
theorem dX11_asTheyCame_22 : decode cX11_asTheyCame 22 = .ok (.goto (-18), 3) := by decide +kernel
theorem dX11_asTheyCame_25 : decode cX11_asTheyCame 25 = .ok (.iload_n 1, 1) := by decide +kernel
theorem dX11_asTheyCame_26 : decode cX11_asTheyCame 26 = .ok (.ireturn, 1) := by decide +kernel
def bX11_asTheyCame : ol_SE := es_seq (es_set 1 (ei_c 0)) (es_seq (es_seq (es_set 2 (ei_c 0)) (es_wh (ec_2 ol_lt (ei_v 2) (ei_f 11 34 (er_v 0))) (es_seq (es_set 1 (ei_2 ol_add (ei_2 ol_mul (ei_c 10) (ei_v 1)) (ei_v 2))) (es_inc 2 1)))) (es_ret (ei_v 1)))
def fX11_asTheyCame : ol_FE := ol_fe 3 bX11_asTheyCame
set_option maxRecDepth 20000 in
theorem imX11_asTheyCame (x : ol_X) (K : ol_K) : IM_S x K mX11_asTheyCame 0 0 bX11_asTheyCame := rs_seq (p2 := 2) (rs_setn (ri_ic dX11_asTheyCame_0 (by unfold ol_inR; omega)) dX11_asTheyCame_1 rfl (ol_ltn rfl)) (rs_seq (p2 := 25) (rs_seq (p2 := 4) (rs_setn (ri_ic dX11_asTheyCame_2 (by unfold ol_inR; omega)) dX11_asTheyCame_3 rfl (ol_ltn rfl)) (rs_wh (pH := 4) (pB := 12) (pE := 25) (pG := 22) (rc_2F (pF := 25) ol_j2_ge_F (ri_vn dX11_asTheyCame_4 rfl) (ri_f (rr_vn dX11_asTheyCame_5 rfl) gfX11_219 dX11_asTheyCame_6) dX11_asTheyCame_9 (by decide)) (rs_seq (p2 := 19) (rs_setn (ri_2 ol_op_add (ri_2 ol_op_mul (ri_bi dX11_asTheyCame_12 (by unfold ol_inR; omega) (by decide)) (ri_vn dX11_asTheyCame_14 rfl) dX11_asTheyCame_15) (ri_vn dX11_asTheyCame_16 rfl) dX11_asTheyCame_17) dX11_asTheyCame_18 rfl (ol_ltn rfl)) (rs_inc dX11_asTheyCame_19 (ol_ltn rfl))) dX11_asTheyCame_22 (by decide))) (rs_ret (ri_vn dX11_asTheyCame_25 rfl) rfl dX11_asTheyCame_26))
theorem conX11_asTheyCame (l : Launch) (K : ol_K) : ol_Con l K yX11_asTheyCame mX11_asTheyCame fX11_asTheyCame := ol_con (M := mX11_asTheyCame) (by decide) rfl rfl (imX11_asTheyCame · K)
theorem dX11_isOrder_0 : decode cX11_isOrder 0 = .ok (.iconst 0, 1) := by decide +kernel
theorem dX11_isOrder_1 : decode cX11_isOrder 1 = .ok (.istore_n 2, 1) := by decide +kernel
theorem dX11_isOrder_2 : decode cX11_isOrder 2 = .ok (.iload_n 1, 1) := by decide +kernel
theorem dX11_isOrder_3 : decode cX11_isOrder 3 = .ok (.istore_n 3, 1) := by decide +kernel
theorem dX11_isOrder_4 : decode cX11_isOrder 4 = .ok (.iconst 0, 1) := by decide +kernel
theorem dX11_isOrder_5 : decode cX11_isOrder 5 = .ok (.istore 4, 2) := by decide +kernel
theorem dX11_isOrder_7 : decode cX11_isOrder 7 = .ok (.iload 4, 2) := by decide +kernel
theorem dX11_isOrder_9 : decode cX11_isOrder 9 = .ok (.aload_n 0, 1) := by decide +kernel
theorem dX11_isOrder_10 : decode cX11_isOrder 10 = .ok (.getfield 219, 3) := by decide +kernel
theorem dX11_isOrder_13 : decode cX11_isOrder 13 = .ok (.if_icmp .ge 23, 3) := by decide +kernel
theorem dX11_isOrder_16 : decode cX11_isOrder 16 = .ok (.iload_n 2, 1) := by decide +kernel
theorem dX11_isOrder_17 : decode cX11_isOrder 17 = .ok (.iconst 1, 1) := by decide +kernel
theorem dX11_isOrder_18 : decode cX11_isOrder 18 = .ok (.iload_n 3, 1) := by decide +kernel
theorem dX11_isOrder_19 : decode cX11_isOrder 19 = .ok (.bipush 10, 2) := by decide +kernel
theorem dX11_isOrder_21 : decode cX11_isOrder 21 = .ok (.irem, 1) := by decide +kernel
theorem dX11_isOrder_22 : decode cX11_isOrder 22 = .ok (.ishl, 1) := by decide +kernel
theorem dX11_isOrder_23 : decode cX11_isOrder 23 = .ok (.ior, 1) := by decide +kernel
theorem dX11_isOrder_24 : decode cX11_isOrder 24 = .ok (.istore_n 2, 1) := by decide +kernel
theorem dX11_isOrder_25 : decode cX11_isOrder 25 = .ok (.iload_n 3, 1) := by decide +kernel
theorem dX11_isOrder_26 : decode cX11_isOrder 26 = .ok (.bipush 10, 2) := by decide +kernel
theorem dX11_isOrder_28 : decode cX11_isOrder 28 = .ok (.idiv, 1) := by decide +kernel
theorem dX11_isOrder_29 : decode cX11_isOrder 29 = .ok (.istore_n 3, 1) := by decide +kernel
theorem dX11_isOrder_30 : decode cX11_isOrder 30 = .ok (.iinc 4 1, 3) := by decide +kernel
theorem dX11_isOrder_33 : decode cX11_isOrder 33 = .ok (.goto (-26), 3) := by decide +kernel
theorem dX11_isOrder_36 : decode cX11_isOrder 36 = .ok (.iload_n 3, 1) := by decide +kernel
theorem dX11_isOrder_37 : decode cX11_isOrder 37 = .ok (.ifCond .ne 19, 3) := by decide +kernel
theorem dX11_isOrder_40 : decode cX11_isOrder 40 = .ok (.iload_n 2, 1) := by decide +kernel
theorem dX11_isOrder_41 : decode cX11_isOrder 41 = .ok (.iconst 1, 1) := by decide +kernel
theorem dX11_isOrder_42 : decode cX11_isOrder 42 = .ok (.aload_n 0, 1) := by decide +kernel
theorem dX11_isOrder_43 : decode cX11_isOrder 43 = .ok (.getfield 219, 3) := by decide +kernel
theorem dX11_isOrder_46 : decode cX11_isOrder 46 = .ok (.ishl, 1) := by decide +kernel
theorem dX11_isOrder_47 : decode cX11_isOrder 47 = .ok (.iconst 1, 1) := by decide +kernel
theorem dX11_isOrder_48 : decode cX11_isOrder 48 = .ok (.isub, 1) := by decide +kernel
theorem dX11_isOrder_49 : decode cX11_isOrder 49 = .ok (.if_icmp .ne 7, 3) := by decide +kernel
theorem dX11_isOrder_52 : decode cX11_isOrder 52 = .ok (.iconst 1, 1) := by decide +kernel
theorem dX11_isOrder_53 : decode cX11_isOrder 53 = .ok (.goto 4, 3) := by decide +kernel
theorem dX11_isOrder_56 : decode cX11_isOrder 56 = .ok (.iconst 0, 1) := by decide +kernel
theorem dX11_isOrder_57 : decode cX11_isOrder 57 = .ok (.ireturn, 1) := by decide +kernel
def bX11_isOrder : ol_SE := es_seq (es_set 2 (ei_c 0)) (es_seq (es_set 3 (ei_v 1)) (es_seq (es_seq (es_set 4 (ei_c 0)) (es_wh (ec_2 ol_lt (ei_v 4) (ei_f 11 34 (er_v 0))) (es_seq (es_seq (es_set 2 (ei_2 ol_or (ei_v 2) (ei_2 ol_shl (ei_c 1) (ei_2 ol_rem (ei_v 3) (ei_c 10))))) (es_set 3 (ei_2 ol_div (ei_v 3) (ei_c 10)))) (es_inc 4 1)))) (es_retz (ei_if (ec_and (ec_z ol_eq (ei_v 3)) (ec_2 ol_eq (ei_v 2) (ei_2 ol_sub (ei_2 ol_shl (ei_c 1) (ei_f 11 34 (er_v 0))) (ei_c 1)))) (ei_c 1) (ei_c 0)))))
def fX11_isOrder : ol_FE := ol_fe 5 bX11_isOrder
set_option maxRecDepth 20000 in
theorem imX11_isOrder (x : ol_X) (K : ol_K) : IM_S x K mX11_isOrder 0 0 bX11_isOrder := rs_seq (p2 := 2) (rs_setn (ri_ic dX11_isOrder_0 (by unfold ol_inR; omega)) dX11_isOrder_1 rfl (ol_ltn rfl)) (rs_seq (p2 := 4) (rs_setn (ri_vn dX11_isOrder_2 rfl) dX11_isOrder_3 rfl (ol_ltn rfl)) (rs_seq (p2 := 36) (rs_seq (p2 := 7) (rs_set (ri_ic dX11_isOrder_4 (by unfold ol_inR; omega)) dX11_isOrder_5 (ol_ltn rfl)) (rs_wh (pH := 7) (pB := 16) (pE := 36) (pG := 33) (rc_2F (pF := 36) ol_j2_ge_F (ri_vi dX11_isOrder_7) (ri_f (rr_vn dX11_isOrder_9 rfl) gfX11_219 dX11_isOrder_10) dX11_isOrder_13 (by decide)) (rs_seq (p2 := 30) (rs_seq (p2 := 25) (rs_setn (ri_2 ol_op_or (ri_vn dX11_isOrder_16 rfl) (ri_2 ol_op_shl (ri_ic dX11_isOrder_17 (by unfold ol_inR; omega)) (ri_2 ol_op_rem (ri_vn dX11_isOrder_18 rfl) (ri_bi dX11_isOrder_19 (by unfold ol_inR; omega) (by decide)) dX11_isOrder_21) dX11_isOrder_22) dX11_isOrder_23) dX11_isOrder_24 rfl (ol_ltn rfl)) (rs_setn (ri_2 ol_op_div (ri_vn dX11_isOrder_25 rfl) (ri_bi dX11_isOrder_26 (by unfold ol_inR; omega) (by decide)) dX11_isOrder_28) dX11_isOrder_29 rfl (ol_ltn rfl))) (rs_inc dX11_isOrder_30 (ol_ltn rfl))) dX11_isOrder_33 (by decide))) (rs_retz (ri_if (pT := 52) (pF := 56) (p3 := 57) (rc_and (p2 := 40) (pT := 52) (pF := 56) (rc_zF (pF := 56) ol_j1_ne_F (ri_vn dX11_isOrder_36 rfl) dX11_isOrder_37 (by decide)) (rc_2F (pF := 56) ol_j2_ne_F (ri_vn dX11_isOrder_40 rfl) (ri_2 ol_op_sub (ri_2 ol_op_shl (ri_ic dX11_isOrder_41 (by unfold ol_inR; omega)) (ri_f (rr_vn dX11_isOrder_42 rfl) gfX11_219 dX11_isOrder_43) dX11_isOrder_46) (ri_ic dX11_isOrder_47 (by unfold ol_inR; omega)) dX11_isOrder_48) dX11_isOrder_49 (by decide))) (ri_ic dX11_isOrder_52 (by unfold ol_inR; omega)) dX11_isOrder_53 (by decide) (ri_ic dX11_isOrder_56 (by unfold ol_inR; omega))) rfl dX11_isOrder_57)))
theorem conX11_isOrder (l : Launch) (K : ol_K) : ol_Con l K yX11_isOrder mX11_isOrder fX11_isOrder := ol_con (M := mX11_isOrder) (by decide) rfl rfl (imX11_isOrder · K)
theorem dX11_count_0 : decode cX11_count 0 = .ok (.iload_n 1, 1) := by decide +kernel
theorem dX11_count_1 : decode cX11_count 1 = .ok (.ifCond .ne 10, 3) := by decide +kernel
theorem dX11_count_4 : decode cX11_count 4 = .ok (.aload_n 0, 1) := by decide +kernel
theorem dX11_count_5 : decode cX11_count 5 = .ok (.getfield 219, 3) := by decide +kernel
theorem dX11_count_8 : decode cX11_count 8 = .ok (.goto 40, 3) := by decide +kernel
theorem dX11_count_11 : decode cX11_count 11 = .ok (.iload_n 1, 1) := by decide +kernel
theorem dX11_count_12 : decode cX11_count 12 = .ok (.iconst 1, 1) := by decide +kernel
theorem dX11_count_13 : decode cX11_count 13 = .ok (.if_icmp .ne 10, 3) := by decide +kernel
theorem dX11_count_16 : decode cX11_count 16 = .ok (.aload_n 0, 1) := by decide +kernel
theorem dX11_count_17 : decode cX11_count 17 = .ok (.getfield 240, 3) := by decide +kernel
theorem dX11_count_20 : decode cX11_count 20 = .ok (.goto 28, 3) := by decide +kernel
theorem dX11_count_23 : decode cX11_count 23 = .ok (.iload_n 1, 1) := by decide +kernel
theorem dX11_count_24 : decode cX11_count 24 = .ok (.iconst 2, 1) := by decide +kernel
theorem dX11_count_25 : decode cX11_count 25 = .ok (.if_icmp .ne 10, 3) := by decide +kernel
theorem dX11_count_28 : decode cX11_count 28 = .ok (.aload_n 0, 1) := by decide +kernel
theorem dX11_count_29 : decode cX11_count 29 = .ok (.getfield 67, 3) := by decide +kernel
theorem dX11_count_32 : decode cX11_count 32 = .ok (.goto 16, 3) := by decide +kernel
theorem dX11_count_35 : decode cX11_count 35 = .ok (.iload_n 1, 1) := by decide +kernel
theorem dX11_count_36 : decode cX11_count 36 = .ok (.iconst 3, 1) := by decide +kernel
theorem dX11_count_37 : decode cX11_count 37 = .ok (.if_icmp .ne 10, 3) := by decide +kernel
theorem dX11_count_40 : decode cX11_count 40 = .ok (.aload_n 0, 1) := by decide +kernel
theorem dX11_count_41 : decode cX11_count 41 = .ok (.getfield 112, 3) := by decide +kernel
theorem dX11_count_44 : decode cX11_count 44 = .ok (.goto 4, 3) := by decide +kernel
theorem dX11_count_47 : decode cX11_count 47 = .ok (.iconst (-1), 1) := by decide +kernel
theorem dX11_count_48 : decode cX11_count 48 = .ok (.ireturn, 1) := by decide +kernel
def bX11_count : ol_SE := es_ret (ei_if (ec_z ol_eq (ei_v 1)) (ei_f 11 34 (er_v 0)) (ei_if (ec_2 ol_eq (ei_v 1) (ei_c 1)) (ei_f 11 38 (er_v 0)) (ei_if (ec_2 ol_eq (ei_v 1) (ei_c 2)) (ei_f 11 2 (er_v 0)) (ei_if (ec_2 ol_eq (ei_v 1) (ei_c 3)) (ei_f 11 4 (er_v 0)) (ei_c (-1))))))
def fX11_count : ol_FE := ol_fe 2 bX11_count
set_option maxRecDepth 20000 in
theorem imX11_count (x : ol_X) (K : ol_K) : IM_S x K mX11_count 0 0 bX11_count := rs_ret (ri_if (pT := 4) (pF := 11) (p3 := 48) (rc_zF (pF := 11) ol_j1_ne_F (ri_vn dX11_count_0 rfl) dX11_count_1 (by decide)) (ri_f (rr_vn dX11_count_4 rfl) gfX11_219 dX11_count_5) dX11_count_8 (by decide) (ri_if (pT := 16) (pF := 23) (p3 := 48) (rc_2F (pF := 23) ol_j2_ne_F (ri_vn dX11_count_11 rfl) (ri_ic dX11_count_12 (by unfold ol_inR; omega)) dX11_count_13 (by decide)) (ri_f (rr_vn dX11_count_16 rfl) gfX11_240 dX11_count_17) dX11_count_20 (by decide) (ri_if (pT := 28) (pF := 35) (p3 := 48) (rc_2F (pF := 35) ol_j2_ne_F (ri_vn dX11_count_23 rfl) (ri_ic dX11_count_24 (by unfold ol_inR; omega)) dX11_count_25 (by decide)) (ri_f (rr_vn dX11_count_28 rfl) gfX11_67 dX11_count_29) dX11_count_32 (by decide) (ri_if (pT := 40) (pF := 47) (p3 := 48) (rc_2F (pF := 47) ol_j2_ne_F (ri_vn dX11_count_35 rfl) (ri_ic dX11_count_36 (by unfold ol_inR; omega)) dX11_count_37 (by decide)) (ri_f (rr_vn dX11_count_40 rfl) gfX11_112 dX11_count_41) dX11_count_44 (by decide) (ri_ic dX11_count_47 (by unfold ol_inR; omega)))))) rfl dX11_count_48
theorem conX11_count (l : Launch) (K : ol_K) : ol_Con l K yX11_count mX11_count fX11_count := ol_con (M := mX11_count) (by decide) rfl rfl (imX11_count · K)
theorem dX11_trace_0 : decode cX11_trace 0 = .ok (.aload_n 0, 1) := by decide +kernel
theorem dX11_trace_1 : decode cX11_trace 1 = .ok (.getfield 246, 3) := by decide +kernel
theorem dX11_trace_4 : decode cX11_trace 4 = .ok (.lreturn, 1) := by decide +kernel
def bX11_trace : ol_SE := es_retj (ej_f 11 0 (er_v 0))
def fX11_trace : ol_FE := ol_fe 1 bX11_trace
set_option maxRecDepth 20000 in
theorem imX11_trace (x : ol_X) (K : ol_K) : IM_S x K mX11_trace 0 0 bX11_trace := rs_retj (rj_f (rr_vn dX11_trace_0 rfl) gfX11_246 dX11_trace_1) rfl dX11_trace_4
theorem conX11_trace (l : Launch) (K : ol_K) : ol_Con l K yX11_trace mX11_trace fX11_trace := ol_con (M := mX11_trace) (by decide) rfl rfl (imX11_trace · K)
theorem dX7_init_0 : decode cX7_init 0 = .ok (.aload_n 0, 1) := by decide +kernel
theorem dX7_init_1 : decode cX7_init 1 = .ok (.invokespecial 3, 3) := by decide +kernel
theorem dX7_init_4 : decode cX7_init 4 = .ok (.aload_n 0, 1) := by decide +kernel
theorem dX7_init_5 : decode cX7_init 5 = .ok (.sipush 300, 3) := by decide +kernel
theorem dX7_init_8 : decode cX7_init 8 = .ok (.newarray .int, 2) := by decide +kernel
theorem dX7_init_10 : decode cX7_init 10 = .ok (.putfield 9, 3) := by decide +kernel
theorem dX7_init_13 : decode cX7_init 13 = .ok (.aload_n 0, 1) := by decide +kernel
theorem dX7_init_14 : decode cX7_init 14 = .ok (.new 15, 3) := by decide +kernel
theorem dX7_init_17 : decode cX7_init 17 = .ok (.dup, 1) := by decide +kernel
theorem dX7_init_18 : decode cX7_init 18 = .ok (.invokespecial 17, 3) := by decide +kernel
theorem dX7_init_21 : decode cX7_init 21 = .ok (.putfield 18, 3) := by decide +kernel
theorem dX7_init_24 : decode cX7_init 24 = .ok (.return_, 1) := by decide +kernel
def bX7_init : ol_SE := es_seq (fun L h => (er_v 0 L h).bind fun q => some (none, L, q.2)) (es_seq (es_pr 7 0 (er_v 0) (er_na 100 3 363 300)) (es_seq (es_pr 7 1 (er_v 0) (er_n 5 tyX5 3 3 363 fX5_init (mc mX5_init) (ms mX5_init) (ea_0))) (es_retv)))
def fX7_init : ol_FE := ol_fe 1 bX7_init
set_option maxRecDepth 20000 in
theorem imX7_init (x : ol_X) (K : ol_K) : IM_S x K mX7_init 0 0 bX7_init := rs_seq (p2 := 4) (rs_obj (rr_vn dX7_init_0 rfl) dX7_init_1 ⟨tw_84, tw_77, tw_78⟩ (by decide)) (rs_seq (p2 := 13) (rs_pr (rr_vn dX7_init_4 rfl) (rr_na (t := 0) (n := 300) (ri_si dX7_init_5 (by unfold ol_inR; omega) (by decide)) (by decide) rfl rfl rfl (fun _ _ => rfl) tw_103 (by decide) dX7_init_8) pfX7_9 rfl rfl (Or.inr ⟨_, rfl⟩) dX7_init_10) (rs_seq (p2 := 24) (rs_pr (rr_vn dX7_init_13 rfl) (rr_n (T := TX5) (conX5_init _ K) dX7_init_14 dX7_init_17 (ra_0) dX7_init_18 rfl (by decide) inX5 tyX5_ok (by decide +kernel) ⟨tw_85, tw_86, tw_54⟩ (Or.inr ⟨_, List.mem_of_getElem? (i := 1) rfl⟩) hyX5_init rfl (by decide) (by decide) (by decide) (al_0)) pfX7_18 rfl rfl (Or.inl ⟨_, rfl⟩) dX7_init_21) (rs_retv rfl dX7_init_24)))
theorem conX7_init (l : Launch) (K : ol_K) : ol_Con l K yX7_init mX7_init fX7_init := ol_con (M := mX7_init) (by decide) rfl rfl (imX7_init · K)
theorem dX2_init_0 : decode cX2_init 0 = .ok (.aload_n 0, 1) := by decide +kernel
theorem dX2_init_1 : decode cX2_init 1 = .ok (.invokespecial 3, 3) := by decide +kernel
theorem dX2_init_4 : decode cX2_init 4 = .ok (.aload_n 0, 1) := by decide +kernel
theorem dX2_init_5 : decode cX2_init 5 = .ok (.new 9, 3) := by decide +kernel
theorem dX2_init_8 : decode cX2_init 8 = .ok (.dup, 1) := by decide +kernel
theorem dX2_init_9 : decode cX2_init 9 = .ok (.invokespecial 11, 3) := by decide +kernel
theorem dX2_init_12 : decode cX2_init 12 = .ok (.putfield 12, 3) := by decide +kernel
theorem dX2_init_15 : decode cX2_init 15 = .ok (.aload_n 0, 1) := by decide +kernel
theorem dX2_init_16 : decode cX2_init 16 = .ok (.iconst 4, 1) := by decide +kernel
theorem dX2_init_17 : decode cX2_init 17 = .ok (.anewarray 18, 3) := by decide +kernel
theorem dX2_init_20 : decode cX2_init 20 = .ok (.putfield 20, 3) := by decide +kernel
theorem dX2_init_23 : decode cX2_init 23 = .ok (.iconst 0, 1) := by decide +kernel
theorem dX2_init_24 : decode cX2_init 24 = .ok (.istore_n 1, 1) := by decide +kernel
theorem dX2_init_25 : decode cX2_init 25 = .ok (.iload_n 1, 1) := by decide +kernel
theorem dX2_init_26 : decode cX2_init 26 = .ok (.iconst 4, 1) := by decide +kernel
theorem dX2_init_27 : decode cX2_init 27 = .ok (.if_icmp .ge 22, 3) := by decide +kernel
theorem dX2_init_30 : decode cX2_init 30 = .ok (.aload_n 0, 1) := by decide +kernel
theorem dX2_init_31 : decode cX2_init 31 = .ok (.getfield 20, 3) := by decide +kernel
theorem dX2_init_34 : decode cX2_init 34 = .ok (.iload_n 1, 1) := by decide +kernel
theorem dX2_init_35 : decode cX2_init 35 = .ok (.new 18, 3) := by decide +kernel
theorem dX2_init_38 : decode cX2_init 38 = .ok (.dup, 1) := by decide +kernel
theorem dX2_init_39 : decode cX2_init 39 = .ok (.invokespecial 24, 3) := by decide +kernel
theorem dX2_init_42 : decode cX2_init 42 = .ok (.aastore, 1) := by decide +kernel
theorem dX2_init_43 : decode cX2_init 43 = .ok (.iinc 1 1, 3) := by decide +kernel
theorem dX2_init_46 : decode cX2_init 46 = .ok (.goto (-21), 3) := by decide +kernel
theorem dX2_init_49 : decode cX2_init 49 = .ok (.return_, 1) := by decide +kernel
def bX2_init : ol_SE := es_seq (fun L h => (er_v 0 L h).bind fun q => some (none, L, q.2)) (es_seq (es_pr 2 0 (er_v 0) (er_n 4 tyX4 1 7 809 fX4_init (mc mX4_init) (ms mX4_init) (ea_0))) (es_seq (es_pr 2 1 (er_v 0) (er_nr 106 7 809 4)) (es_seq (es_seq (es_set 1 (ei_c 0)) (es_wh (ec_2 ol_lt (ei_v 1) (ei_c 4)) (es_seq (es_rs 106 9 (er_f 2 1 (er_v 0)) (ei_v 1) (er_n 9 tyX9 6 7 809 fX9_init (mc mX9_init) (ms mX9_init) (ea_0))) (es_inc 1 1)))) (es_retv))))
def fX2_init : ol_FE := ol_fe 2 bX2_init
set_option maxRecDepth 20000 in
theorem imX2_init (x : ol_X) (K : ol_K) : IM_S x K mX2_init 0 0 bX2_init := rs_seq (p2 := 4) (rs_obj (rr_vn dX2_init_0 rfl) dX2_init_1 ⟨tw_137, tw_77, tw_78⟩ (by decide)) (rs_seq (p2 := 15) (rs_pr (rr_vn dX2_init_4 rfl) (rr_n (T := TX4) (conX4_init _ K) dX2_init_5 dX2_init_8 (ra_0) dX2_init_9 rfl (by decide) inX4 tyX4_ok (by decide +kernel) ⟨tw_138, tw_139, tw_56⟩ (Or.inr ⟨_, List.mem_of_getElem? (i := 2) rfl⟩) hyX4_init rfl (by decide) (by decide) (by decide) (al_0)) pfX2_12 rfl rfl (Or.inl ⟨_, rfl⟩) dX2_init_12) (rs_seq (p2 := 23) (rs_pr (rr_vn dX2_init_15 rfl) (rr_nr (t := 6) (n := 4) (ri_ic dX2_init_16 (by unfold ol_inR; omega)) (by decide) rfl (by decide) tw_150 (by decide) dX2_init_17) pfX2_20 rfl rfl (Or.inr ⟨_, rfl⟩) dX2_init_20) (rs_seq (p2 := 49) (rs_seq (p2 := 25) (rs_setn (ri_ic dX2_init_23 (by unfold ol_inR; omega)) dX2_init_24 rfl (ol_ltn rfl)) (rs_wh (pH := 25) (pB := 30) (pE := 49) (pG := 46) (rc_2F (pF := 49) ol_j2_ge_F (ri_vn dX2_init_25 rfl) (ri_ic dX2_init_26 (by unfold ol_inR; omega)) dX2_init_27 (by decide)) (rs_seq (p2 := 43) (rs_rs (t := 6) (rr_f (rr_vn dX2_init_30 rfl) gfX2_20 dX2_init_31) (ri_vn dX2_init_34 rfl) (rr_n (T := TX9) (conX9_init _ K) dX2_init_35 dX2_init_38 (ra_0) dX2_init_39 rfl (by decide) inX9 tyX9_ok (by decide +kernel) ⟨tw_150, tw_152, tw_57⟩ (Or.inr ⟨_, List.mem_of_getElem? (i := 3) rfl⟩) hyX9_init rfl (by decide) (by decide) (by decide) (al_0)) (by decide) (by decide) rfl rfl dX2_init_42) (rs_inc dX2_init_43 (ol_ltn rfl))) dX2_init_46 (by decide))) (rs_retv rfl dX2_init_49))))
theorem conX2_init (l : Launch) (K : ol_K) : ol_Con l K yX2_init mX2_init fX2_init := ol_con (M := mX2_init) (by decide) rfl rfl (imX2_init · K)
theorem dX1_init_0 : decode cX1_init 0 = .ok (.aload_n 0, 1) := by decide +kernel
theorem dX1_init_1 : decode cX1_init 1 = .ok (.invokespecial 3, 3) := by decide +kernel
theorem dX1_init_4 : decode cX1_init 4 = .ok (.aload_n 0, 1) := by decide +kernel
theorem dX1_init_5 : decode cX1_init 5 = .ok (.new 9, 3) := by decide +kernel
theorem dX1_init_8 : decode cX1_init 8 = .ok (.dup, 1) := by decide +kernel
theorem dX1_init_9 : decode cX1_init 9 = .ok (.invokespecial 11, 3) := by decide +kernel
theorem dX1_init_12 : decode cX1_init 12 = .ok (.putfield 12, 3) := by decide +kernel
theorem dX1_init_15 : decode cX1_init 15 = .ok (.return_, 1) := by decide +kernel
def bX1_init : ol_SE := es_seq (fun L h => (er_v 0 L h).bind fun q => some (none, L, q.2)) (es_seq (es_pr 1 0 (er_v 0) (er_n 6 tyX6 3 2 13 fX6_init (mc mX6_init) (ms mX6_init) (ea_0))) (es_retv))
def fX1_init : ol_FE := ol_fe 1 bX1_init
set_option maxRecDepth 20000 in
theorem imX1_init (x : ol_X) (K : ol_K) : IM_S x K mX1_init 0 0 bX1_init := rs_seq (p2 := 4) (rs_obj (rr_vn dX1_init_0 rfl) dX1_init_1 ⟨tw_205, tw_77, tw_78⟩ (by decide)) (rs_seq (p2 := 15) (rs_pr (rr_vn dX1_init_4 rfl) (rr_n (T := TX6) (conX6_init _ K) dX1_init_5 dX1_init_8 (ra_0) dX1_init_9 rfl (by decide) inX6 tyX6_ok (by decide +kernel) ⟨tw_206, tw_207, tw_59⟩ (Or.inr ⟨_, List.mem_of_getElem? (i := 5) rfl⟩) hyX6_init rfl (by decide) (by decide) (by decide) (al_0)) pfX1_12 rfl rfl (Or.inl ⟨_, rfl⟩) dX1_init_12) (rs_retv rfl dX1_init_15))
theorem conX1_init (l : Launch) (K : ol_K) : ol_Con l K yX1_init mX1_init fX1_init := ol_con (M := mX1_init) (by decide) rfl rfl (imX1_init · K)
theorem dX10_type_0 : decode cX10_type 0 = .ok (.iload_n 3, 1) := by decide +kernel
theorem dX10_type_1 : decode cX10_type 1 = .ok (.iconst 1, 1) := by decide +kernel
theorem dX10_type_2 : decode cX10_type 2 = .ok (.if_icmp .lt 9, 3) := by decide +kernel
theorem dX10_type_5 : decode cX10_type 5 = .ok (.iload_n 3, 1) := by decide +kernel
theorem dX10_type_6 : decode cX10_type 6 = .ok (.bipush 8, 2) := by decide +kernel
theorem dX10_type_8 : decode cX10_type 8 = .ok (.if_icmp .le 5, 3) := by decide +kernel
theorem dX10_type_11 : decode cX10_type 11 = .ok (.iconst (-1), 1) := by decide +kernel
theorem dX10_type_12 : decode cX10_type 12 = .ok (.ireturn, 1) := by decide +kernel
theorem dX10_type_13 : decode cX10_type 13 = .ok (.aload_n 0, 1) := by decide +kernel
theorem dX10_type_14 : decode cX10_type 14 = .ok (.getfield 10, 3) := by decide +kernel
theorem dX10_type_17 : decode cX10_type 17 = .ok (.getfield 91, 3) := by decide +kernel
theorem dX10_type_20 : decode cX10_type 20 = .ok (.iload_n 3, 1) := by decide +kernel
theorem dX10_type_21 : decode cX10_type 21 = .ok (.iadd, 1) := by decide +kernel
theorem dX10_type_22 : decode cX10_type 22 = .ok (.sipush 300, 3) := by decide +kernel
theorem dX10_type_25 : decode cX10_type 25 = .ok (.if_icmp .le 6, 3) := by decide +kernel
theorem dX10_type_28 : decode cX10_type 28 = .ok (.bipush (-3), 2) := by decide +kernel
theorem dX10_type_30 : decode cX10_type 30 = .ok (.ireturn, 1) := by decide +kernel
theorem dX10_type_31 : decode cX10_type 31 = .ok (.iload_n 3, 1) := by decide +kernel
theorem dX10_type_32 : decode cX10_type 32 = .ok (.iconst 1, 1) := by decide +kernel
theorem dX10_type_33 : decode cX10_type 33 = .ok (.isub, 1) := by decide +kernel
theorem dX10_type_34 : decode cX10_type 34 = .ok (.istore 4, 2) := by decide +kernel
theorem dX10_type_36 : decode cX10_type 36 = .ok (.iload 4, 2) := by decide +kernel
theorem dX10_type_38 : decode cX10_type 38 = .ok (.ifCond .lt 28, 3) := by decide +kernel
theorem dX10_type_41 : decode cX10_type 41 = .ok (.aload_n 0, 1) := by decide +kernel
theorem dX10_type_42 : decode cX10_type 42 = .ok (.getfield 10, 3) := by decide +kernel
theorem dX10_type_45 : decode cX10_type 45 = .ok (.lload_n 1, 1) := by decide +kernel
theorem dX10_type_46 : decode cX10_type 46 = .ok (.bipush 8, 2) := by decide +kernel
theorem dX10_type_48 : decode cX10_type 48 = .ok (.iload 4, 2) := by decide +kernel
theorem dX10_type_50 : decode cX10_type 50 = .ok (.imul, 1) := by decide +kernel
theorem dX10_type_51 : decode cX10_type 51 = .ok (.lushr, 1) := by decide +kernel
theorem dX10_type_52 : decode cX10_type 52 = .ok (.l2i, 1) := by decide +kernel
theorem dX10_type_53 : decode cX10_type 53 = .ok (.sipush 255, 3) := by decide +kernel
theorem dX10_type_56 : decode cX10_type 56 = .ok (.iand, 1) := by decide +kernel
theorem dX10_type_57 : decode cX10_type 57 = .ok (.invokevirtual 95, 3) := by decide +kernel
theorem dX10_type_60 : decode cX10_type 60 = .ok (.iinc 4 (-1), 3) := by decide +kernel
theorem dX10_type_63 : decode cX10_type 63 = .ok (.goto (-27), 3) := by decide +kernel
theorem dX10_type_66 : decode cX10_type 66 = .ok (.aload_n 0, 1) := by decide +kernel
theorem dX10_type_67 : decode cX10_type 67 = .ok (.getfield 10, 3) := by decide +kernel
theorem dX10_type_70 : decode cX10_type 70 = .ok (.getfield 91, 3) := by decide +kernel
theorem dX10_type_73 : decode cX10_type 73 = .ok (.ireturn, 1) := by decide +kernel
def bX10_type : ol_SE := es_seq (es_if (ec_or (ec_2 ol_lt (ei_v 3) (ei_c 1)) (ec_2 ol_gt (ei_v 3) (ei_c 8))) (es_ret (ei_c (-1))) es_skip) (es_seq (es_if (ec_2 ol_gt (ei_2 ol_add (ei_f 7 2 (er_f 10 0 (er_v 0))) (ei_v 3)) (ei_c 300)) (es_ret (ei_c (-3))) es_skip) (es_seq (es_seq (es_set 4 (ei_2 ol_sub (ei_v 3) (ei_c 1))) (es_wh (ec_z ol_ge (ei_v 4)) (es_seq (es_of (ea_cv 7 fX7_append (ea_r (er_f 10 0 (er_v 0)) (ea_i (ei_2 ol_and (ei_j (ej_s ej_ush (ej_v 1) (ei_2 ol_mul (ei_c 8) (ei_v 4)))) (ei_c 255)) (ea_0))))) (es_inc 4 (-1))))) (es_ret (ei_f 7 2 (er_f 10 0 (er_v 0))))))
def fX10_type : ol_FE := ol_fe 5 bX10_type
set_option maxRecDepth 20000 in
theorem imX10_type (x : ol_X) (K : ol_K) : IM_S x K mX10_type 0 0 bX10_type := rs_seq (p2 := 13) (rs_if (pT := 11) (pF := 13) (pE := 13) (rc_or (p2 := 5) (pT := 11) (pF := 13) (rc_2T (pT := 11) ol_j2_lt_T (ri_vn dX10_type_0 rfl) (ri_ic dX10_type_1 (by unfold ol_inR; omega)) dX10_type_2 (by decide)) (rc_2F (pF := 13) ol_j2_le_F (ri_vn dX10_type_5 rfl) (ri_bi dX10_type_6 (by unfold ol_inR; omega) (by decide)) dX10_type_8 (by decide))) (rs_ret (ri_ic dX10_type_11 (by unfold ol_inR; omega)) rfl dX10_type_12) rs_skip) (rs_seq (p2 := 31) (rs_if (pT := 28) (pF := 31) (pE := 31) (rc_2F (pF := 31) ol_j2_le_F (ri_2 ol_op_add (ri_f (rr_f (rr_vn dX10_type_13 rfl) gfX10_10 dX10_type_14) gfX10_91 dX10_type_17) (ri_vn dX10_type_20 rfl) dX10_type_21) (ri_si dX10_type_22 (by unfold ol_inR; omega) (by decide)) dX10_type_25 (by decide)) (rs_ret (ri_bi dX10_type_28 (by unfold ol_inR; omega) (by decide)) rfl dX10_type_30) rs_skip) (rs_seq (p2 := 66) (rs_seq (p2 := 36) (rs_set (ri_2 ol_op_sub (ri_vn dX10_type_31 rfl) (ri_ic dX10_type_32 (by unfold ol_inR; omega)) dX10_type_33) dX10_type_34 (ol_ltn rfl)) (rs_wh (pH := 36) (pB := 41) (pE := 66) (pG := 63) (rc_zF (pF := 66) ol_j1_lt_F (ri_vi dX10_type_36) dX10_type_38 (by decide)) (rs_seq (p2 := 60) (rs_k (rk_v (Mc := mX7_append) (conX7_append _ K) (ra_r (rr_f (rr_vn dX10_type_41 rfl) gfX10_10 dX10_type_42) (ra_i (ri_2 ol_op_and (ri_j (rj_ush (rj_vn dX10_type_45 rfl) (ri_2 ol_op_mul (ri_bi dX10_type_46 (by unfold ol_inR; omega) (by decide)) (ri_vi dX10_type_48) dX10_type_50) dX10_type_51) dX10_type_52) (ri_si dX10_type_53 (by unfold ol_inR; omega) (by decide)) dX10_type_56) (ra_0))) dX10_type_57 cwX10_95 tw_405 tw_406 (by decide) rfl rfl ⟨rfl, rfl, Nat.le_of_ble_eq_true rfl⟩ (by decide) (by decide) (al_r (al_i al_0)))) (rs_inc dX10_type_60 (ol_ltn rfl))) dX10_type_63 (by decide))) (rs_ret (ri_f (rr_f (rr_vn dX10_type_66 rfl) gfX10_10 dX10_type_67) gfX10_91 dX10_type_70) rfl dX10_type_73)))
theorem conX10_type (l : Launch) (K : ol_K) : ol_Con l K yX10_type mX10_type fX10_type := ol_con (M := mX10_type) (by decide) rfl rfl (imX10_type · K)
theorem dX7_readFigures_0 : decode cX7_readFigures 0 = .ok (.aload_n 0, 1) := by decide +kernel
theorem dX7_readFigures_1 : decode cX7_readFigures 1 = .ok (.iconst 0, 1) := by decide +kernel
theorem dX7_readFigures_2 : decode cX7_readFigures 2 = .ok (.putfield 52, 3) := by decide +kernel
theorem dX7_readFigures_5 : decode cX7_readFigures 5 = .ok (.aload_n 0, 1) := by decide +kernel
theorem dX7_readFigures_6 : decode cX7_readFigures 6 = .ok (.getfield 29, 3) := by decide +kernel
theorem dX7_readFigures_9 : decode cX7_readFigures 9 = .ok (.aload_n 0, 1) := by decide +kernel
theorem dX7_readFigures_10 : decode cX7_readFigures 10 = .ok (.getfield 22, 3) := by decide +kernel
theorem dX7_readFigures_13 : decode cX7_readFigures 13 = .ok (.if_icmp .ge 68, 3) := by decide +kernel
theorem dX7_readFigures_16 : decode cX7_readFigures 16 = .ok (.aload_n 0, 1) := by decide +kernel
theorem dX7_readFigures_17 : decode cX7_readFigures 17 = .ok (.getfield 9, 3) := by decide +kernel
theorem dX7_readFigures_20 : decode cX7_readFigures 20 = .ok (.aload_n 0, 1) := by decide +kernel
theorem dX7_readFigures_21 : decode cX7_readFigures 21 = .ok (.getfield 29, 3) := by decide +kernel
theorem dX7_readFigures_24 : decode cX7_readFigures 24 = .ok (.iaload, 1) := by decide +kernel
theorem dX7_readFigures_25 : decode cX7_readFigures 25 = .ok (.invokestatic 59, 3) := by decide +kernel
theorem dX7_readFigures_28 : decode cX7_readFigures 28 = .ok (.ifCond .eq 53, 3) := by decide +kernel
theorem dX7_readFigures_31 : decode cX7_readFigures 31 = .ok (.aload_n 0, 1) := by decide +kernel
theorem dX7_readFigures_32 : decode cX7_readFigures 32 = .ok (.getfield 29, 3) := by decide +kernel
theorem dX7_readFigures_35 : decode cX7_readFigures 35 = .ok (.aload_n 0, 1) := by decide +kernel
theorem dX7_readFigures_36 : decode cX7_readFigures 36 = .ok (.getfield 38, 3) := by decide +kernel
theorem dX7_readFigures_39 : decode cX7_readFigures 39 = .ok (.isub, 1) := by decide +kernel
theorem dX7_readFigures_40 : decode cX7_readFigures 40 = .ok (.iconst 2, 1) := by decide +kernel
theorem dX7_readFigures_41 : decode cX7_readFigures 41 = .ok (.if_icmp .ge 27, 3) := by decide +kernel
theorem dX7_readFigures_44 : decode cX7_readFigures 44 = .ok (.aload_n 0, 1) := by decide +kernel
theorem dX7_readFigures_45 : decode cX7_readFigures 45 = .ok (.aload_n 0, 1) := by decide +kernel
theorem dX7_readFigures_46 : decode cX7_readFigures 46 = .ok (.getfield 52, 3) := by decide +kernel
theorem dX7_readFigures_49 : decode cX7_readFigures 49 = .ok (.bipush 10, 2) := by decide +kernel
theorem dX7_readFigures_51 : decode cX7_readFigures 51 = .ok (.imul, 1) := by decide +kernel
theorem dX7_readFigures_52 : decode cX7_readFigures 52 = .ok (.aload_n 0, 1) := by decide +kernel
theorem dX7_readFigures_53 : decode cX7_readFigures 53 = .ok (.getfield 9, 3) := by decide +kernel
theorem dX7_readFigures_56 : decode cX7_readFigures 56 = .ok (.aload_n 0, 1) := by decide +kernel
theorem dX7_readFigures_57 : decode cX7_readFigures 57 = .ok (.getfield 29, 3) := by decide +kernel
theorem dX7_readFigures_60 : decode cX7_readFigures 60 = .ok (.iaload, 1) := by decide +kernel
theorem dX7_readFigures_61 : decode cX7_readFigures 61 = .ok (.iadd, 1) := by decide +kernel
theorem dX7_readFigures_62 : decode cX7_readFigures 62 = .ok (.bipush 48, 2) := by decide +kernel
theorem dX7_readFigures_64 : decode cX7_readFigures 64 = .ok (.isub, 1) := by decide +kernel
theorem dX7_readFigures_65 : decode cX7_readFigures 65 = .ok (.putfield 52, 3) := by decide +kernel
theorem dX7_readFigures_68 : decode cX7_readFigures 68 = .ok (.aload_n 0, 1) := by decide +kernel
theorem dX7_readFigures_69 : decode cX7_readFigures 69 = .ok (.dup, 1) := by decide +kernel
theorem dX7_readFigures_70 : decode cX7_readFigures 70 = .ok (.getfield 29, 3) := by decide +kernel
theorem dX7_readFigures_73 : decode cX7_readFigures 73 = .ok (.iconst 1, 1) := by decide +kernel
theorem dX7_readFigures_74 : decode cX7_readFigures 74 = .ok (.iadd, 1) := by decide +kernel
theorem dX7_readFigures_75 : decode cX7_readFigures 75 = .ok (.putfield 29, 3) := by decide +kernel
theorem dX7_readFigures_78 : decode cX7_readFigures 78 = .ok (.goto (-73), 3) := by decide +kernel
theorem dX7_readFigures_81 : decode cX7_readFigures 81 = .ok (.aload_n 0, 1) := by decide +kernel
theorem dX7_readFigures_82 : decode cX7_readFigures 82 = .ok (.getfield 29, 3) := by decide +kernel
theorem dX7_readFigures_85 : decode cX7_readFigures 85 = .ok (.aload_n 0, 1) := by decide +kernel
theorem dX7_readFigures_86 : decode cX7_readFigures 86 = .ok (.getfield 38, 3) := by decide +kernel
theorem dX7_readFigures_89 : decode cX7_readFigures 89 = .ok (.isub, 1) := by decide +kernel
theorem dX7_readFigures_90 : decode cX7_readFigures 90 = .ok (.istore_n 1, 1) := by decide +kernel
theorem dX7_readFigures_91 : decode cX7_readFigures 91 = .ok (.iload_n 1, 1) := by decide +kernel
theorem dX7_readFigures_92 : decode cX7_readFigures 92 = .ok (.iconst 2, 1) := by decide +kernel
theorem dX7_readFigures_93 : decode cX7_readFigures 93 = .ok (.if_icmp .ne 16, 3) := by decide +kernel
theorem dX7_readFigures_96 : decode cX7_readFigures 96 = .ok (.aload_n 0, 1) := by decide +kernel
theorem dX7_readFigures_97 : decode cX7_readFigures 97 = .ok (.getfield 52, 3) := by decide +kernel
theorem dX7_readFigures_100 : decode cX7_readFigures 100 = .ok (.bipush 10, 2) := by decide +kernel
theorem dX7_readFigures_102 : decode cX7_readFigures 102 = .ok (.if_icmp .ge 7, 3) := by decide +kernel
theorem dX7_readFigures_105 : decode cX7_readFigures 105 = .ok (.iconst 1, 1) := by decide +kernel
theorem dX7_readFigures_106 : decode cX7_readFigures 106 = .ok (.goto 4, 3) := by decide +kernel
theorem dX7_readFigures_109 : decode cX7_readFigures 109 = .ok (.iconst 0, 1) := by decide +kernel
theorem dX7_readFigures_110 : decode cX7_readFigures 110 = .ok (.istore_n 2, 1) := by decide +kernel
theorem dX7_readFigures_111 : decode cX7_readFigures 111 = .ok (.iload_n 1, 1) := by decide +kernel
theorem dX7_readFigures_112 : decode cX7_readFigures 112 = .ok (.iconst 2, 1) := by decide +kernel
theorem dX7_readFigures_113 : decode cX7_readFigures 113 = .ok (.if_icmp .gt 7, 3) := by decide +kernel
theorem dX7_readFigures_116 : decode cX7_readFigures 116 = .ok (.iload_n 2, 1) := by decide +kernel
theorem dX7_readFigures_117 : decode cX7_readFigures 117 = .ok (.ifCond .eq 7, 3) := by decide +kernel
theorem dX7_readFigures_120 : decode cX7_readFigures 120 = .ok (.iconst 5, 1) := by decide +kernel
theorem dX7_readFigures_121 : decode cX7_readFigures 121 = .ok (.goto 4, 3) := by decide +kernel
theorem dX7_readFigures_124 : decode cX7_readFigures 124 = .ok (.iconst 3, 1) := by decide +kernel
theorem dX7_readFigures_125 : decode cX7_readFigures 125 = .ok (.ireturn, 1) := by decide +kernel
def bX7_readFigures : ol_SE := es_seq (es_pf 7 6 (er_v 0) (ei_c 0)) (es_seq (es_wh (ec_and (ec_2 ol_lt (ei_f 7 3 (er_v 0)) (ei_f 7 2 (er_v 0))) (ec_z ol_ne (ei_of (ea_cs fX7_isFigure (ea_i (ei_a 100 (er_f 7 0 (er_v 0)) (ei_f 7 3 (er_v 0))) (ea_0)))))) (es_seq (es_if (ec_2 ol_lt (ei_2 ol_sub (ei_f 7 3 (er_v 0)) (ei_f 7 4 (er_v 0))) (ei_c 2)) (es_pf 7 6 (er_v 0) (ei_2 ol_sub (ei_2 ol_add (ei_2 ol_mul (ei_f 7 6 (er_v 0)) (ei_c 10)) (ei_a 100 (er_f 7 0 (er_v 0)) (ei_f 7 3 (er_v 0)))) (ei_c 48))) es_skip) (es_uf 7 3 (er_v 0) ol_add (ei_c 1)))) (es_seq (es_set 1 (ei_2 ol_sub (ei_f 7 3 (er_v 0)) (ei_f 7 4 (er_v 0)))) (es_seq (es_set 2 (ei_if (ec_and (ec_2 ol_eq (ei_v 1) (ei_c 2)) (ec_2 ol_lt (ei_f 7 6 (er_v 0)) (ei_c 10))) (ei_c 1) (ei_c 0))) (es_ret (ei_if (ec_or (ec_2 ol_gt (ei_v 1) (ei_c 2)) (ec_z ol_ne (ei_v 2))) (ei_c 5) (ei_c 3))))))
def fX7_readFigures : ol_FE := ol_fe 3 bX7_readFigures
set_option maxRecDepth 20000 in
theorem imX7_readFigures (x : ol_X) (K : ol_K) : IM_S x K mX7_readFigures 0 0 bX7_readFigures := rs_seq (p2 := 5) (rs_pf (rr_vn dX7_readFigures_0 rfl) (ri_ic dX7_readFigures_1 (by unfold ol_inR; omega)) pfX7_52 rfl dX7_readFigures_2) (rs_seq (p2 := 81) (rs_wh (pH := 5) (pB := 31) (pE := 81) (pG := 78) (rc_and (p2 := 16) (pT := 31) (pF := 81) (rc_2F (pF := 81) ol_j2_ge_F (ri_f (rr_vn dX7_readFigures_5 rfl) gfX7_29 dX7_readFigures_6) (ri_f (rr_vn dX7_readFigures_9 rfl) gfX7_22 dX7_readFigures_10) dX7_readFigures_13 (by decide)) (rc_zF (pF := 81) ol_j1_eq_F (ri_k (rk_s (Mc := mX7_isFigure) (conX7_isFigure _ K) (ra_i (ri_a (rr_f (rr_vn dX7_readFigures_16 rfl) gfX7_9 dX7_readFigures_17) (ri_f (rr_vn dX7_readFigures_20 rfl) gfX7_29 dX7_readFigures_21) rfl dX7_readFigures_24) (ra_0)) dX7_readFigures_25 cwX7_59 tw_428 ⟨rfl, rfl, Nat.le_of_ble_eq_true rfl⟩ (by decide) (by decide) (al_i al_0)) (Or.inr (Or.inl rfl))) dX7_readFigures_28 (by decide))) (rs_seq (p2 := 68) (rs_if (pT := 44) (pF := 68) (pE := 68) (rc_2F (pF := 68) ol_j2_ge_F (ri_2 ol_op_sub (ri_f (rr_vn dX7_readFigures_31 rfl) gfX7_29 dX7_readFigures_32) (ri_f (rr_vn dX7_readFigures_35 rfl) gfX7_38 dX7_readFigures_36) dX7_readFigures_39) (ri_ic dX7_readFigures_40 (by unfold ol_inR; omega)) dX7_readFigures_41 (by decide)) (rs_pf (rr_vn dX7_readFigures_44 rfl) (ri_2 ol_op_sub (ri_2 ol_op_add (ri_2 ol_op_mul (ri_f (rr_vn dX7_readFigures_45 rfl) gfX7_52 dX7_readFigures_46) (ri_bi dX7_readFigures_49 (by unfold ol_inR; omega) (by decide)) dX7_readFigures_51) (ri_a (rr_f (rr_vn dX7_readFigures_52 rfl) gfX7_9 dX7_readFigures_53) (ri_f (rr_vn dX7_readFigures_56 rfl) gfX7_29 dX7_readFigures_57) rfl dX7_readFigures_60) dX7_readFigures_61) (ri_bi dX7_readFigures_62 (by unfold ol_inR; omega) (by decide)) dX7_readFigures_64) pfX7_52 rfl dX7_readFigures_65) rs_skip) (rs_uf ol_op_add (rr_vn dX7_readFigures_68 rfl) dX7_readFigures_69 dX7_readFigures_70 (ri_ic dX7_readFigures_73 (by unfold ol_inR; omega)) dX7_readFigures_74 gfX7_29 pfX7_29 rfl dX7_readFigures_75)) dX7_readFigures_78 (by decide)) (rs_seq (p2 := 91) (rs_setn (ri_2 ol_op_sub (ri_f (rr_vn dX7_readFigures_81 rfl) gfX7_29 dX7_readFigures_82) (ri_f (rr_vn dX7_readFigures_85 rfl) gfX7_38 dX7_readFigures_86) dX7_readFigures_89) dX7_readFigures_90 rfl (ol_ltn rfl)) (rs_seq (p2 := 111) (rs_setn (ri_if (pT := 105) (pF := 109) (p3 := 110) (rc_and (p2 := 96) (pT := 105) (pF := 109) (rc_2F (pF := 109) ol_j2_ne_F (ri_vn dX7_readFigures_91 rfl) (ri_ic dX7_readFigures_92 (by unfold ol_inR; omega)) dX7_readFigures_93 (by decide)) (rc_2F (pF := 109) ol_j2_ge_F (ri_f (rr_vn dX7_readFigures_96 rfl) gfX7_52 dX7_readFigures_97) (ri_bi dX7_readFigures_100 (by unfold ol_inR; omega) (by decide)) dX7_readFigures_102 (by decide))) (ri_ic dX7_readFigures_105 (by unfold ol_inR; omega)) dX7_readFigures_106 (by decide) (ri_ic dX7_readFigures_109 (by unfold ol_inR; omega))) dX7_readFigures_110 rfl (ol_ltn rfl)) (rs_ret (ri_if (pT := 120) (pF := 124) (p3 := 125) (rc_or (p2 := 116) (pT := 120) (pF := 124) (rc_2T (pT := 120) ol_j2_gt_T (ri_vn dX7_readFigures_111 rfl) (ri_ic dX7_readFigures_112 (by unfold ol_inR; omega)) dX7_readFigures_113 (by decide)) (rc_zF (pF := 124) ol_j1_eq_F (ri_vn dX7_readFigures_116 rfl) dX7_readFigures_117 (by decide))) (ri_ic dX7_readFigures_120 (by unfold ol_inR; omega)) dX7_readFigures_121 (by decide) (ri_ic dX7_readFigures_124 (by unfold ol_inR; omega))) rfl dX7_readFigures_125))))
theorem conX7_readFigures (l : Launch) (K : ol_K) : ol_Con l K yX7_readFigures mX7_readFigures fX7_readFigures := ol_con (M := mX7_readFigures) (by decide) rfl rfl (imX7_readFigures · K)
theorem dX7_skipLetters_0 : decode cX7_skipLetters 0 = .ok (.aload_n 0, 1) := by decide +kernel
theorem dX7_skipLetters_1 : decode cX7_skipLetters 1 = .ok (.getfield 29, 3) := by decide +kernel
theorem dX7_skipLetters_4 : decode cX7_skipLetters 4 = .ok (.aload_n 0, 1) := by decide +kernel
theorem dX7_skipLetters_5 : decode cX7_skipLetters 5 = .ok (.getfield 22, 3) := by decide +kernel
theorem dX7_skipLetters_8 : decode cX7_skipLetters 8 = .ok (.if_icmp .ge 31, 3) := by decide +kernel
theorem dX7_skipLetters_11 : decode cX7_skipLetters 11 = .ok (.aload_n 0, 1) := by decide +kernel
theorem dX7_skipLetters_12 : decode cX7_skipLetters 12 = .ok (.getfield 9, 3) := by decide +kernel
theorem dX7_skipLetters_15 : decode cX7_skipLetters 15 = .ok (.aload_n 0, 1) := by decide +kernel
theorem dX7_skipLetters_16 : decode cX7_skipLetters 16 = .ok (.getfield 29, 3) := by decide +kernel
theorem dX7_skipLetters_19 : decode cX7_skipLetters 19 = .ok (.iaload, 1) := by decide +kernel
theorem dX7_skipLetters_20 : decode cX7_skipLetters 20 = .ok (.invokestatic 67, 3) := by decide +kernel
theorem dX7_skipLetters_23 : decode cX7_skipLetters 23 = .ok (.ifCond .eq 16, 3) := by decide +kernel
theorem dX7_skipLetters_26 : decode cX7_skipLetters 26 = .ok (.aload_n 0, 1) := by decide +kernel
theorem dX7_skipLetters_27 : decode cX7_skipLetters 27 = .ok (.dup, 1) := by decide +kernel
theorem dX7_skipLetters_28 : decode cX7_skipLetters 28 = .ok (.getfield 29, 3) := by decide +kernel
theorem dX7_skipLetters_31 : decode cX7_skipLetters 31 = .ok (.iconst 1, 1) := by decide +kernel
theorem dX7_skipLetters_32 : decode cX7_skipLetters 32 = .ok (.iadd, 1) := by decide +kernel
theorem dX7_skipLetters_33 : decode cX7_skipLetters 33 = .ok (.putfield 29, 3) := by decide +kernel
theorem dX7_skipLetters_36 : decode cX7_skipLetters 36 = .ok (.goto (-36), 3) := by decide +kernel
theorem dX7_skipLetters_39 : decode cX7_skipLetters 39 = .ok (.return_, 1) := by decide +kernel
def bX7_skipLetters : ol_SE := es_seq (es_wh (ec_and (ec_2 ol_lt (ei_f 7 3 (er_v 0)) (ei_f 7 2 (er_v 0))) (ec_z ol_ne (ei_of (ea_cs fX7_isLetter (ea_i (ei_a 100 (er_f 7 0 (er_v 0)) (ei_f 7 3 (er_v 0))) (ea_0)))))) (es_uf 7 3 (er_v 0) ol_add (ei_c 1))) (es_retv)
def fX7_skipLetters : ol_FE := ol_fe 1 bX7_skipLetters
set_option maxRecDepth 20000 in
theorem imX7_skipLetters (x : ol_X) (K : ol_K) : IM_S x K mX7_skipLetters 0 0 bX7_skipLetters := rs_seq (p2 := 39) (rs_wh (pH := 0) (pB := 26) (pE := 39) (pG := 36) (rc_and (p2 := 11) (pT := 26) (pF := 39) (rc_2F (pF := 39) ol_j2_ge_F (ri_f (rr_vn dX7_skipLetters_0 rfl) gfX7_29 dX7_skipLetters_1) (ri_f (rr_vn dX7_skipLetters_4 rfl) gfX7_22 dX7_skipLetters_5) dX7_skipLetters_8 (by decide)) (rc_zF (pF := 39) ol_j1_eq_F (ri_k (rk_s (Mc := mX7_isLetter) (conX7_isLetter _ K) (ra_i (ri_a (rr_f (rr_vn dX7_skipLetters_11 rfl) gfX7_9 dX7_skipLetters_12) (ri_f (rr_vn dX7_skipLetters_15 rfl) gfX7_29 dX7_skipLetters_16) rfl dX7_skipLetters_19) (ra_0)) dX7_skipLetters_20 cwX7_67 tw_435 ⟨rfl, rfl, Nat.le_of_ble_eq_true rfl⟩ (by decide) (by decide) (al_i al_0)) (Or.inr (Or.inl rfl))) dX7_skipLetters_23 (by decide))) (rs_uf ol_op_add (rr_vn dX7_skipLetters_26 rfl) dX7_skipLetters_27 dX7_skipLetters_28 (ri_ic dX7_skipLetters_31 (by unfold ol_inR; omega)) dX7_skipLetters_32 gfX7_29 pfX7_29 rfl dX7_skipLetters_33) dX7_skipLetters_36 (by decide)) (rs_retv rfl dX7_skipLetters_39)
theorem conX7_skipLetters (l : Launch) (K : ol_K) : ol_Con l K yX7_skipLetters mX7_skipLetters fX7_skipLetters := ol_con (M := mX7_skipLetters) (by decide) rfl rfl (imX7_skipLetters · K)
theorem dX5_layItem_0 : decode cX5_layItem 0 = .ok (.aload_n 0, 1) := by decide +kernel
theorem dX5_layItem_1 : decode cX5_layItem 1 = .ok (.getfield 11, 3) := by decide +kernel
theorem dX5_layItem_4 : decode cX5_layItem 4 = .ok (.iload_n 2, 1) := by decide +kernel
theorem dX5_layItem_5 : decode cX5_layItem 5 = .ok (.iconst 4, 1) := by decide +kernel
theorem dX5_layItem_6 : decode cX5_layItem 6 = .ok (.iadd, 1) := by decide +kernel
theorem dX5_layItem_7 : decode cX5_layItem 7 = .ok (.iaload, 1) := by decide +kernel
theorem dX5_layItem_8 : decode cX5_layItem 8 = .ok (.istore_n 3, 1) := by decide +kernel
theorem dX5_layItem_9 : decode cX5_layItem 9 = .ok (.iload_n 3, 1) := by decide +kernel
theorem dX5_layItem_10 : decode cX5_layItem 10 = .ok (.ifCond .ne 24, 3) := by decide +kernel
theorem dX5_layItem_13 : decode cX5_layItem 13 = .ok (.aload_n 1, 1) := by decide +kernel
theorem dX5_layItem_14 : decode cX5_layItem 14 = .ok (.aload_n 0, 1) := by decide +kernel
theorem dX5_layItem_15 : decode cX5_layItem 15 = .ok (.getfield 11, 3) := by decide +kernel
theorem dX5_layItem_18 : decode cX5_layItem 18 = .ok (.iload_n 2, 1) := by decide +kernel
theorem dX5_layItem_19 : decode cX5_layItem 19 = .ok (.iconst 2, 1) := by decide +kernel
theorem dX5_layItem_20 : decode cX5_layItem 20 = .ok (.iadd, 1) := by decide +kernel
theorem dX5_layItem_21 : decode cX5_layItem 21 = .ok (.iaload, 1) := by decide +kernel
theorem dX5_layItem_22 : decode cX5_layItem 22 = .ok (.aload_n 0, 1) := by decide +kernel
theorem dX5_layItem_23 : decode cX5_layItem 23 = .ok (.getfield 11, 3) := by decide +kernel
theorem dX5_layItem_26 : decode cX5_layItem 26 = .ok (.iload_n 2, 1) := by decide +kernel
theorem dX5_layItem_27 : decode cX5_layItem 27 = .ok (.iconst 3, 1) := by decide +kernel
theorem dX5_layItem_28 : decode cX5_layItem 28 = .ok (.iadd, 1) := by decide +kernel
theorem dX5_layItem_29 : decode cX5_layItem 29 = .ok (.iaload, 1) := by decide +kernel
theorem dX5_layItem_30 : decode cX5_layItem 30 = .ok (.invokevirtual 25, 3) := by decide +kernel
theorem dX5_layItem_33 : decode cX5_layItem 33 = .ok (.return_, 1) := by decide +kernel
theorem dX5_layItem_34 : decode cX5_layItem 34 = .ok (.aload_n 0, 1) := by decide +kernel
theorem dX5_layItem_35 : decode cX5_layItem 35 = .ok (.getfield 11, 3) := by decide +kernel
theorem dX5_layItem_38 : decode cX5_layItem 38 = .ok (.iload_n 2, 1) := by decide +kernel
theorem dX5_layItem_39 : decode cX5_layItem 39 = .ok (.iconst 2, 1) := by decide +kernel
theorem dX5_layItem_40 : decode cX5_layItem 40 = .ok (.iadd, 1) := by decide +kernel
theorem dX5_layItem_41 : decode cX5_layItem 41 = .ok (.iaload, 1) := by decide +kernel
theorem dX5_layItem_42 : decode cX5_layItem 42 = .ok (.istore 4, 2) := by decide +kernel
theorem dX5_layItem_44 : decode cX5_layItem 44 = .ok (.iload 4, 2) := by decide +kernel
theorem dX5_layItem_46 : decode cX5_layItem 46 = .ok (.aload_n 0, 1) := by decide +kernel
theorem dX5_layItem_47 : decode cX5_layItem 47 = .ok (.getfield 11, 3) := by decide +kernel
theorem dX5_layItem_50 : decode cX5_layItem 50 = .ok (.iload_n 2, 1) := by decide +kernel
theorem dX5_layItem_51 : decode cX5_layItem 51 = .ok (.iconst 3, 1) := by decide +kernel
theorem dX5_layItem_52 : decode cX5_layItem 52 = .ok (.iadd, 1) := by decide +kernel
theorem dX5_layItem_53 : decode cX5_layItem 53 = .ok (.iaload, 1) := by decide +kernel
theorem dX5_layItem_54 : decode cX5_layItem 54 = .ok (.if_icmp .gt 30, 3) := by decide +kernel
theorem dX5_layItem_57 : decode cX5_layItem 57 = .ok (.aload_n 1, 1) := by decide +kernel
theorem dX5_layItem_58 : decode cX5_layItem 58 = .ok (.aload_n 0, 1) := by decide +kernel
theorem dX5_layItem_59 : decode cX5_layItem 59 = .ok (.getfield 11, 3) := by decide +kernel
theorem dX5_layItem_62 : decode cX5_layItem 62 = .ok (.iload_n 2, 1) := by decide +kernel
theorem dX5_layItem_63 : decode cX5_layItem 63 = .ok (.iaload, 1) := by decide +kernel
theorem dX5_layItem_64 : decode cX5_layItem 64 = .ok (.aload_n 0, 1) := by decide +kernel
theorem dX5_layItem_65 : decode cX5_layItem 65 = .ok (.getfield 11, 3) := by decide +kernel
theorem dX5_layItem_68 : decode cX5_layItem 68 = .ok (.iload_n 2, 1) := by decide +kernel
theorem dX5_layItem_69 : decode cX5_layItem 69 = .ok (.iconst 1, 1) := by decide +kernel
theorem dX5_layItem_70 : decode cX5_layItem 70 = .ok (.iadd, 1) := by decide +kernel
theorem dX5_layItem_71 : decode cX5_layItem 71 = .ok (.iaload, 1) := by decide +kernel
theorem dX5_layItem_72 : decode cX5_layItem 72 = .ok (.iload 4, 2) := by decide +kernel
theorem dX5_layItem_74 : decode cX5_layItem 74 = .ok (.iload_n 3, 1) := by decide +kernel
theorem dX5_layItem_75 : decode cX5_layItem 75 = .ok (.invokevirtual 35, 3) := by decide +kernel
theorem dX5_layItem_78 : decode cX5_layItem 78 = .ok (.iinc 4 1, 3) := by decide +kernel
theorem dX5_layItem_81 : decode cX5_layItem 81 = .ok (.goto (-37), 3) := by decide +kernel
theorem dX5_layItem_84 : decode cX5_layItem 84 = .ok (.return_, 1) := by decide +kernel
def bX5_layItem : ol_SE := es_seq (es_set 3 (ei_a 100 (er_f 5 0 (er_v 0)) (ei_2 ol_add (ei_v 2) (ei_c 4)))) (es_seq (es_if (ec_z ol_eq (ei_v 3)) (es_seq (es_of (ea_cv 4 fX4_dry (ea_r (er_v 1) (ea_i (ei_a 100 (er_f 5 0 (er_v 0)) (ei_2 ol_add (ei_v 2) (ei_c 2))) (ea_i (ei_a 100 (er_f 5 0 (er_v 0)) (ei_2 ol_add (ei_v 2) (ei_c 3))) (ea_0)))))) (es_retv)) es_skip) (es_seq (es_seq (es_set 4 (ei_a 100 (er_f 5 0 (er_v 0)) (ei_2 ol_add (ei_v 2) (ei_c 2)))) (es_wh (ec_2 ol_le (ei_v 4) (ei_a 100 (er_f 5 0 (er_v 0)) (ei_2 ol_add (ei_v 2) (ei_c 3)))) (es_seq (es_of (ea_cv 4 fX4_spread (ea_r (er_v 1) (ea_i (ei_a 100 (er_f 5 0 (er_v 0)) (ei_v 2)) (ea_i (ei_a 100 (er_f 5 0 (er_v 0)) (ei_2 ol_add (ei_v 2) (ei_c 1))) (ea_i (ei_v 4) (ea_i (ei_v 3) (ea_0)))))))) (es_inc 4 1)))) (es_retv)))
def fX5_layItem : ol_FE := ol_fe 5 bX5_layItem
set_option maxRecDepth 20000 in
theorem imX5_layItem (x : ol_X) (K : ol_K) : IM_S x K mX5_layItem 0 0 bX5_layItem := rs_seq (p2 := 9) (rs_setn (ri_a (rr_f (rr_vn dX5_layItem_0 rfl) gfX5_11 dX5_layItem_1) (ri_2 ol_op_add (ri_vn dX5_layItem_4 rfl) (ri_ic dX5_layItem_5 (by unfold ol_inR; omega)) dX5_layItem_6) rfl dX5_layItem_7) dX5_layItem_8 rfl (ol_ltn rfl)) (rs_seq (p2 := 34) (rs_if (pT := 13) (pF := 34) (pE := 34) (rc_zF (pF := 34) ol_j1_ne_F (ri_vn dX5_layItem_9 rfl) dX5_layItem_10 (by decide)) (rs_seq (p2 := 33) (rs_k (rk_v (Mc := mX4_dry) (conX4_dry _ K) (ra_r (rr_vn dX5_layItem_13 rfl) (ra_i (ri_a (rr_f (rr_vn dX5_layItem_14 rfl) gfX5_11 dX5_layItem_15) (ri_2 ol_op_add (ri_vn dX5_layItem_18 rfl) (ri_ic dX5_layItem_19 (by unfold ol_inR; omega)) dX5_layItem_20) rfl dX5_layItem_21) (ra_i (ri_a (rr_f (rr_vn dX5_layItem_22 rfl) gfX5_11 dX5_layItem_23) (ri_2 ol_op_add (ri_vn dX5_layItem_26 rfl) (ri_ic dX5_layItem_27 (by unfold ol_inR; omega)) dX5_layItem_28) rfl dX5_layItem_29) (ra_0)))) dX5_layItem_30 cwX5_25 tw_528 tw_529 (by decide) rfl rfl ⟨rfl, rfl, Nat.le_of_ble_eq_true rfl⟩ (by decide) (by decide) (al_r (al_i (al_i al_0))))) (rs_retv rfl dX5_layItem_33)) rs_skip) (rs_seq (p2 := 84) (rs_seq (p2 := 44) (rs_set (ri_a (rr_f (rr_vn dX5_layItem_34 rfl) gfX5_11 dX5_layItem_35) (ri_2 ol_op_add (ri_vn dX5_layItem_38 rfl) (ri_ic dX5_layItem_39 (by unfold ol_inR; omega)) dX5_layItem_40) rfl dX5_layItem_41) dX5_layItem_42 (ol_ltn rfl)) (rs_wh (pH := 44) (pB := 57) (pE := 84) (pG := 81) (rc_2F (pF := 84) ol_j2_gt_F (ri_vi dX5_layItem_44) (ri_a (rr_f (rr_vn dX5_layItem_46 rfl) gfX5_11 dX5_layItem_47) (ri_2 ol_op_add (ri_vn dX5_layItem_50 rfl) (ri_ic dX5_layItem_51 (by unfold ol_inR; omega)) dX5_layItem_52) rfl dX5_layItem_53) dX5_layItem_54 (by decide)) (rs_seq (p2 := 78) (rs_k (rk_v (Mc := mX4_spread) (conX4_spread _ K) (ra_r (rr_vn dX5_layItem_57 rfl) (ra_i (ri_a (rr_f (rr_vn dX5_layItem_58 rfl) gfX5_11 dX5_layItem_59) (ri_vn dX5_layItem_62 rfl) rfl dX5_layItem_63) (ra_i (ri_a (rr_f (rr_vn dX5_layItem_64 rfl) gfX5_11 dX5_layItem_65) (ri_2 ol_op_add (ri_vn dX5_layItem_68 rfl) (ri_ic dX5_layItem_69 (by unfold ol_inR; omega)) dX5_layItem_70) rfl dX5_layItem_71) (ra_i (ri_vi dX5_layItem_72) (ra_i (ri_vn dX5_layItem_74 rfl) (ra_0)))))) dX5_layItem_75 cwX5_35 tw_536 tw_537 (by decide) rfl rfl ⟨rfl, rfl, Nat.le_of_ble_eq_true rfl⟩ (by decide) (by decide) (al_r (al_i (al_i (al_i (al_i al_0))))))) (rs_inc dX5_layItem_78 (ol_ltn rfl))) dX5_layItem_81 (by decide))) (rs_retv rfl dX5_layItem_84)))
theorem conX5_layItem (l : Launch) (K : ol_K) : ol_Con l K yX5_layItem mX5_layItem fX5_layItem := ol_con (M := mX5_layItem) (by decide) rfl rfl (imX5_layItem · K)
theorem dX10_drops_0 : decode cX10_drops 0 = .ok (.iload_n 1, 1) := by decide +kernel
theorem dX10_drops_1 : decode cX10_drops 1 = .ok (.iconst 0, 1) := by decide +kernel
theorem dX10_drops_2 : decode cX10_drops 2 = .ok (.bipush 38, 2) := by decide +kernel
theorem dX10_drops_4 : decode cX10_drops 4 = .ok (.invokestatic 98, 3) := by decide +kernel
theorem dX10_drops_7 : decode cX10_drops 7 = .ok (.ifCond .ne 13, 3) := by decide +kernel
theorem dX10_drops_10 : decode cX10_drops 10 = .ok (.iload_n 2, 1) := by decide +kernel
theorem dX10_drops_11 : decode cX10_drops 11 = .ok (.iconst 0, 1) := by decide +kernel
theorem dX10_drops_12 : decode cX10_drops 12 = .ok (.bipush 19, 2) := by decide +kernel
theorem dX10_drops_14 : decode cX10_drops 14 = .ok (.invokestatic 98, 3) := by decide +kernel
theorem dX10_drops_17 : decode cX10_drops 17 = .ok (.ifCond .eq 5, 3) := by decide +kernel
theorem dX10_drops_20 : decode cX10_drops 20 = .ok (.iconst (-1), 1) := by decide +kernel
theorem dX10_drops_21 : decode cX10_drops 21 = .ok (.ireturn, 1) := by decide +kernel
theorem dX10_drops_22 : decode cX10_drops 22 = .ok (.aload_n 0, 1) := by decide +kernel
theorem dX10_drops_23 : decode cX10_drops 23 = .ok (.getfield 31, 3) := by decide +kernel
theorem dX10_drops_26 : decode cX10_drops 26 = .ok (.getfield 121, 3) := by decide +kernel
theorem dX10_drops_29 : decode cX10_drops 29 = .ok (.getfield 135, 3) := by decide +kernel
theorem dX10_drops_32 : decode cX10_drops 32 = .ok (.iload_n 2, 1) := by decide +kernel
theorem dX10_drops_33 : decode cX10_drops 33 = .ok (.bipush 39, 2) := by decide +kernel
theorem dX10_drops_35 : decode cX10_drops 35 = .ok (.imul, 1) := by decide +kernel
theorem dX10_drops_36 : decode cX10_drops 36 = .ok (.iload_n 1, 1) := by decide +kernel
theorem dX10_drops_37 : decode cX10_drops 37 = .ok (.iadd, 1) := by decide +kernel
theorem dX10_drops_38 : decode cX10_drops 38 = .ok (.iaload, 1) := by decide +kernel
theorem dX10_drops_39 : decode cX10_drops 39 = .ok (.ireturn, 1) := by decide +kernel
def bX10_drops : ol_SE := es_seq (es_if (ec_or (ec_z ol_ne (ei_of (ea_cs fX10_outside (ea_i (ei_v 1) (ea_i (ei_c 0) (ea_i (ei_c 38) (ea_0))))))) (ec_z ol_ne (ei_of (ea_cs fX10_outside (ea_i (ei_v 2) (ea_i (ei_c 0) (ea_i (ei_c 19) (ea_0)))))))) (es_ret (ei_c (-1))) es_skip) (es_ret (ei_a 100 (er_f 4 0 (er_f 2 0 (er_f 10 3 (er_v 0)))) (ei_2 ol_add (ei_2 ol_mul (ei_v 2) (ei_c 39)) (ei_v 1))))
def fX10_drops : ol_FE := ol_fe 3 bX10_drops
set_option maxRecDepth 20000 in
theorem imX10_drops (x : ol_X) (K : ol_K) : IM_S x K mX10_drops 0 0 bX10_drops := rs_seq (p2 := 22) (rs_if (pT := 20) (pF := 22) (pE := 22) (rc_or (p2 := 10) (pT := 20) (pF := 22) (rc_zT (pT := 20) ol_j1_ne_T (ri_k (rk_s (Mc := mX10_outside) (conX10_outside _ K) (ra_i (ri_vn dX10_drops_0 rfl) (ra_i (ri_ic dX10_drops_1 (by unfold ol_inR; omega)) (ra_i (ri_bi dX10_drops_2 (by unfold ol_inR; omega) (by decide)) (ra_0)))) dX10_drops_4 cwX10_98 tw_417 ⟨rfl, rfl, Nat.le_of_ble_eq_true rfl⟩ (by decide) (by decide) (al_i (al_i (al_i al_0)))) (Or.inr (Or.inl rfl))) dX10_drops_7 (by decide)) (rc_zF (pF := 22) ol_j1_eq_F (ri_k (rk_s (Mc := mX10_outside) (conX10_outside _ K) (ra_i (ri_vn dX10_drops_10 rfl) (ra_i (ri_ic dX10_drops_11 (by unfold ol_inR; omega)) (ra_i (ri_bi dX10_drops_12 (by unfold ol_inR; omega) (by decide)) (ra_0)))) dX10_drops_14 cwX10_98 tw_417 ⟨rfl, rfl, Nat.le_of_ble_eq_true rfl⟩ (by decide) (by decide) (al_i (al_i (al_i al_0)))) (Or.inr (Or.inl rfl))) dX10_drops_17 (by decide))) (rs_ret (ri_ic dX10_drops_20 (by unfold ol_inR; omega)) rfl dX10_drops_21) rs_skip) (rs_ret (ri_a (rr_f (rr_f (rr_f (rr_vn dX10_drops_22 rfl) gfX10_31 dX10_drops_23) gfX10_121 dX10_drops_26) gfX10_135 dX10_drops_29) (ri_2 ol_op_add (ri_2 ol_op_mul (ri_vn dX10_drops_32 rfl) (ri_bi dX10_drops_33 (by unfold ol_inR; omega) (by decide)) dX10_drops_35) (ri_vn dX10_drops_36 rfl) dX10_drops_37) rfl dX10_drops_38) rfl dX10_drops_39)
theorem conX10_drops (l : Launch) (K : ol_K) : ol_Con l K yX10_drops mX10_drops fX10_drops := ol_con (M := mX10_drops) (by decide) rfl rfl (imX10_drops · K)
theorem dX10_oil_0 : decode cX10_oil 0 = .ok (.iload_n 1, 1) := by decide +kernel
theorem dX10_oil_1 : decode cX10_oil 1 = .ok (.iconst (-1), 1) := by decide +kernel
theorem dX10_oil_2 : decode cX10_oil 2 = .ok (.bipush 19, 2) := by decide +kernel
theorem dX10_oil_4 : decode cX10_oil 4 = .ok (.invokestatic 98, 3) := by decide +kernel
theorem dX10_oil_7 : decode cX10_oil 7 = .ok (.ifCond .eq 5, 3) := by decide +kernel
theorem dX10_oil_10 : decode cX10_oil 10 = .ok (.iconst (-1), 1) := by decide +kernel
theorem dX10_oil_11 : decode cX10_oil 11 = .ok (.ireturn, 1) := by decide +kernel
theorem dX10_oil_12 : decode cX10_oil 12 = .ok (.iload_n 1, 1) := by decide +kernel
theorem dX10_oil_13 : decode cX10_oil 13 = .ok (.iconst (-1), 1) := by decide +kernel
theorem dX10_oil_14 : decode cX10_oil 14 = .ok (.if_icmp .ne 17, 3) := by decide +kernel
theorem dX10_oil_17 : decode cX10_oil 17 = .ok (.aload_n 0, 1) := by decide +kernel
theorem dX10_oil_18 : decode cX10_oil 18 = .ok (.getfield 31, 3) := by decide +kernel
theorem dX10_oil_21 : decode cX10_oil 21 = .ok (.getfield 121, 3) := by decide +kernel
theorem dX10_oil_24 : decode cX10_oil 24 = .ok (.iconst 0, 1) := by decide +kernel
theorem dX10_oil_25 : decode cX10_oil 25 = .ok (.bipush 19, 2) := by decide +kernel
theorem dX10_oil_27 : decode cX10_oil 27 = .ok (.invokevirtual 129, 3) := by decide +kernel
theorem dX10_oil_30 : decode cX10_oil 30 = .ok (.ireturn, 1) := by decide +kernel
theorem dX10_oil_31 : decode cX10_oil 31 = .ok (.aload_n 0, 1) := by decide +kernel
theorem dX10_oil_32 : decode cX10_oil 32 = .ok (.getfield 31, 3) := by decide +kernel
theorem dX10_oil_35 : decode cX10_oil 35 = .ok (.getfield 121, 3) := by decide +kernel
theorem dX10_oil_38 : decode cX10_oil 38 = .ok (.iload_n 1, 1) := by decide +kernel
theorem dX10_oil_39 : decode cX10_oil 39 = .ok (.iload_n 1, 1) := by decide +kernel
theorem dX10_oil_40 : decode cX10_oil 40 = .ok (.invokevirtual 129, 3) := by decide +kernel
theorem dX10_oil_43 : decode cX10_oil 43 = .ok (.ireturn, 1) := by decide +kernel
def bX10_oil : ol_SE := es_seq (es_if (ec_z ol_ne (ei_of (ea_cs fX10_outside (ea_i (ei_v 1) (ea_i (ei_c (-1)) (ea_i (ei_c 19) (ea_0))))))) (es_ret (ei_c (-1))) es_skip) (es_seq (es_if (ec_2 ol_eq (ei_v 1) (ei_c (-1))) (es_ret (ei_of (ea_cv 4 fX4_total (ea_r (er_f 2 0 (er_f 10 3 (er_v 0))) (ea_i (ei_c 0) (ea_i (ei_c 19) (ea_0))))))) es_skip) (es_ret (ei_of (ea_cv 4 fX4_total (ea_r (er_f 2 0 (er_f 10 3 (er_v 0))) (ea_i (ei_v 1) (ea_i (ei_v 1) (ea_0))))))))
def fX10_oil : ol_FE := ol_fe 2 bX10_oil
set_option maxRecDepth 20000 in
theorem imX10_oil (x : ol_X) (K : ol_K) : IM_S x K mX10_oil 0 0 bX10_oil := rs_seq (p2 := 12) (rs_if (pT := 10) (pF := 12) (pE := 12) (rc_zF (pF := 12) ol_j1_eq_F (ri_k (rk_s (Mc := mX10_outside) (conX10_outside _ K) (ra_i (ri_vn dX10_oil_0 rfl) (ra_i (ri_ic dX10_oil_1 (by unfold ol_inR; omega)) (ra_i (ri_bi dX10_oil_2 (by unfold ol_inR; omega) (by decide)) (ra_0)))) dX10_oil_4 cwX10_98 tw_417 ⟨rfl, rfl, Nat.le_of_ble_eq_true rfl⟩ (by decide) (by decide) (al_i (al_i (al_i al_0)))) (Or.inr (Or.inl rfl))) dX10_oil_7 (by decide)) (rs_ret (ri_ic dX10_oil_10 (by unfold ol_inR; omega)) rfl dX10_oil_11) rs_skip) (rs_seq (p2 := 31) (rs_if (pT := 17) (pF := 31) (pE := 31) (rc_2F (pF := 31) ol_j2_ne_F (ri_vn dX10_oil_12 rfl) (ri_ic dX10_oil_13 (by unfold ol_inR; omega)) dX10_oil_14 (by decide)) (rs_ret (ri_k (rk_v (Mc := mX4_total) (conX4_total _ K) (ra_r (rr_f (rr_f (rr_vn dX10_oil_17 rfl) gfX10_31 dX10_oil_18) gfX10_121 dX10_oil_21) (ra_i (ri_ic dX10_oil_24 (by unfold ol_inR; omega)) (ra_i (ri_bi dX10_oil_25 (by unfold ol_inR; omega) (by decide)) (ra_0)))) dX10_oil_27 cwX10_129 tw_543 tw_544 (by decide) rfl rfl ⟨rfl, rfl, Nat.le_of_ble_eq_true rfl⟩ (by decide) (by decide) (al_r (al_i (al_i al_0)))) (Or.inl rfl)) rfl dX10_oil_30) rs_skip) (rs_ret (ri_k (rk_v (Mc := mX4_total) (conX4_total _ K) (ra_r (rr_f (rr_f (rr_vn dX10_oil_31 rfl) gfX10_31 dX10_oil_32) gfX10_121 dX10_oil_35) (ra_i (ri_vn dX10_oil_38 rfl) (ra_i (ri_vn dX10_oil_39 rfl) (ra_0)))) dX10_oil_40 cwX10_129 tw_543 tw_544 (by decide) rfl rfl ⟨rfl, rfl, Nat.le_of_ble_eq_true rfl⟩ (by decide) (by decide) (al_r (al_i (al_i al_0)))) (Or.inl rfl)) rfl dX10_oil_43))
theorem conX10_oil (l : Launch) (K : ol_K) : ol_Con l K yX10_oil mX10_oil fX10_oil := ol_con (M := mX10_oil) (by decide) rfl rfl (imX10_oil · K)
theorem dX10_becomeSkin_0 : decode cX10_becomeSkin 0 = .ok (.iload_n 1, 1) := by decide +kernel
theorem dX10_becomeSkin_1 : decode cX10_becomeSkin 1 = .ok (.iconst 1, 1) := by decide +kernel
theorem dX10_becomeSkin_2 : decode cX10_becomeSkin 2 = .ok (.bipush 9, 2) := by decide +kernel
theorem dX10_becomeSkin_4 : decode cX10_becomeSkin 4 = .ok (.invokestatic 98, 3) := by decide +kernel
theorem dX10_becomeSkin_7 : decode cX10_becomeSkin 7 = .ok (.ifCond .eq 5, 3) := by decide +kernel
theorem dX10_becomeSkin_10 : decode cX10_becomeSkin 10 = .ok (.iconst (-1), 1) := by decide +kernel
theorem dX10_becomeSkin_11 : decode cX10_becomeSkin 11 = .ok (.ireturn, 1) := by decide +kernel
theorem dX10_becomeSkin_12 : decode cX10_becomeSkin 12 = .ok (.aload_n 0, 1) := by decide +kernel
theorem dX10_becomeSkin_13 : decode cX10_becomeSkin 13 = .ok (.getfield 145, 3) := by decide +kernel
theorem dX10_becomeSkin_16 : decode cX10_becomeSkin 16 = .ok (.istore_n 2, 1) := by decide +kernel
theorem dX10_becomeSkin_17 : decode cX10_becomeSkin 17 = .ok (.aload_n 0, 1) := by decide +kernel
theorem dX10_becomeSkin_18 : decode cX10_becomeSkin 18 = .ok (.iload_n 1, 1) := by decide +kernel
theorem dX10_becomeSkin_19 : decode cX10_becomeSkin 19 = .ok (.putfield 145, 3) := by decide +kernel
theorem dX10_becomeSkin_22 : decode cX10_becomeSkin 22 = .ok (.iload_n 2, 1) := by decide +kernel
theorem dX10_becomeSkin_23 : decode cX10_becomeSkin 23 = .ok (.ireturn, 1) := by decide +kernel
def bX10_becomeSkin : ol_SE := es_seq (es_if (ec_z ol_ne (ei_of (ea_cs fX10_outside (ea_i (ei_v 1) (ea_i (ei_c 1) (ea_i (ei_c 9) (ea_0))))))) (es_ret (ei_c (-1))) es_skip) (es_seq (es_set 2 (ei_f 0 0 (er_v 0))) (es_seq (es_pf 0 0 (er_v 0) (ei_v 1)) (es_ret (ei_v 2))))
def fX10_becomeSkin : ol_FE := ol_fe 3 bX10_becomeSkin
set_option maxRecDepth 20000 in
theorem imX10_becomeSkin (x : ol_X) (K : ol_K) : IM_S x K mX10_becomeSkin 0 0 bX10_becomeSkin := rs_seq (p2 := 12) (rs_if (pT := 10) (pF := 12) (pE := 12) (rc_zF (pF := 12) ol_j1_eq_F (ri_k (rk_s (Mc := mX10_outside) (conX10_outside _ K) (ra_i (ri_vn dX10_becomeSkin_0 rfl) (ra_i (ri_ic dX10_becomeSkin_1 (by unfold ol_inR; omega)) (ra_i (ri_bi dX10_becomeSkin_2 (by unfold ol_inR; omega) (by decide)) (ra_0)))) dX10_becomeSkin_4 cwX10_98 tw_417 ⟨rfl, rfl, Nat.le_of_ble_eq_true rfl⟩ (by decide) (by decide) (al_i (al_i (al_i al_0)))) (Or.inr (Or.inl rfl))) dX10_becomeSkin_7 (by decide)) (rs_ret (ri_ic dX10_becomeSkin_10 (by unfold ol_inR; omega)) rfl dX10_becomeSkin_11) rs_skip) (rs_seq (p2 := 17) (rs_setn (ri_f (rr_vn dX10_becomeSkin_12 rfl) gfX10_145 dX10_becomeSkin_13) dX10_becomeSkin_16 rfl (ol_ltn rfl)) (rs_seq (p2 := 22) (rs_pf (rr_vn dX10_becomeSkin_17 rfl) (ri_vn dX10_becomeSkin_18 rfl) pfX10_145 rfl dX10_becomeSkin_19) (rs_ret (ri_vn dX10_becomeSkin_22 rfl) rfl dX10_becomeSkin_23)))
theorem conX10_becomeSkin (l : Launch) (K : ol_K) : ol_Con l K yX10_becomeSkin mX10_becomeSkin fX10_becomeSkin := ol_con (M := mX10_becomeSkin) (by decide) rfl rfl (imX10_becomeSkin · K)
theorem dX10_becomeWeight_0 : decode cX10_becomeWeight 0 = .ok (.iload_n 1, 1) := by decide +kernel
theorem dX10_becomeWeight_1 : decode cX10_becomeWeight 1 = .ok (.iconst 5, 1) := by decide +kernel
theorem dX10_becomeWeight_2 : decode cX10_becomeWeight 2 = .ok (.bipush 16, 2) := by decide +kernel
theorem dX10_becomeWeight_4 : decode cX10_becomeWeight 4 = .ok (.invokestatic 98, 3) := by decide +kernel
theorem dX10_becomeWeight_7 : decode cX10_becomeWeight 7 = .ok (.ifCond .eq 5, 3) := by decide +kernel
theorem dX10_becomeWeight_10 : decode cX10_becomeWeight 10 = .ok (.iconst (-1), 1) := by decide +kernel
theorem dX10_becomeWeight_11 : decode cX10_becomeWeight 11 = .ok (.ireturn, 1) := by decide +kernel
theorem dX10_becomeWeight_12 : decode cX10_becomeWeight 12 = .ok (.aload_n 0, 1) := by decide +kernel
theorem dX10_becomeWeight_13 : decode cX10_becomeWeight 13 = .ok (.getfield 148, 3) := by decide +kernel
theorem dX10_becomeWeight_16 : decode cX10_becomeWeight 16 = .ok (.istore_n 2, 1) := by decide +kernel
theorem dX10_becomeWeight_17 : decode cX10_becomeWeight 17 = .ok (.aload_n 0, 1) := by decide +kernel
theorem dX10_becomeWeight_18 : decode cX10_becomeWeight 18 = .ok (.iload_n 1, 1) := by decide +kernel
theorem dX10_becomeWeight_19 : decode cX10_becomeWeight 19 = .ok (.putfield 148, 3) := by decide +kernel
theorem dX10_becomeWeight_22 : decode cX10_becomeWeight 22 = .ok (.iload_n 2, 1) := by decide +kernel
theorem dX10_becomeWeight_23 : decode cX10_becomeWeight 23 = .ok (.ireturn, 1) := by decide +kernel
def bX10_becomeWeight : ol_SE := es_seq (es_if (ec_z ol_ne (ei_of (ea_cs fX10_outside (ea_i (ei_v 1) (ea_i (ei_c 5) (ea_i (ei_c 16) (ea_0))))))) (es_ret (ei_c (-1))) es_skip) (es_seq (es_set 2 (ei_f 0 1 (er_v 0))) (es_seq (es_pf 0 1 (er_v 0) (ei_v 1)) (es_ret (ei_v 2))))
def fX10_becomeWeight : ol_FE := ol_fe 3 bX10_becomeWeight
set_option maxRecDepth 20000 in
theorem imX10_becomeWeight (x : ol_X) (K : ol_K) : IM_S x K mX10_becomeWeight 0 0 bX10_becomeWeight := rs_seq (p2 := 12) (rs_if (pT := 10) (pF := 12) (pE := 12) (rc_zF (pF := 12) ol_j1_eq_F (ri_k (rk_s (Mc := mX10_outside) (conX10_outside _ K) (ra_i (ri_vn dX10_becomeWeight_0 rfl) (ra_i (ri_ic dX10_becomeWeight_1 (by unfold ol_inR; omega)) (ra_i (ri_bi dX10_becomeWeight_2 (by unfold ol_inR; omega) (by decide)) (ra_0)))) dX10_becomeWeight_4 cwX10_98 tw_417 ⟨rfl, rfl, Nat.le_of_ble_eq_true rfl⟩ (by decide) (by decide) (al_i (al_i (al_i al_0)))) (Or.inr (Or.inl rfl))) dX10_becomeWeight_7 (by decide)) (rs_ret (ri_ic dX10_becomeWeight_10 (by unfold ol_inR; omega)) rfl dX10_becomeWeight_11) rs_skip) (rs_seq (p2 := 17) (rs_setn (ri_f (rr_vn dX10_becomeWeight_12 rfl) gfX10_148 dX10_becomeWeight_13) dX10_becomeWeight_16 rfl (ol_ltn rfl)) (rs_seq (p2 := 22) (rs_pf (rr_vn dX10_becomeWeight_17 rfl) (ri_vn dX10_becomeWeight_18 rfl) pfX10_148 rfl dX10_becomeWeight_19) (rs_ret (ri_vn dX10_becomeWeight_22 rfl) rfl dX10_becomeWeight_23)))
theorem conX10_becomeWeight (l : Launch) (K : ol_K) : ol_Con l K yX10_becomeWeight mX10_becomeWeight fX10_becomeWeight := ol_con (M := mX10_becomeWeight) (by decide) rfl rfl (imX10_becomeWeight · K)
theorem dX10_noSuchShot_0 : decode cX10_noSuchShot 0 = .ok (.iload_n 0, 1) := by decide +kernel
theorem dX10_noSuchShot_1 : decode cX10_noSuchShot 1 = .ok (.iconst 0, 1) := by decide +kernel
theorem dX10_noSuchShot_2 : decode cX10_noSuchShot 2 = .ok (.bipush 38, 2) := by decide +kernel
theorem dX10_noSuchShot_4 : decode cX10_noSuchShot 4 = .ok (.invokestatic 98, 3) := by decide +kernel
theorem dX10_noSuchShot_7 : decode cX10_noSuchShot 7 = .ok (.ifCond .ne 34, 3) := by decide +kernel
theorem dX10_noSuchShot_10 : decode cX10_noSuchShot 10 = .ok (.iload_n 1, 1) := by decide +kernel
theorem dX10_noSuchShot_11 : decode cX10_noSuchShot 11 = .ok (.bipush (-20), 2) := by decide +kernel
theorem dX10_noSuchShot_13 : decode cX10_noSuchShot 13 = .ok (.bipush 20, 2) := by decide +kernel
theorem dX10_noSuchShot_15 : decode cX10_noSuchShot 15 = .ok (.invokestatic 98, 3) := by decide +kernel
theorem dX10_noSuchShot_18 : decode cX10_noSuchShot 18 = .ok (.ifCond .ne 23, 3) := by decide +kernel
theorem dX10_noSuchShot_21 : decode cX10_noSuchShot 21 = .ok (.iload_n 2, 1) := by decide +kernel
theorem dX10_noSuchShot_22 : decode cX10_noSuchShot 22 = .ok (.bipush (-30), 2) := by decide +kernel
theorem dX10_noSuchShot_24 : decode cX10_noSuchShot 24 = .ok (.bipush 30, 2) := by decide +kernel
theorem dX10_noSuchShot_26 : decode cX10_noSuchShot 26 = .ok (.invokestatic 98, 3) := by decide +kernel
theorem dX10_noSuchShot_29 : decode cX10_noSuchShot 29 = .ok (.ifCond .ne 12, 3) := by decide +kernel
theorem dX10_noSuchShot_32 : decode cX10_noSuchShot 32 = .ok (.iload_n 3, 1) := by decide +kernel
theorem dX10_noSuchShot_33 : decode cX10_noSuchShot 33 = .ok (.iconst 0, 1) := by decide +kernel
theorem dX10_noSuchShot_34 : decode cX10_noSuchShot 34 = .ok (.iconst 5, 1) := by decide +kernel
theorem dX10_noSuchShot_35 : decode cX10_noSuchShot 35 = .ok (.invokestatic 98, 3) := by decide +kernel
theorem dX10_noSuchShot_38 : decode cX10_noSuchShot 38 = .ok (.ifCond .eq 7, 3) := by decide +kernel
theorem dX10_noSuchShot_41 : decode cX10_noSuchShot 41 = .ok (.iconst 1, 1) := by decide +kernel
theorem dX10_noSuchShot_42 : decode cX10_noSuchShot 42 = .ok (.goto 4, 3) := by decide +kernel
theorem dX10_noSuchShot_45 : decode cX10_noSuchShot 45 = .ok (.iconst 0, 1) := by decide +kernel
theorem dX10_noSuchShot_46 : decode cX10_noSuchShot 46 = .ok (.ireturn, 1) := by decide +kernel
def bX10_noSuchShot : ol_SE := es_retz (ei_if (ec_or (ec_or (ec_or (ec_z ol_ne (ei_of (ea_cs fX10_outside (ea_i (ei_v 0) (ea_i (ei_c 0) (ea_i (ei_c 38) (ea_0))))))) (ec_z ol_ne (ei_of (ea_cs fX10_outside (ea_i (ei_v 1) (ea_i (ei_c (-20)) (ea_i (ei_c 20) (ea_0)))))))) (ec_z ol_ne (ei_of (ea_cs fX10_outside (ea_i (ei_v 2) (ea_i (ei_c (-30)) (ea_i (ei_c 30) (ea_0)))))))) (ec_z ol_ne (ei_of (ea_cs fX10_outside (ea_i (ei_v 3) (ea_i (ei_c 0) (ea_i (ei_c 5) (ea_0)))))))) (ei_c 1) (ei_c 0))
def fX10_noSuchShot : ol_FE := ol_fe 4 bX10_noSuchShot
set_option maxRecDepth 20000 in
theorem imX10_noSuchShot (x : ol_X) (K : ol_K) : IM_S x K mX10_noSuchShot 0 0 bX10_noSuchShot := rs_retz (ri_if (pT := 41) (pF := 45) (p3 := 46) (rc_or (p2 := 32) (pT := 41) (pF := 45) (rc_or (p2 := 21) (pT := 41) (pF := 32) (rc_or (p2 := 10) (pT := 41) (pF := 21) (rc_zT (pT := 41) ol_j1_ne_T (ri_k (rk_s (Mc := mX10_outside) (conX10_outside _ K) (ra_i (ri_vn dX10_noSuchShot_0 rfl) (ra_i (ri_ic dX10_noSuchShot_1 (by unfold ol_inR; omega)) (ra_i (ri_bi dX10_noSuchShot_2 (by unfold ol_inR; omega) (by decide)) (ra_0)))) dX10_noSuchShot_4 cwX10_98 tw_417 ⟨rfl, rfl, Nat.le_of_ble_eq_true rfl⟩ (by decide) (by decide) (al_i (al_i (al_i al_0)))) (Or.inr (Or.inl rfl))) dX10_noSuchShot_7 (by decide)) (rc_zT (pT := 41) ol_j1_ne_T (ri_k (rk_s (Mc := mX10_outside) (conX10_outside _ K) (ra_i (ri_vn dX10_noSuchShot_10 rfl) (ra_i (ri_bi dX10_noSuchShot_11 (by unfold ol_inR; omega) (by decide)) (ra_i (ri_bi dX10_noSuchShot_13 (by unfold ol_inR; omega) (by decide)) (ra_0)))) dX10_noSuchShot_15 cwX10_98 tw_417 ⟨rfl, rfl, Nat.le_of_ble_eq_true rfl⟩ (by decide) (by decide) (al_i (al_i (al_i al_0)))) (Or.inr (Or.inl rfl))) dX10_noSuchShot_18 (by decide))) (rc_zT (pT := 41) ol_j1_ne_T (ri_k (rk_s (Mc := mX10_outside) (conX10_outside _ K) (ra_i (ri_vn dX10_noSuchShot_21 rfl) (ra_i (ri_bi dX10_noSuchShot_22 (by unfold ol_inR; omega) (by decide)) (ra_i (ri_bi dX10_noSuchShot_24 (by unfold ol_inR; omega) (by decide)) (ra_0)))) dX10_noSuchShot_26 cwX10_98 tw_417 ⟨rfl, rfl, Nat.le_of_ble_eq_true rfl⟩ (by decide) (by decide) (al_i (al_i (al_i al_0)))) (Or.inr (Or.inl rfl))) dX10_noSuchShot_29 (by decide))) (rc_zF (pF := 45) ol_j1_eq_F (ri_k (rk_s (Mc := mX10_outside) (conX10_outside _ K) (ra_i (ri_vn dX10_noSuchShot_32 rfl) (ra_i (ri_ic dX10_noSuchShot_33 (by unfold ol_inR; omega)) (ra_i (ri_ic dX10_noSuchShot_34 (by unfold ol_inR; omega)) (ra_0)))) dX10_noSuchShot_35 cwX10_98 tw_417 ⟨rfl, rfl, Nat.le_of_ble_eq_true rfl⟩ (by decide) (by decide) (al_i (al_i (al_i al_0)))) (Or.inr (Or.inl rfl))) dX10_noSuchShot_38 (by decide))) (ri_ic dX10_noSuchShot_41 (by unfold ol_inR; omega)) dX10_noSuchShot_42 (by decide) (ri_ic dX10_noSuchShot_45 (by unfold ol_inR; omega))) rfl dX10_noSuchShot_46
theorem conX10_noSuchShot (l : Launch) (K : ol_K) : ol_Con l K yX10_noSuchShot mX10_noSuchShot fX10_noSuchShot := ol_con (M := mX10_noSuchShot) (by decide) rfl rfl (imX10_noSuchShot · K)
