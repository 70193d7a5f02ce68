/-! by program: what each method does, and that its code does it -/
theorem dX8_trunkOf_0 : decode cX8_trunkOf 0 = .ok (.iconst 0, 1) := by decide +kernel
theorem dX8_trunkOf_1 : decode cX8_trunkOf 1 = .ok (.istore_n 2, 1) := by decide +kernel
theorem dX8_trunkOf_2 : decode cX8_trunkOf 2 = .ok (.iconst (-1), 1) := by decide +kernel
theorem dX8_trunkOf_3 : decode cX8_trunkOf 3 = .ok (.istore_n 3, 1) := by decide +kernel
theorem dX8_trunkOf_4 : decode cX8_trunkOf 4 = .ok (.iconst 1, 1) := by decide +kernel
theorem dX8_trunkOf_5 : decode cX8_trunkOf 5 = .ok (.istore 4, 2) := by decide +kernel
theorem dX8_trunkOf_7 : decode cX8_trunkOf 7 = .ok (.iload 4, 2) := by decide +kernel
theorem dX8_trunkOf_9 : decode cX8_trunkOf 9 = .ok (.bipush 64, 2) := by decide +kernel
theorem dX8_trunkOf_11 : decode cX8_trunkOf 11 = .ok (.if_icmp .ge 38, 3) := by decide +kernel
theorem dX8_trunkOf_14 : decode cX8_trunkOf 14 = .ok (.iload 4, 2) := by decide +kernel
theorem dX8_trunkOf_16 : decode cX8_trunkOf 16 = .ok (.invokestatic 61, 3) := by decide +kernel
theorem dX8_trunkOf_19 : decode cX8_trunkOf 19 = .ok (.iload_n 1, 1) := by decide +kernel
theorem dX8_trunkOf_20 : decode cX8_trunkOf 20 = .ok (.if_icmp .ne 23, 3) := by decide +kernel
theorem dX8_trunkOf_23 : decode cX8_trunkOf 23 = .ok (.aload_n 0, 1) := by decide +kernel
theorem dX8_trunkOf_24 : decode cX8_trunkOf 24 = .ok (.iload 4, 2) := by decide +kernel
theorem dX8_trunkOf_26 : decode cX8_trunkOf 26 = .ok (.invokevirtual 77, 3) := by decide +kernel
theorem dX8_trunkOf_29 : decode cX8_trunkOf 29 = .ok (.iload_n 3, 1) := by decide +kernel
theorem dX8_trunkOf_30 : decode cX8_trunkOf 30 = .ok (.if_icmp .le 13, 3) := by decide +kernel
theorem dX8_trunkOf_33 : decode cX8_trunkOf 33 = .ok (.iload 4, 2) := by decide +kernel
theorem dX8_trunkOf_35 : decode cX8_trunkOf 35 = .ok (.istore_n 2, 1) := by decide +kernel
theorem dX8_trunkOf_36 : decode cX8_trunkOf 36 = .ok (.aload_n 0, 1) := by decide +kernel
theorem dX8_trunkOf_37 : decode cX8_trunkOf 37 = .ok (.iload 4, 2) := by decide +kernel
theorem dX8_trunkOf_39 : decode cX8_trunkOf 39 = .ok (.invokevirtual 77, 3) := by decide +kernel
theorem dX8_trunkOf_42 : decode cX8_trunkOf 42 = .ok (.istore_n 3, 1) := by decide +kernel
theorem dX8_trunkOf_43 : decode cX8_trunkOf 43 = .ok (.iinc 4 1, 3) := by decide +kernel
theorem dX8_trunkOf_46 : decode cX8_trunkOf 46 = .ok (.goto (-39), 3) := by decide +kernel
theorem dX8_trunkOf_49 : decode cX8_trunkOf 49 = .ok (.iload_n 2, 1) := by decide +kernel
theorem dX8_trunkOf_50 : decode cX8_trunkOf 50 = .ok (.ireturn, 1) := by decide +kernel
def bX8_trunkOf : ol_SE := es_seq (es_set 2 (ei_c 0)) (es_seq (es_set 3 (ei_c (-1))) (es_seq (es_seq (es_set 4 (ei_c 1)) (es_wh (ec_2 ol_lt (ei_v 4) (ei_c 64)) (es_seq (es_if (ec_and (ec_2 ol_eq (ei_of (ea_cs fJ6_bitCount_0f7a4 (ea_i (ei_v 4) (ea_0)))) (ei_v 1)) (ec_2 ol_gt (ei_of (ea_cv 8 fX8_addedBy (ea_r (er_v 0) (ea_i (ei_v 4) (ea_0))))) (ei_v 3))) (es_seq (es_set 2 (ei_v 4)) (es_set 3 (ei_of (ea_cv 8 fX8_addedBy (ea_r (er_v 0) (ea_i (ei_v 4) (ea_0))))))) es_skip) (es_inc 4 1)))) (es_ret (ei_v 2))))
def fX8_trunkOf : ol_FE := ol_fe 5 bX8_trunkOf
set_option maxRecDepth 20000 in
theorem imX8_trunkOf (x : ol_X) (K : ol_K) : IM_S x K mX8_trunkOf 0 0 bX8_trunkOf := rs_seq (p2 := 2) (rs_setn (ri_ic dX8_trunkOf_0 (by unfold ol_inR; omega)) dX8_trunkOf_1 rfl (ol_ltn rfl)) (rs_seq (p2 := 4) (rs_setn (ri_ic dX8_trunkOf_2 (by unfold ol_inR; omega)) dX8_trunkOf_3 rfl (ol_ltn rfl)) (rs_seq (p2 := 49) (rs_seq (p2 := 7) (rs_set (ri_ic dX8_trunkOf_4 (by unfold ol_inR; omega)) dX8_trunkOf_5 (ol_ltn rfl)) (rs_wh (pH := 7) (pB := 14) (pE := 49) (pG := 46) (rc_2F (pF := 49) ol_j2_ge_F (ri_vi dX8_trunkOf_7) (ri_bi dX8_trunkOf_9 (by unfold ol_inR; omega) (by decide)) dX8_trunkOf_11 (by decide)) (rs_seq (p2 := 43) (rs_if (pT := 33) (pF := 43) (pE := 43) (rc_and (p2 := 23) (pT := 33) (pF := 43) (rc_2F (pF := 43) ol_j2_ne_F (ri_k (rk_s (Mc := mJ6_bitCount_0f7a4) (conJ6_bitCount_0f7a4 _ K) (ra_i (ri_vi dX8_trunkOf_14) (ra_0)) dX8_trunkOf_16 cwX8_61 tw_606 ⟨rfl, rfl, Nat.le_of_ble_eq_true rfl⟩ (by decide) (by decide) (al_i al_0)) (Or.inl rfl)) (ri_vn dX8_trunkOf_19 rfl) dX8_trunkOf_20 (by decide)) (rc_2F (pF := 43) ol_j2_le_F (ri_k (rk_v (Mc := mX8_addedBy) (conX8_addedBy _ K) (ra_r (rr_vn dX8_trunkOf_23 rfl) (ra_i (ri_vi dX8_trunkOf_24) (ra_0))) dX8_trunkOf_26 cwX8_77 tw_799 tw_800 (by decide) rfl rfl ⟨rfl, rfl, Nat.le_of_ble_eq_true rfl⟩ (by decide) (by decide) (al_r (al_i al_0))) (Or.inl rfl)) (ri_vn dX8_trunkOf_29 rfl) dX8_trunkOf_30 (by decide))) (rs_seq (p2 := 36) (rs_setn (ri_vi dX8_trunkOf_33) dX8_trunkOf_35 rfl (ol_ltn rfl)) (rs_setn (ri_k (rk_v (Mc := mX8_addedBy) (conX8_addedBy _ K) (ra_r (rr_vn dX8_trunkOf_36 rfl) (ra_i (ri_vi dX8_trunkOf_37) (ra_0))) dX8_trunkOf_39 cwX8_77 tw_799 tw_800 (by decide) rfl rfl ⟨rfl, rfl, Nat.le_of_ble_eq_true rfl⟩ (by decide) (by decide) (al_r (al_i al_0))) (Or.inl rfl)) dX8_trunkOf_42 rfl (ol_ltn rfl))) rs_skip) (rs_inc dX8_trunkOf_43 (ol_ltn rfl))) dX8_trunkOf_46 (by decide))) (rs_ret (ri_vn dX8_trunkOf_49 rfl) rfl dX8_trunkOf_50)))
theorem conX8_trunkOf (l : Launch) (K : ol_K) : ol_Con l K yX8_trunkOf mX8_trunkOf fX8_trunkOf := ol_con (M := mX8_trunkOf) (by decide) rfl rfl (imX8_trunkOf · K)
theorem dX10_count_0 : decode cX10_count 0 = .ok (.iload_n 1, 1) := by decide +kernel
theorem dX10_count_1 : decode cX10_count 1 = .ok (.tableswitch 57 0 3 #[31, 39, 44, 52], 31) := by decide +kernel
theorem dX10_count_32 : decode cX10_count 32 = .ok (.aload_n 0, 1) := by decide +kernel
theorem dX10_count_33 : decode cX10_count 33 = .ok (.getfield 31, 3) := by decide +kernel
theorem dX10_count_36 : decode cX10_count 36 = .ok (.getfield 238, 3) := by decide +kernel
theorem dX10_count_39 : decode cX10_count 39 = .ok (.ireturn, 1) := by decide +kernel
theorem dX10_count_40 : decode cX10_count 40 = .ok (.aload_n 0, 1) := by decide +kernel
theorem dX10_count_41 : decode cX10_count 41 = .ok (.getfield 292, 3) := by decide +kernel
theorem dX10_count_44 : decode cX10_count 44 = .ok (.ireturn, 1) := by decide +kernel
theorem dX10_count_45 : decode cX10_count 45 = .ok (.aload_n 0, 1) := by decide +kernel
theorem dX10_count_46 : decode cX10_count 46 = .ok (.getfield 10, 3) := by decide +kernel
theorem dX10_count_49 : decode cX10_count 49 = .ok (.getfield 91, 3) := by decide +kernel
theorem dX10_count_52 : decode cX10_count 52 = .ok (.ireturn, 1) := by decide +kernel
theorem dX10_count_53 : decode cX10_count 53 = .ok (.aload_n 0, 1) := by decide +kernel
theorem dX10_count_54 : decode cX10_count 54 = .ok (.invokevirtual 329, 3) := by decide +kernel
theorem dX10_count_57 : decode cX10_count 57 = .ok (.ireturn, 1) := by decide +kernel
theorem dX10_count_58 : decode cX10_count 58 = .ok (.iconst (-1), 1) := by decide +kernel
theorem dX10_count_59 : decode cX10_count 59 = .ok (.ireturn, 1) := by decide +kernel
def bX10_count : ol_SE := es_sw (ei_v 1) 0 [es_ret (ei_f 2 2 (er_f 10 3 (er_v 0))), es_ret (ei_f 10 15 (er_v 0)), es_ret (ei_f 7 2 (er_f 10 0 (er_v 0))), es_ret (ei_of (ea_cv 10 fX10_toldPatterns (ea_r (er_v 0) (ea_0))))] (es_ret (ei_c (-1)))
def fX10_count : ol_FE := ol_fe 2 bX10_count
set_option maxRecDepth 20000 in
theorem imX10_count (x : ol_X) (K : ol_K) : IM_S x K mX10_count 0 0 bX10_count := rs_sw (pE := 0) (pD := 58) (ri_vn dX10_count_0 rfl) dX10_count_1 rfl ⟨⟨_, 32, rfl, by decide, rs_ret (ri_f (rr_f (rr_vn dX10_count_32 rfl) gfX10_31 dX10_count_33) gfX10_238 dX10_count_36) rfl dX10_count_39⟩, ⟨_, 40, rfl, by decide, rs_ret (ri_f (rr_vn dX10_count_40 rfl) gfX10_292 dX10_count_41) rfl dX10_count_44⟩, ⟨_, 45, rfl, by decide, rs_ret (ri_f (rr_f (rr_vn dX10_count_45 rfl) gfX10_10 dX10_count_46) gfX10_91 dX10_count_49) rfl dX10_count_52⟩, ⟨_, 53, rfl, by decide, rs_ret (ri_k (rk_v (Mc := mX10_toldPatterns) (conX10_toldPatterns _ K) (ra_r (rr_vn dX10_count_53 rfl) (ra_0)) dX10_count_54 cwX10_329 tw_837 tw_24 (by decide) rfl rfl ⟨rfl, rfl, Nat.le_of_ble_eq_true rfl⟩ (by decide) (by decide) (al_r al_0)) (Or.inl rfl)) rfl dX10_count_57⟩, trivial⟩ (by decide) (rs_ret (ri_ic dX10_count_58 (by unfold ol_inR; omega)) rfl dX10_count_59)
theorem conX10_count (l : Launch) (K : ol_K) : ol_Con l K yX10_count mX10_count fX10_count := ol_con (M := mX10_count) (by decide) rfl rfl (imX10_count · K)
theorem dX11_type_0 : decode cX11_type 0 = .ok (.iload_n 3, 1) := by decide +kernel
theorem dX11_type_1 : decode cX11_type 1 = .ok (.iconst 1, 1) := by decide +kernel
theorem dX11_type_2 : decode cX11_type 2 = .ok (.bipush 8, 2) := by decide +kernel
theorem dX11_type_4 : decode cX11_type 4 = .ok (.invokestatic 63, 3) := by decide +kernel
theorem dX11_type_7 : decode cX11_type 7 = .ok (.ifCond .ne 5, 3) := by decide +kernel
theorem dX11_type_10 : decode cX11_type 10 = .ok (.iconst (-1), 1) := by decide +kernel
theorem dX11_type_11 : decode cX11_type 11 = .ok (.ireturn, 1) := by decide +kernel
theorem dX11_type_12 : decode cX11_type 12 = .ok (.aload_n 0, 1) := by decide +kernel
theorem dX11_type_13 : decode cX11_type 13 = .ok (.getfield 67, 3) := by decide +kernel
theorem dX11_type_16 : decode cX11_type 16 = .ok (.iload_n 3, 1) := by decide +kernel
theorem dX11_type_17 : decode cX11_type 17 = .ok (.iadd, 1) := by decide +kernel
theorem dX11_type_18 : decode cX11_type 18 = .ok (.sipush 300, 3) := by decide +kernel
theorem dX11_type_21 : decode cX11_type 21 = .ok (.if_icmp .le 6, 3) := by decide +kernel
theorem dX11_type_24 : decode cX11_type 24 = .ok (.bipush (-3), 2) := by decide +kernel
theorem dX11_type_26 : decode cX11_type 26 = .ok (.ireturn, 1) := by decide +kernel
theorem dX11_type_27 : decode cX11_type 27 = .ok (.iload_n 3, 1) := by decide +kernel
theorem dX11_type_28 : decode cX11_type 28 = .ok (.iconst 1, 1) := by decide +kernel
theorem dX11_type_29 : decode cX11_type 29 = .ok (.isub, 1) := by decide +kernel
theorem dX11_type_30 : decode cX11_type 30 = .ok (.istore 4, 2) := by decide +kernel
theorem dX11_type_32 : decode cX11_type 32 = .ok (.iload 4, 2) := by decide +kernel
theorem dX11_type_34 : decode cX11_type 34 = .ok (.ifCond .lt 41, 3) := by decide +kernel
theorem dX11_type_37 : decode cX11_type 37 = .ok (.aload_n 0, 1) := by decide +kernel
theorem dX11_type_38 : decode cX11_type 38 = .ok (.getfield 7, 3) := by decide +kernel
theorem dX11_type_41 : decode cX11_type 41 = .ok (.aload_n 0, 1) := by decide +kernel
theorem dX11_type_42 : decode cX11_type 42 = .ok (.getfield 67, 3) := by decide +kernel
theorem dX11_type_45 : decode cX11_type 45 = .ok (.lload_n 1, 1) := by decide +kernel
theorem dX11_type_46 : decode cX11_type 46 = .ok (.bipush 8, 2) := by decide +kernel
theorem dX11_type_48 : decode cX11_type 48 = .ok (.iload 4, 2) := by decide +kernel
theorem dX11_type_50 : decode cX11_type 50 = .ok (.imul, 1) := by decide +kernel
theorem dX11_type_51 : decode cX11_type 51 = .ok (.lshr, 1) := by decide +kernel
theorem dX11_type_52 : decode cX11_type 52 = .ok (.ldc2_w 71, 3) := by decide +kernel
theorem dX11_type_55 : decode cX11_type 55 = .ok (.land, 1) := by decide +kernel
theorem dX11_type_56 : decode cX11_type 56 = .ok (.l2i, 1) := by decide +kernel
theorem dX11_type_57 : decode cX11_type 57 = .ok (.i2b, 1) := by decide +kernel
theorem dX11_type_58 : decode cX11_type 58 = .ok (.bastore, 1) := by decide +kernel
theorem dX11_type_59 : decode cX11_type 59 = .ok (.aload_n 0, 1) := by decide +kernel
theorem dX11_type_60 : decode cX11_type 60 = .ok (.dup, 1) := by decide +kernel
theorem dX11_type_61 : decode cX11_type 61 = .ok (.getfield 67, 3) := by decide +kernel
theorem dX11_type_64 : decode cX11_type 64 = .ok (.iconst 1, 1) := by decide +kernel
theorem dX11_type_65 : decode cX11_type 65 = .ok (.iadd, 1) := by decide +kernel
theorem dX11_type_66 : decode cX11_type 66 = .ok (.putfield 67, 3) := by decide +kernel
theorem dX11_type_69 : decode cX11_type 69 = .ok (.iinc 4 (-1), 3) := by decide +kernel
theorem dX11_type_72 : decode cX11_type 72 = .ok (.goto (-40), 3) := by decide +kernel
theorem dX11_type_75 : decode cX11_type 75 = .ok (.aload_n 0, 1) := by decide +kernel
theorem dX11_type_76 : decode cX11_type 76 = .ok (.getfield 67, 3) := by decide +kernel
theorem dX11_type_79 : decode cX11_type 79 = .ok (.ireturn, 1) := by decide +kernel
def bX11_type : ol_SE := es_seq (es_if (ec_not (ec_z ol_ne (ei_of (ea_cs fX11_in (ea_i (ei_v 3) (ea_i (ei_c 1) (ea_i (ei_c 8) (ea_0)))))))) (es_ret (ei_c (-1))) es_skip) (es_seq (es_if (ec_2 ol_gt (ei_2 ol_add (ei_f 11 2 (er_v 0)) (ei_v 3)) (ei_c 300)) (es_ret (ei_c (-3))) es_skip) (es_seq (es_seq (es_set 4 (ei_2 ol_sub (ei_v 3) (ei_c 1))) (es_wh (ec_z ol_ge (ei_v 4)) (es_seq (es_seq (es_bs 101 (er_f 11 1 (er_v 0)) (ei_f 11 2 (er_v 0)) (ei_b (ei_j (ej_2 ej_and (ej_s ej_shr (ej_v 1) (ei_2 ol_mul (ei_c 8) (ei_v 4))) (ej_c 255))))) (es_uf 11 2 (er_v 0) ol_add (ei_c 1))) (es_inc 4 (-1))))) (es_ret (ei_f 11 2 (er_v 0)))))
def fX11_type : ol_FE := ol_fe 5 bX11_type
set_option maxRecDepth 20000 in
theorem imX11_type (x : ol_X) (K : ol_K) : IM_S x K mX11_type 0 0 bX11_type := rs_seq (p2 := 12) (rs_if (pT := 10) (pF := 12) (pE := 12) (rc_not (rc_zT (pT := 12) ol_j1_ne_T (ri_k (rk_s (Mc := mX11_in) (conX11_in _ K) (ra_i (ri_vn dX11_type_0 rfl) (ra_i (ri_ic dX11_type_1 (by unfold ol_inR; omega)) (ra_i (ri_bi dX11_type_2 (by unfold ol_inR; omega) (by decide)) (ra_0)))) dX11_type_4 cwX11_63 tw_981 ⟨rfl, rfl, Nat.le_of_ble_eq_true rfl⟩ (by decide) (by decide) (al_i (al_i (al_i al_0)))) (Or.inr (Or.inl rfl))) dX11_type_7 (by decide))) (rs_ret (ri_ic dX11_type_10 (by unfold ol_inR; omega)) rfl dX11_type_11) rs_skip) (rs_seq (p2 := 27) (rs_if (pT := 24) (pF := 27) (pE := 27) (rc_2F (pF := 27) ol_j2_le_F (ri_2 ol_op_add (ri_f (rr_vn dX11_type_12 rfl) gfX11_67 dX11_type_13) (ri_vn dX11_type_16 rfl) dX11_type_17) (ri_si dX11_type_18 (by unfold ol_inR; omega) (by decide)) dX11_type_21 (by decide)) (rs_ret (ri_bi dX11_type_24 (by unfold ol_inR; omega) (by decide)) rfl dX11_type_26) rs_skip) (rs_seq (p2 := 75) (rs_seq (p2 := 32) (rs_set (ri_2 ol_op_sub (ri_vn dX11_type_27 rfl) (ri_ic dX11_type_28 (by unfold ol_inR; omega)) dX11_type_29) dX11_type_30 (ol_ltn rfl)) (rs_wh (pH := 32) (pB := 37) (pE := 75) (pG := 72) (rc_zF (pF := 75) ol_j1_lt_F (ri_vi dX11_type_32) dX11_type_34 (by decide)) (rs_seq (p2 := 69) (rs_seq (p2 := 59) (rs_bs (rr_f (rr_vn dX11_type_37 rfl) gfX11_7 dX11_type_38) (ri_f (rr_vn dX11_type_41 rfl) gfX11_67 dX11_type_42) (ri_b (ri_j (rj_and (rj_shr (rj_vn dX11_type_45 rfl) (ri_2 ol_op_mul (ri_bi dX11_type_46 (by unfold ol_inR; omega) (by decide)) (ri_vi dX11_type_48) dX11_type_50) dX11_type_51) (rj_ldc dX11_type_52 tw_983) dX11_type_55) dX11_type_56) dX11_type_57) dX11_type_58) (rs_uf ol_op_add (rr_vn dX11_type_59 rfl) dX11_type_60 dX11_type_61 (ri_ic dX11_type_64 (by unfold ol_inR; omega)) dX11_type_65 gfX11_67 pfX11_67 rfl dX11_type_66)) (rs_inc dX11_type_69 (ol_ltn rfl))) dX11_type_72 (by decide))) (rs_ret (ri_f (rr_vn dX11_type_75 rfl) gfX11_67 dX11_type_76) rfl dX11_type_79)))
theorem conX11_type (l : Launch) (K : ol_K) : ol_Con l K yX11_type mX11_type fX11_type := ol_con (M := mX11_type) (by decide) rfl rfl (imX11_type · K)
theorem dX11_next_0 : decode cX11_next 0 = .ok (.aload_n 0, 1) := by decide +kernel
theorem dX11_next_1 : decode cX11_next 1 = .ok (.invokevirtual 76, 3) := by decide +kernel
theorem dX11_next_4 : decode cX11_next 4 = .ok (.bipush 32, 2) := by decide +kernel
theorem dX11_next_6 : decode cX11_next 6 = .ok (.if_icmp .ne 16, 3) := by decide +kernel
theorem dX11_next_9 : decode cX11_next 9 = .ok (.aload_n 0, 1) := by decide +kernel
theorem dX11_next_10 : decode cX11_next 10 = .ok (.dup, 1) := by decide +kernel
theorem dX11_next_11 : decode cX11_next 11 = .ok (.getfield 73, 3) := by decide +kernel
theorem dX11_next_14 : decode cX11_next 14 = .ok (.iconst 1, 1) := by decide +kernel
theorem dX11_next_15 : decode cX11_next 15 = .ok (.iadd, 1) := by decide +kernel
theorem dX11_next_16 : decode cX11_next 16 = .ok (.putfield 73, 3) := by decide +kernel
theorem dX11_next_19 : decode cX11_next 19 = .ok (.goto (-19), 3) := by decide +kernel
theorem dX11_next_22 : decode cX11_next 22 = .ok (.aload_n 0, 1) := by decide +kernel
theorem dX11_next_23 : decode cX11_next 23 = .ok (.aload_n 0, 1) := by decide +kernel
theorem dX11_next_24 : decode cX11_next 24 = .ok (.getfield 73, 3) := by decide +kernel
theorem dX11_next_27 : decode cX11_next 27 = .ok (.putfield 80, 3) := by decide +kernel
theorem dX11_next_30 : decode cX11_next 30 = .ok (.aload_n 0, 1) := by decide +kernel
theorem dX11_next_31 : decode cX11_next 31 = .ok (.iconst 0, 1) := by decide +kernel
theorem dX11_next_32 : decode cX11_next 32 = .ok (.putfield 83, 3) := by decide +kernel
theorem dX11_next_35 : decode cX11_next 35 = .ok (.aload_n 0, 1) := by decide +kernel
theorem dX11_next_36 : decode cX11_next 36 = .ok (.invokevirtual 76, 3) := by decide +kernel
theorem dX11_next_39 : decode cX11_next 39 = .ok (.istore_n 1, 1) := by decide +kernel
theorem dX11_next_40 : decode cX11_next 40 = .ok (.iload_n 1, 1) := by decide +kernel
theorem dX11_next_41 : decode cX11_next 41 = .ok (.ifCond .ge 11, 3) := by decide +kernel
theorem dX11_next_44 : decode cX11_next 44 = .ok (.aload_n 0, 1) := by decide +kernel
theorem dX11_next_45 : decode cX11_next 45 = .ok (.iconst 0, 1) := by decide +kernel
theorem dX11_next_46 : decode cX11_next 46 = .ok (.putfield 86, 3) := by decide +kernel
theorem dX11_next_49 : decode cX11_next 49 = .ok (.goto 259, 3) := by decide +kernel
theorem dX11_next_52 : decode cX11_next 52 = .ok (.iload_n 1, 1) := by decide +kernel
theorem dX11_next_53 : decode cX11_next 53 = .ok (.bipush 97, 2) := by decide +kernel
theorem dX11_next_55 : decode cX11_next 55 = .ok (.bipush 122, 2) := by decide +kernel
theorem dX11_next_57 : decode cX11_next 57 = .ok (.invokestatic 63, 3) := by decide +kernel
theorem dX11_next_60 : decode cX11_next 60 = .ok (.ifCond .eq 110, 3) := by decide +kernel
theorem dX11_next_63 : decode cX11_next 63 = .ok (.iconst 0, 1) := by decide +kernel
theorem dX11_next_64 : decode cX11_next 64 = .ok (.istore_n 2, 1) := by decide +kernel
theorem dX11_next_65 : decode cX11_next 65 = .ok (.aload_n 0, 1) := by decide +kernel
theorem dX11_next_66 : decode cX11_next 66 = .ok (.invokevirtual 76, 3) := by decide +kernel
theorem dX11_next_69 : decode cX11_next 69 = .ok (.bipush 97, 2) := by decide +kernel
theorem dX11_next_71 : decode cX11_next 71 = .ok (.bipush 122, 2) := by decide +kernel
theorem dX11_next_73 : decode cX11_next 73 = .ok (.invokestatic 63, 3) := by decide +kernel
theorem dX11_next_76 : decode cX11_next 76 = .ok (.ifCond .eq 46, 3) := by decide +kernel
theorem dX11_next_79 : decode cX11_next 79 = .ok (.aload_n 0, 1) := by decide +kernel
theorem dX11_next_80 : decode cX11_next 80 = .ok (.getfield 73, 3) := by decide +kernel
theorem dX11_next_83 : decode cX11_next 83 = .ok (.aload_n 0, 1) := by decide +kernel
theorem dX11_next_84 : decode cX11_next 84 = .ok (.getfield 80, 3) := by decide +kernel
theorem dX11_next_87 : decode cX11_next 87 = .ok (.isub, 1) := by decide +kernel
theorem dX11_next_88 : decode cX11_next 88 = .ok (.iconst 5, 1) := by decide +kernel
theorem dX11_next_89 : decode cX11_next 89 = .ok (.if_icmp .ge 18, 3) := by decide +kernel
theorem dX11_next_92 : decode cX11_next 92 = .ok (.bipush 27, 2) := by decide +kernel
theorem dX11_next_94 : decode cX11_next 94 = .ok (.iload_n 2, 1) := by decide +kernel
theorem dX11_next_95 : decode cX11_next 95 = .ok (.imul, 1) := by decide +kernel
theorem dX11_next_96 : decode cX11_next 96 = .ok (.aload_n 0, 1) := by decide +kernel
theorem dX11_next_97 : decode cX11_next 97 = .ok (.invokevirtual 76, 3) := by decide +kernel
theorem dX11_next_100 : decode cX11_next 100 = .ok (.iadd, 1) := by decide +kernel
theorem dX11_next_101 : decode cX11_next 101 = .ok (.bipush 96, 2) := by decide +kernel
theorem dX11_next_103 : decode cX11_next 103 = .ok (.isub, 1) := by decide +kernel
theorem dX11_next_104 : decode cX11_next 104 = .ok (.goto 4, 3) := by decide +kernel
theorem dX11_next_107 : decode cX11_next 107 = .ok (.iconst 0, 1) := by decide +kernel
theorem dX11_next_108 : decode cX11_next 108 = .ok (.istore_n 2, 1) := by decide +kernel
theorem dX11_next_109 : decode cX11_next 109 = .ok (.aload_n 0, 1) := by decide +kernel
theorem dX11_next_110 : decode cX11_next 110 = .ok (.dup, 1) := by decide +kernel
theorem dX11_next_111 : decode cX11_next 111 = .ok (.getfield 73, 3) := by decide +kernel
theorem dX11_next_114 : decode cX11_next 114 = .ok (.iconst 1, 1) := by decide +kernel
theorem dX11_next_115 : decode cX11_next 115 = .ok (.iadd, 1) := by decide +kernel
theorem dX11_next_116 : decode cX11_next 116 = .ok (.putfield 73, 3) := by decide +kernel
theorem dX11_next_119 : decode cX11_next 119 = .ok (.goto (-54), 3) := by decide +kernel
theorem dX11_next_122 : decode cX11_next 122 = .ok (.aload_n 0, 1) := by decide +kernel
theorem dX11_next_123 : decode cX11_next 123 = .ok (.getfield 73, 3) := by decide +kernel
theorem dX11_next_126 : decode cX11_next 126 = .ok (.aload_n 0, 1) := by decide +kernel
theorem dX11_next_127 : decode cX11_next 127 = .ok (.getfield 80, 3) := by decide +kernel
theorem dX11_next_130 : decode cX11_next 130 = .ok (.isub, 1) := by decide +kernel
theorem dX11_next_131 : decode cX11_next 131 = .ok (.iconst 5, 1) := by decide +kernel
theorem dX11_next_132 : decode cX11_next 132 = .ok (.if_icmp .le 7, 3) := by decide +kernel
theorem dX11_next_135 : decode cX11_next 135 = .ok (.iconst 0, 1) := by decide +kernel
theorem dX11_next_136 : decode cX11_next 136 = .ok (.goto 4, 3) := by decide +kernel
theorem dX11_next_139 : decode cX11_next 139 = .ok (.iload_n 2, 1) := by decide +kernel
theorem dX11_next_140 : decode cX11_next 140 = .ok (.istore_n 2, 1) := by decide +kernel
theorem dX11_next_141 : decode cX11_next 141 = .ok (.aload_n 0, 1) := by decide +kernel
theorem dX11_next_142 : decode cX11_next 142 = .ok (.iload_n 2, 1) := by decide +kernel
theorem dX11_next_143 : decode cX11_next 143 = .ok (.sipush 8800, 3) := by decide +kernel
theorem dX11_next_146 : decode cX11_next 146 = .ok (.if_icmp .ne 7, 3) := by decide +kernel
theorem dX11_next_149 : decode cX11_next 149 = .ok (.iconst 1, 1) := by decide +kernel
theorem dX11_next_150 : decode cX11_next 150 = .ok (.goto 14, 3) := by decide +kernel
theorem dX11_next_153 : decode cX11_next 153 = .ok (.iload_n 2, 1) := by decide +kernel
theorem dX11_next_154 : decode cX11_next 154 = .ok (.ldc 89, 2) := by decide +kernel
theorem dX11_next_156 : decode cX11_next 156 = .ok (.if_icmp .ne 7, 3) := by decide +kernel
theorem dX11_next_159 : decode cX11_next 159 = .ok (.iconst 2, 1) := by decide +kernel
theorem dX11_next_160 : decode cX11_next 160 = .ok (.goto 4, 3) := by decide +kernel
theorem dX11_next_163 : decode cX11_next 163 = .ok (.iconst 5, 1) := by decide +kernel
theorem dX11_next_164 : decode cX11_next 164 = .ok (.putfield 86, 3) := by decide +kernel
theorem dX11_next_167 : decode cX11_next 167 = .ok (.goto 141, 3) := by decide +kernel
theorem dX11_next_170 : decode cX11_next 170 = .ok (.iload_n 1, 1) := by decide +kernel
theorem dX11_next_171 : decode cX11_next 171 = .ok (.bipush 48, 2) := by decide +kernel
theorem dX11_next_173 : decode cX11_next 173 = .ok (.bipush 57, 2) := by decide +kernel
theorem dX11_next_175 : decode cX11_next 175 = .ok (.invokestatic 63, 3) := by decide +kernel
theorem dX11_next_178 : decode cX11_next 178 = .ok (.ifCond .eq 105, 3) := by decide +kernel
theorem dX11_next_181 : decode cX11_next 181 = .ok (.aload_n 0, 1) := by decide +kernel
theorem dX11_next_182 : decode cX11_next 182 = .ok (.invokevirtual 76, 3) := by decide +kernel
theorem dX11_next_185 : decode cX11_next 185 = .ok (.bipush 48, 2) := by decide +kernel
theorem dX11_next_187 : decode cX11_next 187 = .ok (.bipush 57, 2) := by decide +kernel
theorem dX11_next_189 : decode cX11_next 189 = .ok (.invokestatic 63, 3) := by decide +kernel
theorem dX11_next_192 : decode cX11_next 192 = .ok (.ifCond .eq 51, 3) := by decide +kernel
theorem dX11_next_195 : decode cX11_next 195 = .ok (.aload_n 0, 1) := by decide +kernel
theorem dX11_next_196 : decode cX11_next 196 = .ok (.aload_n 0, 1) := by decide +kernel
theorem dX11_next_197 : decode cX11_next 197 = .ok (.getfield 83, 3) := by decide +kernel
theorem dX11_next_200 : decode cX11_next 200 = .ok (.bipush 99, 2) := by decide +kernel
theorem dX11_next_202 : decode cX11_next 202 = .ok (.if_icmp .le 10, 3) := by decide +kernel
theorem dX11_next_205 : decode cX11_next 205 = .ok (.aload_n 0, 1) := by decide +kernel
theorem dX11_next_206 : decode cX11_next 206 = .ok (.getfield 83, 3) := by decide +kernel
theorem dX11_next_209 : decode cX11_next 209 = .ok (.goto 18, 3) := by decide +kernel
theorem dX11_next_212 : decode cX11_next 212 = .ok (.bipush 10, 2) := by decide +kernel
theorem dX11_next_214 : decode cX11_next 214 = .ok (.aload_n 0, 1) := by decide +kernel
theorem dX11_next_215 : decode cX11_next 215 = .ok (.getfield 83, 3) := by decide +kernel
theorem dX11_next_218 : decode cX11_next 218 = .ok (.imul, 1) := by decide +kernel
theorem dX11_next_219 : decode cX11_next 219 = .ok (.aload_n 0, 1) := by decide +kernel
theorem dX11_next_220 : decode cX11_next 220 = .ok (.invokevirtual 76, 3) := by decide +kernel
theorem dX11_next_223 : decode cX11_next 223 = .ok (.iadd, 1) := by decide +kernel
theorem dX11_next_224 : decode cX11_next 224 = .ok (.bipush 48, 2) := by decide +kernel
theorem dX11_next_226 : decode cX11_next 226 = .ok (.isub, 1) := by decide +kernel
theorem dX11_next_227 : decode cX11_next 227 = .ok (.putfield 83, 3) := by decide +kernel
theorem dX11_next_230 : decode cX11_next 230 = .ok (.aload_n 0, 1) := by decide +kernel
theorem dX11_next_231 : decode cX11_next 231 = .ok (.dup, 1) := by decide +kernel
theorem dX11_next_232 : decode cX11_next 232 = .ok (.getfield 73, 3) := by decide +kernel
theorem dX11_next_235 : decode cX11_next 235 = .ok (.iconst 1, 1) := by decide +kernel
theorem dX11_next_236 : decode cX11_next 236 = .ok (.iadd, 1) := by decide +kernel
theorem dX11_next_237 : decode cX11_next 237 = .ok (.putfield 73, 3) := by decide +kernel
theorem dX11_next_240 : decode cX11_next 240 = .ok (.goto (-59), 3) := by decide +kernel
theorem dX11_next_243 : decode cX11_next 243 = .ok (.aload_n 0, 1) := by decide +kernel
theorem dX11_next_244 : decode cX11_next 244 = .ok (.aload_n 0, 1) := by decide +kernel
theorem dX11_next_245 : decode cX11_next 245 = .ok (.getfield 83, 3) := by decide +kernel
theorem dX11_next_248 : decode cX11_next 248 = .ok (.bipush 99, 2) := by decide +kernel
theorem dX11_next_250 : decode cX11_next 250 = .ok (.if_icmp .gt 22, 3) := by decide +kernel
theorem dX11_next_253 : decode cX11_next 253 = .ok (.iload_n 1, 1) := by decide +kernel
theorem dX11_next_254 : decode cX11_next 254 = .ok (.bipush 48, 2) := by decide +kernel
theorem dX11_next_256 : decode cX11_next 256 = .ok (.if_icmp .ne 20, 3) := by decide +kernel
theorem dX11_next_259 : decode cX11_next 259 = .ok (.aload_n 0, 1) := by decide +kernel
theorem dX11_next_260 : decode cX11_next 260 = .ok (.getfield 73, 3) := by decide +kernel
theorem dX11_next_263 : decode cX11_next 263 = .ok (.aload_n 0, 1) := by decide +kernel
theorem dX11_next_264 : decode cX11_next 264 = .ok (.getfield 80, 3) := by decide +kernel
theorem dX11_next_267 : decode cX11_next 267 = .ok (.isub, 1) := by decide +kernel
theorem dX11_next_268 : decode cX11_next 268 = .ok (.iconst 1, 1) := by decide +kernel
theorem dX11_next_269 : decode cX11_next 269 = .ok (.if_icmp .le 7, 3) := by decide +kernel
theorem dX11_next_272 : decode cX11_next 272 = .ok (.iconst 5, 1) := by decide +kernel
theorem dX11_next_273 : decode cX11_next 273 = .ok (.goto 4, 3) := by decide +kernel
theorem dX11_next_276 : decode cX11_next 276 = .ok (.iconst 3, 1) := by decide +kernel
theorem dX11_next_277 : decode cX11_next 277 = .ok (.putfield 86, 3) := by decide +kernel
theorem dX11_next_280 : decode cX11_next 280 = .ok (.goto 28, 3) := by decide +kernel
theorem dX11_next_283 : decode cX11_next 283 = .ok (.aload_n 0, 1) := by decide +kernel
theorem dX11_next_284 : decode cX11_next 284 = .ok (.dup, 1) := by decide +kernel
theorem dX11_next_285 : decode cX11_next 285 = .ok (.getfield 73, 3) := by decide +kernel
theorem dX11_next_288 : decode cX11_next 288 = .ok (.iconst 1, 1) := by decide +kernel
theorem dX11_next_289 : decode cX11_next 289 = .ok (.iadd, 1) := by decide +kernel
theorem dX11_next_290 : decode cX11_next 290 = .ok (.putfield 73, 3) := by decide +kernel
theorem dX11_next_293 : decode cX11_next 293 = .ok (.aload_n 0, 1) := by decide +kernel
theorem dX11_next_294 : decode cX11_next 294 = .ok (.iload_n 1, 1) := by decide +kernel
theorem dX11_next_295 : decode cX11_next 295 = .ok (.bipush 59, 2) := by decide +kernel
theorem dX11_next_297 : decode cX11_next 297 = .ok (.if_icmp .ne 7, 3) := by decide +kernel
theorem dX11_next_300 : decode cX11_next 300 = .ok (.iconst 4, 1) := by decide +kernel
theorem dX11_next_301 : decode cX11_next 301 = .ok (.goto 4, 3) := by decide +kernel
theorem dX11_next_304 : decode cX11_next 304 = .ok (.iconst 5, 1) := by decide +kernel
theorem dX11_next_305 : decode cX11_next 305 = .ok (.putfield 86, 3) := by decide +kernel
theorem dX11_next_308 : decode cX11_next 308 = .ok (.return_, 1) := by decide +kernel
def bX11_next : ol_SE := es_seq (es_wh (ec_2 ol_eq (ei_of (ea_cv 11 fX11_here (ea_r (er_v 0) (ea_0)))) (ei_c 32)) (es_uf 11 5 (er_v 0) ol_add (ei_c 1))) (es_seq (es_pf 11 6 (er_v 0) (ei_f 11 5 (er_v 0))) (es_seq (es_pf 11 8 (er_v 0) (ei_c 0)) (es_seq (es_set 1 (ei_of (ea_cv 11 fX11_here (ea_r (er_v 0) (ea_0))))) (es_seq (es_if (ec_z ol_lt (ei_v 1)) (es_pf 11 7 (er_v 0) (ei_c 0)) (es_if (ec_z ol_ne (ei_of (ea_cs fX11_in (ea_i (ei_v 1) (ea_i (ei_c 97) (ea_i (ei_c 122) (ea_0))))))) (es_seq (es_set 2 (ei_c 0)) (es_seq (es_wh (ec_z ol_ne (ei_of (ea_cs fX11_in (ea_i (ei_of (ea_cv 11 fX11_here (ea_r (er_v 0) (ea_0)))) (ea_i (ei_c 97) (ea_i (ei_c 122) (ea_0))))))) (es_seq (es_set 2 (ei_if (ec_2 ol_lt (ei_2 ol_sub (ei_f 11 5 (er_v 0)) (ei_f 11 6 (er_v 0))) (ei_c 5)) (ei_2 ol_sub (ei_2 ol_add (ei_2 ol_mul (ei_c 27) (ei_v 2)) (ei_of (ea_cv 11 fX11_here (ea_r (er_v 0) (ea_0))))) (ei_c 96)) (ei_c 0))) (es_uf 11 5 (er_v 0) ol_add (ei_c 1)))) (es_seq (es_set 2 (ei_if (ec_2 ol_gt (ei_2 ol_sub (ei_f 11 5 (er_v 0)) (ei_f 11 6 (er_v 0))) (ei_c 5)) (ei_c 0) (ei_v 2))) (es_pf 11 7 (er_v 0) (ei_if (ec_2 ol_eq (ei_v 2) (ei_c 8800)) (ei_c 1) (ei_if (ec_2 ol_eq (ei_v 2) (ei_c 10504420)) (ei_c 2) (ei_c 5))))))) (es_if (ec_z ol_ne (ei_of (ea_cs fX11_in (ea_i (ei_v 1) (ea_i (ei_c 48) (ea_i (ei_c 57) (ea_0))))))) (es_seq (es_wh (ec_z ol_ne (ei_of (ea_cs fX11_in (ea_i (ei_of (ea_cv 11 fX11_here (ea_r (er_v 0) (ea_0)))) (ea_i (ei_c 48) (ea_i (ei_c 57) (ea_0))))))) (es_seq (es_pf 11 8 (er_v 0) (ei_if (ec_2 ol_gt (ei_f 11 8 (er_v 0)) (ei_c 99)) (ei_f 11 8 (er_v 0)) (ei_2 ol_sub (ei_2 ol_add (ei_2 ol_mul (ei_c 10) (ei_f 11 8 (er_v 0))) (ei_of (ea_cv 11 fX11_here (ea_r (er_v 0) (ea_0))))) (ei_c 48)))) (es_uf 11 5 (er_v 0) ol_add (ei_c 1)))) (es_pf 11 7 (er_v 0) (ei_if (ec_or (ec_2 ol_gt (ei_f 11 8 (er_v 0)) (ei_c 99)) (ec_and (ec_2 ol_eq (ei_v 1) (ei_c 48)) (ec_2 ol_gt (ei_2 ol_sub (ei_f 11 5 (er_v 0)) (ei_f 11 6 (er_v 0))) (ei_c 1)))) (ei_c 5) (ei_c 3)))) (es_seq (es_uf 11 5 (er_v 0) ol_add (ei_c 1)) (es_pf 11 7 (er_v 0) (ei_if (ec_2 ol_eq (ei_v 1) (ei_c 59)) (ei_c 4) (ei_c 5))))))) (es_retv)))))
def fX11_next : ol_FE := ol_fe 3 bX11_next
set_option maxRecDepth 20000 in
theorem imX11_next (x : ol_X) (K : ol_K) : IM_S x K mX11_next 0 0 bX11_next := rs_seq (p2 := 22) (rs_wh (pH := 0) (pB := 9) (pE := 22) (pG := 19) (rc_2F (pF := 22) ol_j2_ne_F (ri_k (rk_v (Mc := mX11_here) (conX11_here _ K) (ra_r (rr_vn dX11_next_0 rfl) (ra_0)) dX11_next_1 cwX11_76 tw_998 tw_26 (by decide) rfl rfl ⟨rfl, rfl, Nat.le_of_ble_eq_true rfl⟩ (by decide) (by decide) (al_r al_0)) (Or.inl rfl)) (ri_bi dX11_next_4 (by unfold ol_inR; omega) (by decide)) dX11_next_6 (by decide)) (rs_uf ol_op_add (rr_vn dX11_next_9 rfl) dX11_next_10 dX11_next_11 (ri_ic dX11_next_14 (by unfold ol_inR; omega)) dX11_next_15 gfX11_73 pfX11_73 rfl dX11_next_16) dX11_next_19 (by decide)) (rs_seq (p2 := 30) (rs_pf (rr_vn dX11_next_22 rfl) (ri_f (rr_vn dX11_next_23 rfl) gfX11_73 dX11_next_24) pfX11_80 rfl dX11_next_27) (rs_seq (p2 := 35) (rs_pf (rr_vn dX11_next_30 rfl) (ri_ic dX11_next_31 (by unfold ol_inR; omega)) pfX11_83 rfl dX11_next_32) (rs_seq (p2 := 40) (rs_setn (ri_k (rk_v (Mc := mX11_here) (conX11_here _ K) (ra_r (rr_vn dX11_next_35 rfl) (ra_0)) dX11_next_36 cwX11_76 tw_998 tw_26 (by decide) rfl rfl ⟨rfl, rfl, Nat.le_of_ble_eq_true rfl⟩ (by decide) (by decide) (al_r al_0)) (Or.inl rfl)) dX11_next_39 rfl (ol_ltn rfl)) (rs_seq (p2 := 308) (rs_if (pT := 44) (pF := 52) (pE := 308) (rc_zF (pF := 52) ol_j1_ge_F (ri_vn dX11_next_40 rfl) dX11_next_41 (by decide)) (rs_goto (p3 := 308) (rs_pf (rr_vn dX11_next_44 rfl) (ri_ic dX11_next_45 (by unfold ol_inR; omega)) pfX11_86 rfl dX11_next_46) dX11_next_49 (by decide)) (rs_if (pT := 63) (pF := 170) (pE := 308) (rc_zF (pF := 170) ol_j1_eq_F (ri_k (rk_s (Mc := mX11_in) (conX11_in _ K) (ra_i (ri_vn dX11_next_52 rfl) (ra_i (ri_bi dX11_next_53 (by unfold ol_inR; omega) (by decide)) (ra_i (ri_bi dX11_next_55 (by unfold ol_inR; omega) (by decide)) (ra_0)))) dX11_next_57 cwX11_63 tw_981 ⟨rfl, rfl, Nat.le_of_ble_eq_true rfl⟩ (by decide) (by decide) (al_i (al_i (al_i al_0)))) (Or.inr (Or.inl rfl))) dX11_next_60 (by decide)) (rs_goto (p3 := 308) (rs_seq (p2 := 65) (rs_setn (ri_ic dX11_next_63 (by unfold ol_inR; omega)) dX11_next_64 rfl (ol_ltn rfl)) (rs_seq (p2 := 122) (rs_wh (pH := 65) (pB := 79) (pE := 122) (pG := 119) (rc_zF (pF := 122) ol_j1_eq_F (ri_k (rk_s (Mc := mX11_in) (conX11_in _ K) (ra_i (ri_k (rk_v (Mc := mX11_here) (conX11_here _ K) (ra_r (rr_vn dX11_next_65 rfl) (ra_0)) dX11_next_66 cwX11_76 tw_998 tw_26 (by decide) rfl rfl ⟨rfl, rfl, Nat.le_of_ble_eq_true rfl⟩ (by decide) (by decide) (al_r al_0)) (Or.inl rfl)) (ra_i (ri_bi dX11_next_69 (by unfold ol_inR; omega) (by decide)) (ra_i (ri_bi dX11_next_71 (by unfold ol_inR; omega) (by decide)) (ra_0)))) dX11_next_73 cwX11_63 tw_981 ⟨rfl, rfl, Nat.le_of_ble_eq_true rfl⟩ (by decide) (by decide) (al_i (al_i (al_i al_0)))) (Or.inr (Or.inl rfl))) dX11_next_76 (by decide)) (rs_seq (p2 := 109) (rs_setn (ri_if (pT := 92) (pF := 107) (p3 := 108) (rc_2F (pF := 107) ol_j2_ge_F (ri_2 ol_op_sub (ri_f (rr_vn dX11_next_79 rfl) gfX11_73 dX11_next_80) (ri_f (rr_vn dX11_next_83 rfl) gfX11_80 dX11_next_84) dX11_next_87) (ri_ic dX11_next_88 (by unfold ol_inR; omega)) dX11_next_89 (by decide)) (ri_2 ol_op_sub (ri_2 ol_op_add (ri_2 ol_op_mul (ri_bi dX11_next_92 (by unfold ol_inR; omega) (by decide)) (ri_vn dX11_next_94 rfl) dX11_next_95) (ri_k (rk_v (Mc := mX11_here) (conX11_here _ K) (ra_r (rr_vn dX11_next_96 rfl) (ra_0)) dX11_next_97 cwX11_76 tw_998 tw_26 (by decide) rfl rfl ⟨rfl, rfl, Nat.le_of_ble_eq_true rfl⟩ (by decide) (by decide) (al_r al_0)) (Or.inl rfl)) dX11_next_100) (ri_bi dX11_next_101 (by unfold ol_inR; omega) (by decide)) dX11_next_103) dX11_next_104 (by decide) (ri_ic dX11_next_107 (by unfold ol_inR; omega))) dX11_next_108 rfl (ol_ltn rfl)) (rs_uf ol_op_add (rr_vn dX11_next_109 rfl) dX11_next_110 dX11_next_111 (ri_ic dX11_next_114 (by unfold ol_inR; omega)) dX11_next_115 gfX11_73 pfX11_73 rfl dX11_next_116)) dX11_next_119 (by decide)) (rs_seq (p2 := 141) (rs_setn (ri_if (pT := 135) (pF := 139) (p3 := 140) (rc_2F (pF := 139) ol_j2_le_F (ri_2 ol_op_sub (ri_f (rr_vn dX11_next_122 rfl) gfX11_73 dX11_next_123) (ri_f (rr_vn dX11_next_126 rfl) gfX11_80 dX11_next_127) dX11_next_130) (ri_ic dX11_next_131 (by unfold ol_inR; omega)) dX11_next_132 (by decide)) (ri_ic dX11_next_135 (by unfold ol_inR; omega)) dX11_next_136 (by decide) (ri_vn dX11_next_139 rfl)) dX11_next_140 rfl (ol_ltn rfl)) (rs_pf (rr_vn dX11_next_141 rfl) (ri_if (pT := 149) (pF := 153) (p3 := 164) (rc_2F (pF := 153) ol_j2_ne_F (ri_vn dX11_next_142 rfl) (ri_si dX11_next_143 (by unfold ol_inR; omega) (by decide)) dX11_next_146 (by decide)) (ri_ic dX11_next_149 (by unfold ol_inR; omega)) dX11_next_150 (by decide) (ri_if (pT := 159) (pF := 163) (p3 := 164) (rc_2F (pF := 163) ol_j2_ne_F (ri_vn dX11_next_153 rfl) (ri_ldc dX11_next_154 (by unfold ol_inR; omega) tw_1000) dX11_next_156 (by decide)) (ri_ic dX11_next_159 (by unfold ol_inR; omega)) dX11_next_160 (by decide) (ri_ic dX11_next_163 (by unfold ol_inR; omega)))) pfX11_86 rfl dX11_next_164)))) dX11_next_167 (by decide)) (rs_if (pT := 181) (pF := 283) (pE := 308) (rc_zF (pF := 283) ol_j1_eq_F (ri_k (rk_s (Mc := mX11_in) (conX11_in _ K) (ra_i (ri_vn dX11_next_170 rfl) (ra_i (ri_bi dX11_next_171 (by unfold ol_inR; omega) (by decide)) (ra_i (ri_bi dX11_next_173 (by unfold ol_inR; omega) (by decide)) (ra_0)))) dX11_next_175 cwX11_63 tw_981 ⟨rfl, rfl, Nat.le_of_ble_eq_true rfl⟩ (by decide) (by decide) (al_i (al_i (al_i al_0)))) (Or.inr (Or.inl rfl))) dX11_next_178 (by decide)) (rs_goto (p3 := 308) (rs_seq (p2 := 243) (rs_wh (pH := 181) (pB := 195) (pE := 243) (pG := 240) (rc_zF (pF := 243) ol_j1_eq_F (ri_k (rk_s (Mc := mX11_in) (conX11_in _ K) (ra_i (ri_k (rk_v (Mc := mX11_here) (conX11_here _ K) (ra_r (rr_vn dX11_next_181 rfl) (ra_0)) dX11_next_182 cwX11_76 tw_998 tw_26 (by decide) rfl rfl ⟨rfl, rfl, Nat.le_of_ble_eq_true rfl⟩ (by decide) (by decide) (al_r al_0)) (Or.inl rfl)) (ra_i (ri_bi dX11_next_185 (by unfold ol_inR; omega) (by decide)) (ra_i (ri_bi dX11_next_187 (by unfold ol_inR; omega) (by decide)) (ra_0)))) dX11_next_189 cwX11_63 tw_981 ⟨rfl, rfl, Nat.le_of_ble_eq_true rfl⟩ (by decide) (by decide) (al_i (al_i (al_i al_0)))) (Or.inr (Or.inl rfl))) dX11_next_192 (by decide)) (rs_seq (p2 := 230) (rs_pf (rr_vn dX11_next_195 rfl) (ri_if (pT := 205) (pF := 212) (p3 := 227) (rc_2F (pF := 212) ol_j2_le_F (ri_f (rr_vn dX11_next_196 rfl) gfX11_83 dX11_next_197) (ri_bi dX11_next_200 (by unfold ol_inR; omega) (by decide)) dX11_next_202 (by decide)) (ri_f (rr_vn dX11_next_205 rfl) gfX11_83 dX11_next_206) dX11_next_209 (by decide) (ri_2 ol_op_sub (ri_2 ol_op_add (ri_2 ol_op_mul (ri_bi dX11_next_212 (by unfold ol_inR; omega) (by decide)) (ri_f (rr_vn dX11_next_214 rfl) gfX11_83 dX11_next_215) dX11_next_218) (ri_k (rk_v (Mc := mX11_here) (conX11_here _ K) (ra_r (rr_vn dX11_next_219 rfl) (ra_0)) dX11_next_220 cwX11_76 tw_998 tw_26 (by decide) rfl rfl ⟨rfl, rfl, Nat.le_of_ble_eq_true rfl⟩ (by decide) (by decide) (al_r al_0)) (Or.inl rfl)) dX11_next_223) (ri_bi dX11_next_224 (by unfold ol_inR; omega) (by decide)) dX11_next_226)) pfX11_83 rfl dX11_next_227) (rs_uf ol_op_add (rr_vn dX11_next_230 rfl) dX11_next_231 dX11_next_232 (ri_ic dX11_next_235 (by unfold ol_inR; omega)) dX11_next_236 gfX11_73 pfX11_73 rfl dX11_next_237)) dX11_next_240 (by decide)) (rs_pf (rr_vn dX11_next_243 rfl) (ri_if (pT := 272) (pF := 276) (p3 := 277) (rc_or (p2 := 253) (pT := 272) (pF := 276) (rc_2T (pT := 272) ol_j2_gt_T (ri_f (rr_vn dX11_next_244 rfl) gfX11_83 dX11_next_245) (ri_bi dX11_next_248 (by unfold ol_inR; omega) (by decide)) dX11_next_250 (by decide)) (rc_and (p2 := 259) (pT := 272) (pF := 276) (rc_2F (pF := 276) ol_j2_ne_F (ri_vn dX11_next_253 rfl) (ri_bi dX11_next_254 (by unfold ol_inR; omega) (by decide)) dX11_next_256 (by decide)) (rc_2F (pF := 276) ol_j2_le_F (ri_2 ol_op_sub (ri_f (rr_vn dX11_next_259 rfl) gfX11_73 dX11_next_260) (ri_f (rr_vn dX11_next_263 rfl) gfX11_80 dX11_next_264) dX11_next_267) (ri_ic dX11_next_268 (by unfold ol_inR; omega)) dX11_next_269 (by decide)))) (ri_ic dX11_next_272 (by unfold ol_inR; omega)) dX11_next_273 (by decide) (ri_ic dX11_next_276 (by unfold ol_inR; omega))) pfX11_86 rfl dX11_next_277)) dX11_next_280 (by decide)) (rs_seq (p2 := 293) (rs_uf ol_op_add (rr_vn dX11_next_283 rfl) dX11_next_284 dX11_next_285 (ri_ic dX11_next_288 (by unfold ol_inR; omega)) dX11_next_289 gfX11_73 pfX11_73 rfl dX11_next_290) (rs_pf (rr_vn dX11_next_293 rfl) (ri_if (pT := 300) (pF := 304) (p3 := 305) (rc_2F (pF := 304) ol_j2_ne_F (ri_vn dX11_next_294 rfl) (ri_bi dX11_next_295 (by unfold ol_inR; omega) (by decide)) dX11_next_297 (by decide)) (ri_ic dX11_next_300 (by unfold ol_inR; omega)) dX11_next_301 (by decide) (ri_ic dX11_next_304 (by unfold ol_inR; omega))) pfX11_86 rfl dX11_next_305))))) (rs_retv rfl dX11_next_308)))))
theorem conX11_next (l : Launch) (K : ol_K) : ol_Con l K yX11_next mX11_next fX11_next := ol_con (M := mX11_next) (by decide) rfl rfl (imX11_next · K)
theorem dX11_lay_0 : decode cX11_lay 0 = .ok (.iload_n 1, 1) := by decide +kernel
theorem dX11_lay_1 : decode cX11_lay 1 = .ok (.iconst 0, 1) := by decide +kernel
theorem dX11_lay_2 : decode cX11_lay 2 = .ok (.iconst 3, 1) := by decide +kernel
theorem dX11_lay_3 : decode cX11_lay 3 = .ok (.invokestatic 63, 3) := by decide +kernel
theorem dX11_lay_6 : decode cX11_lay 6 = .ok (.ifCond .ne 5, 3) := by decide +kernel
theorem dX11_lay_9 : decode cX11_lay 9 = .ok (.iconst (-1), 1) := by decide +kernel
theorem dX11_lay_10 : decode cX11_lay 10 = .ok (.ireturn, 1) := by decide +kernel
theorem dX11_lay_11 : decode cX11_lay 11 = .ok (.aload_n 0, 1) := by decide +kernel
theorem dX11_lay_12 : decode cX11_lay 12 = .ok (.iload_n 1, 1) := by decide +kernel
theorem dX11_lay_13 : decode cX11_lay 13 = .ok (.invokevirtual 115, 3) := by decide +kernel
theorem dX11_lay_16 : decode cX11_lay 16 = .ok (.ifCond .ne 6, 3) := by decide +kernel
theorem dX11_lay_19 : decode cX11_lay 19 = .ok (.bipush (-2), 2) := by decide +kernel
theorem dX11_lay_21 : decode cX11_lay 21 = .ok (.ireturn, 1) := by decide +kernel
theorem dX11_lay_22 : decode cX11_lay 22 = .ok (.aload_n 0, 1) := by decide +kernel
theorem dX11_lay_23 : decode cX11_lay 23 = .ok (.sipush 1560, 3) := by decide +kernel
theorem dX11_lay_26 : decode cX11_lay 26 = .ok (.sipush 780, 3) := by decide +kernel
theorem dX11_lay_29 : decode cX11_lay 29 = .ok (.iload_n 1, 1) := by decide +kernel
theorem dX11_lay_30 : decode cX11_lay 30 = .ok (.imul, 1) := by decide +kernel
theorem dX11_lay_31 : decode cX11_lay 31 = .ok (.iadd, 1) := by decide +kernel
theorem dX11_lay_32 : decode cX11_lay 32 = .ok (.iconst 0, 1) := by decide +kernel
theorem dX11_lay_33 : decode cX11_lay 33 = .ok (.invokevirtual 108, 3) := by decide +kernel
theorem dX11_lay_36 : decode cX11_lay 36 = .ok (.aload_n 0, 1) := by decide +kernel
theorem dX11_lay_37 : decode cX11_lay 37 = .ok (.invokevirtual 119, 3) := by decide +kernel
theorem dX11_lay_40 : decode cX11_lay 40 = .ok (.ireturn, 1) := by decide +kernel
def bX11_lay : ol_SE := es_seq (es_if (ec_not (ec_z ol_ne (ei_of (ea_cs fX11_in (ea_i (ei_v 1) (ea_i (ei_c 0) (ea_i (ei_c 3) (ea_0)))))))) (es_ret (ei_c (-1))) es_skip) (es_seq (es_if (ec_not (ec_z ol_ne (ei_of (ea_cv 11 fX11_isTold (ea_r (er_v 0) (ea_i (ei_v 1) (ea_0))))))) (es_ret (ei_c (-2))) es_skip) (es_seq (es_of (ea_cv 11 fX11_copy (ea_r (er_v 0) (ea_i (ei_2 ol_add (ei_c 1560) (ei_2 ol_mul (ei_c 780) (ei_v 1))) (ea_i (ei_c 0) (ea_0)))))) (es_ret (ei_of (ea_cv 11 fX11_allDrops (ea_r (er_v 0) (ea_0)))))))
def fX11_lay : ol_FE := ol_fe 2 bX11_lay
set_option maxRecDepth 20000 in
theorem imX11_lay (x : ol_X) (K : ol_K) : IM_S x K mX11_lay 0 0 bX11_lay := rs_seq (p2 := 11) (rs_if (pT := 9) (pF := 11) (pE := 11) (rc_not (rc_zT (pT := 11) ol_j1_ne_T (ri_k (rk_s (Mc := mX11_in) (conX11_in _ K) (ra_i (ri_vn dX11_lay_0 rfl) (ra_i (ri_ic dX11_lay_1 (by unfold ol_inR; omega)) (ra_i (ri_ic dX11_lay_2 (by unfold ol_inR; omega)) (ra_0)))) dX11_lay_3 cwX11_63 tw_981 ⟨rfl, rfl, Nat.le_of_ble_eq_true rfl⟩ (by decide) (by decide) (al_i (al_i (al_i al_0)))) (Or.inr (Or.inl rfl))) dX11_lay_6 (by decide))) (rs_ret (ri_ic dX11_lay_9 (by unfold ol_inR; omega)) rfl dX11_lay_10) rs_skip) (rs_seq (p2 := 22) (rs_if (pT := 19) (pF := 22) (pE := 22) (rc_not (rc_zT (pT := 22) ol_j1_ne_T (ri_k (rk_v (Mc := mX11_isTold) (conX11_isTold _ K) (ra_r (rr_vn dX11_lay_11 rfl) (ra_i (ri_vn dX11_lay_12 rfl) (ra_0))) dX11_lay_13 cwX11_115 tw_1023 tw_31 (by decide) rfl rfl ⟨rfl, rfl, Nat.le_of_ble_eq_true rfl⟩ (by decide) (by decide) (al_r (al_i al_0))) (Or.inr (Or.inl rfl))) dX11_lay_16 (by decide))) (rs_ret (ri_bi dX11_lay_19 (by unfold ol_inR; omega) (by decide)) rfl dX11_lay_21) rs_skip) (rs_seq (p2 := 36) (rs_k (rk_v (Mc := mX11_copy) (conX11_copy _ K) (ra_r (rr_vn dX11_lay_22 rfl) (ra_i (ri_2 ol_op_add (ri_si dX11_lay_23 (by unfold ol_inR; omega) (by decide)) (ri_2 ol_op_mul (ri_si dX11_lay_26 (by unfold ol_inR; omega) (by decide)) (ri_vn dX11_lay_29 rfl) dX11_lay_30) dX11_lay_31) (ra_i (ri_ic dX11_lay_32 (by unfold ol_inR; omega)) (ra_0)))) dX11_lay_33 cwX11_108 tw_1015 tw_30 (by decide) rfl rfl ⟨rfl, rfl, Nat.le_of_ble_eq_true rfl⟩ (by decide) (by decide) (al_r (al_i (al_i al_0))))) (rs_ret (ri_k (rk_v (Mc := mX11_allDrops) (conX11_allDrops _ K) (ra_r (rr_vn dX11_lay_36 rfl) (ra_0)) dX11_lay_37 cwX11_119 tw_1027 tw_32 (by decide) rfl rfl ⟨rfl, rfl, Nat.le_of_ble_eq_true rfl⟩ (by decide) (by decide) (al_r al_0)) (Or.inl rfl)) rfl dX11_lay_40)))
theorem conX11_lay (l : Launch) (K : ol_K) : ol_Con l K yX11_lay mX11_lay fX11_lay := ol_con (M := mX11_lay) (by decide) rfl rfl (imX11_lay · K)
theorem dX11_drops_0 : decode cX11_drops 0 = .ok (.iload_n 1, 1) := by decide +kernel
theorem dX11_drops_1 : decode cX11_drops 1 = .ok (.iconst 0, 1) := by decide +kernel
theorem dX11_drops_2 : decode cX11_drops 2 = .ok (.bipush 38, 2) := by decide +kernel
theorem dX11_drops_4 : decode cX11_drops 4 = .ok (.invokestatic 63, 3) := by decide +kernel
theorem dX11_drops_7 : decode cX11_drops 7 = .ok (.ifCond .eq 27, 3) := by decide +kernel
theorem dX11_drops_10 : decode cX11_drops 10 = .ok (.iload_n 2, 1) := by decide +kernel
theorem dX11_drops_11 : decode cX11_drops 11 = .ok (.iconst 0, 1) := by decide +kernel
theorem dX11_drops_12 : decode cX11_drops 12 = .ok (.bipush 19, 2) := by decide +kernel
theorem dX11_drops_14 : decode cX11_drops 14 = .ok (.invokestatic 63, 3) := by decide +kernel
theorem dX11_drops_17 : decode cX11_drops 17 = .ok (.ifCond .eq 17, 3) := by decide +kernel
theorem dX11_drops_20 : decode cX11_drops 20 = .ok (.aload_n 0, 1) := by decide +kernel
theorem dX11_drops_21 : decode cX11_drops 21 = .ok (.getfield 13, 3) := by decide +kernel
theorem dX11_drops_24 : decode cX11_drops 24 = .ok (.bipush 39, 2) := by decide +kernel
theorem dX11_drops_26 : decode cX11_drops 26 = .ok (.iload_n 2, 1) := by decide +kernel
theorem dX11_drops_27 : decode cX11_drops 27 = .ok (.imul, 1) := by decide +kernel
theorem dX11_drops_28 : decode cX11_drops 28 = .ok (.iload_n 1, 1) := by decide +kernel
theorem dX11_drops_29 : decode cX11_drops 29 = .ok (.iadd, 1) := by decide +kernel
theorem dX11_drops_30 : decode cX11_drops 30 = .ok (.iaload, 1) := by decide +kernel
theorem dX11_drops_31 : decode cX11_drops 31 = .ok (.goto 4, 3) := by decide +kernel
theorem dX11_drops_34 : decode cX11_drops 34 = .ok (.iconst (-1), 1) := by decide +kernel
theorem dX11_drops_35 : decode cX11_drops 35 = .ok (.ireturn, 1) := by decide +kernel
def bX11_drops : ol_SE := es_ret (ei_if (ec_and (ec_z ol_ne (ei_of (ea_cs fX11_in (ea_i (ei_v 1) (ea_i (ei_c 0) (ea_i (ei_c 38) (ea_0))))))) (ec_z ol_ne (ei_of (ea_cs fX11_in (ea_i (ei_v 2) (ea_i (ei_c 0) (ea_i (ei_c 19) (ea_0)))))))) (ei_a 100 (er_f 11 3 (er_v 0)) (ei_2 ol_add (ei_2 ol_mul (ei_c 39) (ei_v 2)) (ei_v 1))) (ei_c (-1)))
def fX11_drops : ol_FE := ol_fe 3 bX11_drops
set_option maxRecDepth 20000 in
theorem imX11_drops (x : ol_X) (K : ol_K) : IM_S x K mX11_drops 0 0 bX11_drops := rs_ret (ri_if (pT := 20) (pF := 34) (p3 := 35) (rc_and (p2 := 10) (pT := 20) (pF := 34) (rc_zF (pF := 34) ol_j1_eq_F (ri_k (rk_s (Mc := mX11_in) (conX11_in _ K) (ra_i (ri_vn dX11_drops_0 rfl) (ra_i (ri_ic dX11_drops_1 (by unfold ol_inR; omega)) (ra_i (ri_bi dX11_drops_2 (by unfold ol_inR; omega) (by decide)) (ra_0)))) dX11_drops_4 cwX11_63 tw_981 ⟨rfl, rfl, Nat.le_of_ble_eq_true rfl⟩ (by decide) (by decide) (al_i (al_i (al_i al_0)))) (Or.inr (Or.inl rfl))) dX11_drops_7 (by decide)) (rc_zF (pF := 34) ol_j1_eq_F (ri_k (rk_s (Mc := mX11_in) (conX11_in _ K) (ra_i (ri_vn dX11_drops_10 rfl) (ra_i (ri_ic dX11_drops_11 (by unfold ol_inR; omega)) (ra_i (ri_bi dX11_drops_12 (by unfold ol_inR; omega) (by decide)) (ra_0)))) dX11_drops_14 cwX11_63 tw_981 ⟨rfl, rfl, Nat.le_of_ble_eq_true rfl⟩ (by decide) (by decide) (al_i (al_i (al_i al_0)))) (Or.inr (Or.inl rfl))) dX11_drops_17 (by decide))) (ri_a (rr_f (rr_vn dX11_drops_20 rfl) gfX11_13 dX11_drops_21) (ri_2 ol_op_add (ri_2 ol_op_mul (ri_bi dX11_drops_24 (by unfold ol_inR; omega) (by decide)) (ri_vn dX11_drops_26 rfl) dX11_drops_27) (ri_vn dX11_drops_28 rfl) dX11_drops_29) rfl dX11_drops_30) dX11_drops_31 (by decide) (ri_ic dX11_drops_34 (by unfold ol_inR; omega))) rfl dX11_drops_35
theorem conX11_drops (l : Launch) (K : ol_K) : ol_Con l K yX11_drops mX11_drops fX11_drops := ol_con (M := mX11_drops) (by decide) rfl rfl (imX11_drops · K)
theorem dX11_oil_0 : decode cX11_oil 0 = .ok (.iload_n 1, 1) := by decide +kernel
theorem dX11_oil_1 : decode cX11_oil 1 = .ok (.iconst (-1), 1) := by decide +kernel
theorem dX11_oil_2 : decode cX11_oil 2 = .ok (.bipush 19, 2) := by decide +kernel
theorem dX11_oil_4 : decode cX11_oil 4 = .ok (.invokestatic 63, 3) := by decide +kernel
theorem dX11_oil_7 : decode cX11_oil 7 = .ok (.ifCond .ne 5, 3) := by decide +kernel
theorem dX11_oil_10 : decode cX11_oil 10 = .ok (.iconst (-1), 1) := by decide +kernel
theorem dX11_oil_11 : decode cX11_oil 11 = .ok (.ireturn, 1) := by decide +kernel
theorem dX11_oil_12 : decode cX11_oil 12 = .ok (.iconst 0, 1) := by decide +kernel
theorem dX11_oil_13 : decode cX11_oil 13 = .ok (.istore_n 2, 1) := by decide +kernel
theorem dX11_oil_14 : decode cX11_oil 14 = .ok (.iconst 0, 1) := by decide +kernel
theorem dX11_oil_15 : decode cX11_oil 15 = .ok (.istore_n 3, 1) := by decide +kernel
theorem dX11_oil_16 : decode cX11_oil 16 = .ok (.iload_n 3, 1) := by decide +kernel
theorem dX11_oil_17 : decode cX11_oil 17 = .ok (.bipush 39, 2) := by decide +kernel
theorem dX11_oil_19 : decode cX11_oil 19 = .ok (.if_icmp .ge 27, 3) := by decide +kernel
theorem dX11_oil_22 : decode cX11_oil 22 = .ok (.iload_n 1, 1) := by decide +kernel
theorem dX11_oil_23 : decode cX11_oil 23 = .ok (.ifCond .lt 23, 3) := by decide +kernel
theorem dX11_oil_26 : decode cX11_oil 26 = .ok (.iload_n 2, 1) := by decide +kernel
theorem dX11_oil_27 : decode cX11_oil 27 = .ok (.aload_n 0, 1) := by decide +kernel
theorem dX11_oil_28 : decode cX11_oil 28 = .ok (.getfield 13, 3) := by decide +kernel
theorem dX11_oil_31 : decode cX11_oil 31 = .ok (.bipush 39, 2) := by decide +kernel
theorem dX11_oil_33 : decode cX11_oil 33 = .ok (.iload_n 1, 1) := by decide +kernel
theorem dX11_oil_34 : decode cX11_oil 34 = .ok (.imul, 1) := by decide +kernel
theorem dX11_oil_35 : decode cX11_oil 35 = .ok (.iload_n 3, 1) := by decide +kernel
theorem dX11_oil_36 : decode cX11_oil 36 = .ok (.iadd, 1) := by decide +kernel
theorem dX11_oil_37 : decode cX11_oil 37 = .ok (.iaload, 1) := by decide +kernel
theorem dX11_oil_38 : decode cX11_oil 38 = .ok (.iadd, 1) := by decide +kernel
theorem dX11_oil_39 : decode cX11_oil 39 = .ok (.istore_n 2, 1) := by decide +kernel
theorem dX11_oil_40 : decode cX11_oil 40 = .ok (.iinc 3 1, 3) := by decide +kernel
theorem dX11_oil_43 : decode cX11_oil 43 = .ok (.goto (-27), 3) := by decide +kernel
theorem dX11_oil_46 : decode cX11_oil 46 = .ok (.iload_n 1, 1) := by decide +kernel
theorem dX11_oil_47 : decode cX11_oil 47 = .ok (.ifCond .ge 10, 3) := by decide +kernel
theorem dX11_oil_50 : decode cX11_oil 50 = .ok (.aload_n 0, 1) := by decide +kernel
theorem dX11_oil_51 : decode cX11_oil 51 = .ok (.invokevirtual 119, 3) := by decide +kernel
theorem dX11_oil_54 : decode cX11_oil 54 = .ok (.goto 4, 3) := by decide +kernel
theorem dX11_oil_57 : decode cX11_oil 57 = .ok (.iload_n 2, 1) := by decide +kernel
theorem dX11_oil_58 : decode cX11_oil 58 = .ok (.ireturn, 1) := by decide +kernel
def bX11_oil : ol_SE := es_seq (es_if (ec_not (ec_z ol_ne (ei_of (ea_cs fX11_in (ea_i (ei_v 1) (ea_i (ei_c (-1)) (ea_i (ei_c 19) (ea_0)))))))) (es_ret (ei_c (-1))) es_skip) (es_seq (es_set 2 (ei_c 0)) (es_seq (es_seq (es_set 3 (ei_c 0)) (es_wh (ec_and (ec_2 ol_lt (ei_v 3) (ei_c 39)) (ec_z ol_ge (ei_v 1))) (es_seq (es_set 2 (ei_2 ol_add (ei_v 2) (ei_a 100 (er_f 11 3 (er_v 0)) (ei_2 ol_add (ei_2 ol_mul (ei_c 39) (ei_v 1)) (ei_v 3))))) (es_inc 3 1)))) (es_ret (ei_if (ec_z ol_lt (ei_v 1)) (ei_of (ea_cv 11 fX11_allDrops (ea_r (er_v 0) (ea_0)))) (ei_v 2)))))
def fX11_oil : ol_FE := ol_fe 4 bX11_oil
set_option maxRecDepth 20000 in
theorem imX11_oil (x : ol_X) (K : ol_K) : IM_S x K mX11_oil 0 0 bX11_oil := rs_seq (p2 := 12) (rs_if (pT := 10) (pF := 12) (pE := 12) (rc_not (rc_zT (pT := 12) ol_j1_ne_T (ri_k (rk_s (Mc := mX11_in) (conX11_in _ K) (ra_i (ri_vn dX11_oil_0 rfl) (ra_i (ri_ic dX11_oil_1 (by unfold ol_inR; omega)) (ra_i (ri_bi dX11_oil_2 (by unfold ol_inR; omega) (by decide)) (ra_0)))) dX11_oil_4 cwX11_63 tw_981 ⟨rfl, rfl, Nat.le_of_ble_eq_true rfl⟩ (by decide) (by decide) (al_i (al_i (al_i al_0)))) (Or.inr (Or.inl rfl))) dX11_oil_7 (by decide))) (rs_ret (ri_ic dX11_oil_10 (by unfold ol_inR; omega)) rfl dX11_oil_11) rs_skip) (rs_seq (p2 := 14) (rs_setn (ri_ic dX11_oil_12 (by unfold ol_inR; omega)) dX11_oil_13 rfl (ol_ltn rfl)) (rs_seq (p2 := 46) (rs_seq (p2 := 16) (rs_setn (ri_ic dX11_oil_14 (by unfold ol_inR; omega)) dX11_oil_15 rfl (ol_ltn rfl)) (rs_wh (pH := 16) (pB := 26) (pE := 46) (pG := 43) (rc_and (p2 := 22) (pT := 26) (pF := 46) (rc_2F (pF := 46) ol_j2_ge_F (ri_vn dX11_oil_16 rfl) (ri_bi dX11_oil_17 (by unfold ol_inR; omega) (by decide)) dX11_oil_19 (by decide)) (rc_zF (pF := 46) ol_j1_lt_F (ri_vn dX11_oil_22 rfl) dX11_oil_23 (by decide))) (rs_seq (p2 := 40) (rs_setn (ri_2 ol_op_add (ri_vn dX11_oil_26 rfl) (ri_a (rr_f (rr_vn dX11_oil_27 rfl) gfX11_13 dX11_oil_28) (ri_2 ol_op_add (ri_2 ol_op_mul (ri_bi dX11_oil_31 (by unfold ol_inR; omega) (by decide)) (ri_vn dX11_oil_33 rfl) dX11_oil_34) (ri_vn dX11_oil_35 rfl) dX11_oil_36) rfl dX11_oil_37) dX11_oil_38) dX11_oil_39 rfl (ol_ltn rfl)) (rs_inc dX11_oil_40 (ol_ltn rfl))) dX11_oil_43 (by decide))) (rs_ret (ri_if (pT := 50) (pF := 57) (p3 := 58) (rc_zF (pF := 57) ol_j1_ge_F (ri_vn dX11_oil_46 rfl) dX11_oil_47 (by decide)) (ri_k (rk_v (Mc := mX11_allDrops) (conX11_allDrops _ K) (ra_r (rr_vn dX11_oil_50 rfl) (ra_0)) dX11_oil_51 cwX11_119 tw_1027 tw_32 (by decide) rfl rfl ⟨rfl, rfl, Nat.le_of_ble_eq_true rfl⟩ (by decide) (by decide) (al_r al_0)) (Or.inl rfl)) dX11_oil_54 (by decide) (ri_vn dX11_oil_57 rfl)) rfl dX11_oil_58)))
theorem conX11_oil (l : Launch) (K : ol_K) : ol_Con l K yX11_oil mX11_oil fX11_oil := ol_con (M := mX11_oil) (by decide) rfl rfl (imX11_oil · K)
theorem dX11_isBall_0 : decode cX11_isBall 0 = .ok (.iload_n 0, 1) := by decide +kernel
theorem dX11_isBall_1 : decode cX11_isBall 1 = .ok (.iconst 0, 1) := by decide +kernel
theorem dX11_isBall_2 : decode cX11_isBall 2 = .ok (.iconst 5, 1) := by decide +kernel
theorem dX11_isBall_3 : decode cX11_isBall 3 = .ok (.invokestatic 63, 3) := by decide +kernel
theorem dX11_isBall_6 : decode cX11_isBall 6 = .ok (.ireturn, 1) := by decide +kernel
def bX11_isBall : ol_SE := es_retz (ei_of (ea_cs fX11_in (ea_i (ei_v 0) (ea_i (ei_c 0) (ea_i (ei_c 5) (ea_0))))))
def fX11_isBall : ol_FE := ol_fe 1 bX11_isBall
set_option maxRecDepth 20000 in
theorem imX11_isBall (x : ol_X) (K : ol_K) : IM_S x K mX11_isBall 0 0 bX11_isBall := rs_retz (ri_k (rk_s (Mc := mX11_in) (conX11_in _ K) (ra_i (ri_vn dX11_isBall_0 rfl) (ra_i (ri_ic dX11_isBall_1 (by unfold ol_inR; omega)) (ra_i (ri_ic dX11_isBall_2 (by unfold ol_inR; omega)) (ra_0)))) dX11_isBall_3 cwX11_63 tw_981 ⟨rfl, rfl, Nat.le_of_ble_eq_true rfl⟩ (by decide) (by decide) (al_i (al_i (al_i al_0)))) (Or.inr (Or.inl rfl))) rfl dX11_isBall_6
theorem conX11_isBall (l : Launch) (K : ol_K) : ol_Con l K yX11_isBall mX11_isBall fX11_isBall := ol_con (M := mX11_isBall) (by decide) rfl rfl (imX11_isBall · K)
theorem dX11_goStretch_0 : decode cX11_goStretch 0 = .ok (.aload_n 0, 1) := by decide +kernel
theorem dX11_goStretch_1 : decode cX11_goStretch 1 = .ok (.getfield 13, 3) := by decide +kernel
theorem dX11_goStretch_4 : decode cX11_goStretch 4 = .ok (.iload_n 1, 1) := by decide +kernel
theorem dX11_goStretch_5 : decode cX11_goStretch 5 = .ok (.iaload, 1) := by decide +kernel
theorem dX11_goStretch_6 : decode cX11_goStretch 6 = .ok (.istore_n 3, 1) := by decide +kernel
theorem dX11_goStretch_7 : decode cX11_goStretch 7 = .ok (.iload_n 3, 1) := by decide +kernel
theorem dX11_goStretch_8 : decode cX11_goStretch 8 = .ok (.bipush 10, 2) := by decide +kernel
theorem dX11_goStretch_10 : decode cX11_goStretch 10 = .ok (.if_icmp .lt 7, 3) := by decide +kernel
theorem dX11_goStretch_13 : decode cX11_goStretch 13 = .ok (.iconst 0, 1) := by decide +kernel
theorem dX11_goStretch_14 : decode cX11_goStretch 14 = .ok (.goto 14, 3) := by decide +kernel
theorem dX11_goStretch_17 : decode cX11_goStretch 17 = .ok (.aload_n 0, 1) := by decide +kernel
theorem dX11_goStretch_18 : decode cX11_goStretch 18 = .ok (.getfield 17, 3) := by decide +kernel
theorem dX11_goStretch_21 : decode cX11_goStretch 21 = .ok (.iload_n 2, 1) := by decide +kernel
theorem dX11_goStretch_22 : decode cX11_goStretch 22 = .ok (.iaload, 1) := by decide +kernel
theorem dX11_goStretch_23 : decode cX11_goStretch 23 = .ok (.bipush 10, 2) := by decide +kernel
theorem dX11_goStretch_25 : decode cX11_goStretch 25 = .ok (.iload_n 3, 1) := by decide +kernel
theorem dX11_goStretch_26 : decode cX11_goStretch 26 = .ok (.isub, 1) := by decide +kernel
theorem dX11_goStretch_27 : decode cX11_goStretch 27 = .ok (.imul, 1) := by decide +kernel
theorem dX11_goStretch_28 : decode cX11_goStretch 28 = .ok (.istore 4, 2) := by decide +kernel
theorem dX11_goStretch_30 : decode cX11_goStretch 30 = .ok (.aload_n 0, 1) := by decide +kernel
theorem dX11_goStretch_31 : decode cX11_goStretch 31 = .ok (.getfield 125, 3) := by decide +kernel
theorem dX11_goStretch_34 : decode cX11_goStretch 34 = .ok (.istore 5, 2) := by decide +kernel
theorem dX11_goStretch_36 : decode cX11_goStretch 36 = .ok (.aload_n 0, 1) := by decide +kernel
theorem dX11_goStretch_37 : decode cX11_goStretch 37 = .ok (.getfield 125, 3) := by decide +kernel
theorem dX11_goStretch_40 : decode cX11_goStretch 40 = .ok (.aload_n 0, 1) := by decide +kernel
theorem dX11_goStretch_41 : decode cX11_goStretch 41 = .ok (.getfield 128, 3) := by decide +kernel
theorem dX11_goStretch_44 : decode cX11_goStretch 44 = .ok (.iload 4, 2) := by decide +kernel
theorem dX11_goStretch_46 : decode cX11_goStretch 46 = .ok (.imul, 1) := by decide +kernel
theorem dX11_goStretch_47 : decode cX11_goStretch 47 = .ok (.bipush 100, 2) := by decide +kernel
theorem dX11_goStretch_49 : decode cX11_goStretch 49 = .ok (.idiv, 1) := by decide +kernel
theorem dX11_goStretch_50 : decode cX11_goStretch 50 = .ok (.iadd, 1) := by decide +kernel
theorem dX11_goStretch_51 : decode cX11_goStretch 51 = .ok (.istore 6, 2) := by decide +kernel
theorem dX11_goStretch_53 : decode cX11_goStretch 53 = .ok (.aload_n 0, 1) := by decide +kernel
theorem dX11_goStretch_54 : decode cX11_goStretch 54 = .ok (.iload 6, 2) := by decide +kernel
theorem dX11_goStretch_56 : decode cX11_goStretch 56 = .ok (.bipush 40, 2) := by decide +kernel
theorem dX11_goStretch_58 : decode cX11_goStretch 58 = .ok (.if_icmp .le 8, 3) := by decide +kernel
theorem dX11_goStretch_61 : decode cX11_goStretch 61 = .ok (.bipush 40, 2) := by decide +kernel
theorem dX11_goStretch_63 : decode cX11_goStretch 63 = .ok (.goto 17, 3) := by decide +kernel
theorem dX11_goStretch_66 : decode cX11_goStretch 66 = .ok (.iload 6, 2) := by decide +kernel
theorem dX11_goStretch_68 : decode cX11_goStretch 68 = .ok (.bipush (-40), 2) := by decide +kernel
theorem dX11_goStretch_70 : decode cX11_goStretch 70 = .ok (.if_icmp .ge 8, 3) := by decide +kernel
theorem dX11_goStretch_73 : decode cX11_goStretch 73 = .ok (.bipush (-40), 2) := by decide +kernel
theorem dX11_goStretch_75 : decode cX11_goStretch 75 = .ok (.goto 5, 3) := by decide +kernel
theorem dX11_goStretch_78 : decode cX11_goStretch 78 = .ok (.iload 6, 2) := by decide +kernel
theorem dX11_goStretch_80 : decode cX11_goStretch 80 = .ok (.putfield 125, 3) := by decide +kernel
theorem dX11_goStretch_83 : decode cX11_goStretch 83 = .ok (.aload_n 0, 1) := by decide +kernel
theorem dX11_goStretch_84 : decode cX11_goStretch 84 = .ok (.dup, 1) := by decide +kernel
theorem dX11_goStretch_85 : decode cX11_goStretch 85 = .ok (.getfield 131, 3) := by decide +kernel
theorem dX11_goStretch_88 : decode cX11_goStretch 88 = .ok (.iload 4, 2) := by decide +kernel
theorem dX11_goStretch_90 : decode cX11_goStretch 90 = .ok (.ifCond .ne 7, 3) := by decide +kernel
theorem dX11_goStretch_93 : decode cX11_goStretch 93 = .ok (.iconst 1, 1) := by decide +kernel
theorem dX11_goStretch_94 : decode cX11_goStretch 94 = .ok (.goto 4, 3) := by decide +kernel
theorem dX11_goStretch_97 : decode cX11_goStretch 97 = .ok (.iconst 0, 1) := by decide +kernel
theorem dX11_goStretch_98 : decode cX11_goStretch 98 = .ok (.iadd, 1) := by decide +kernel
theorem dX11_goStretch_99 : decode cX11_goStretch 99 = .ok (.putfield 131, 3) := by decide +kernel
theorem dX11_goStretch_102 : decode cX11_goStretch 102 = .ok (.aload_n 0, 1) := by decide +kernel
theorem dX11_goStretch_103 : decode cX11_goStretch 103 = .ok (.dup, 1) := by decide +kernel
theorem dX11_goStretch_104 : decode cX11_goStretch 104 = .ok (.getfield 134, 3) := by decide +kernel
theorem dX11_goStretch_107 : decode cX11_goStretch 107 = .ok (.aload_n 0, 1) := by decide +kernel
theorem dX11_goStretch_108 : decode cX11_goStretch 108 = .ok (.getfield 125, 3) := by decide +kernel
theorem dX11_goStretch_111 : decode cX11_goStretch 111 = .ok (.iload 5, 2) := by decide +kernel
theorem dX11_goStretch_113 : decode cX11_goStretch 113 = .ok (.if_icmp .eq 7, 3) := by decide +kernel
theorem dX11_goStretch_116 : decode cX11_goStretch 116 = .ok (.iconst 1, 1) := by decide +kernel
theorem dX11_goStretch_117 : decode cX11_goStretch 117 = .ok (.goto 4, 3) := by decide +kernel
theorem dX11_goStretch_120 : decode cX11_goStretch 120 = .ok (.iconst 0, 1) := by decide +kernel
theorem dX11_goStretch_121 : decode cX11_goStretch 121 = .ok (.iadd, 1) := by decide +kernel
theorem dX11_goStretch_122 : decode cX11_goStretch 122 = .ok (.putfield 134, 3) := by decide +kernel
theorem dX11_goStretch_125 : decode cX11_goStretch 125 = .ok (.iload 4, 2) := by decide +kernel
theorem dX11_goStretch_127 : decode cX11_goStretch 127 = .ok (.bipush 60, 2) := by decide +kernel
theorem dX11_goStretch_129 : decode cX11_goStretch 129 = .ok (.if_icmp .lt 7, 3) := by decide +kernel
theorem dX11_goStretch_132 : decode cX11_goStretch 132 = .ok (.iconst 2, 1) := by decide +kernel
theorem dX11_goStretch_133 : decode cX11_goStretch 133 = .ok (.goto 15, 3) := by decide +kernel
theorem dX11_goStretch_136 : decode cX11_goStretch 136 = .ok (.iload 4, 2) := by decide +kernel
theorem dX11_goStretch_138 : decode cX11_goStretch 138 = .ok (.bipush 20, 2) := by decide +kernel
theorem dX11_goStretch_140 : decode cX11_goStretch 140 = .ok (.if_icmp .lt 7, 3) := by decide +kernel
theorem dX11_goStretch_143 : decode cX11_goStretch 143 = .ok (.iconst 1, 1) := by decide +kernel
theorem dX11_goStretch_144 : decode cX11_goStretch 144 = .ok (.goto 4, 3) := by decide +kernel
theorem dX11_goStretch_147 : decode cX11_goStretch 147 = .ok (.iconst 0, 1) := by decide +kernel
theorem dX11_goStretch_148 : decode cX11_goStretch 148 = .ok (.istore 7, 2) := by decide +kernel
theorem dX11_goStretch_150 : decode cX11_goStretch 150 = .ok (.aload_n 0, 1) := by decide +kernel
theorem dX11_goStretch_151 : decode cX11_goStretch 151 = .ok (.aload_n 0, 1) := by decide +kernel
theorem dX11_goStretch_152 : decode cX11_goStretch 152 = .ok (.getfield 128, 3) := by decide +kernel
theorem dX11_goStretch_155 : decode cX11_goStretch 155 = .ok (.iload 7, 2) := by decide +kernel
theorem dX11_goStretch_157 : decode cX11_goStretch 157 = .ok (.if_icmp .le 13, 3) := by decide +kernel
theorem dX11_goStretch_160 : decode cX11_goStretch 160 = .ok (.aload_n 0, 1) := by decide +kernel
theorem dX11_goStretch_161 : decode cX11_goStretch 161 = .ok (.getfield 128, 3) := by decide +kernel
theorem dX11_goStretch_164 : decode cX11_goStretch 164 = .ok (.iload 7, 2) := by decide +kernel
theorem dX11_goStretch_166 : decode cX11_goStretch 166 = .ok (.isub, 1) := by decide +kernel
theorem dX11_goStretch_167 : decode cX11_goStretch 167 = .ok (.goto 24, 3) := by decide +kernel
theorem dX11_goStretch_170 : decode cX11_goStretch 170 = .ok (.aload_n 0, 1) := by decide +kernel
theorem dX11_goStretch_171 : decode cX11_goStretch 171 = .ok (.getfield 128, 3) := by decide +kernel
theorem dX11_goStretch_174 : decode cX11_goStretch 174 = .ok (.iload 7, 2) := by decide +kernel
theorem dX11_goStretch_176 : decode cX11_goStretch 176 = .ok (.ineg, 1) := by decide +kernel
theorem dX11_goStretch_177 : decode cX11_goStretch 177 = .ok (.if_icmp .ge 13, 3) := by decide +kernel
theorem dX11_goStretch_180 : decode cX11_goStretch 180 = .ok (.aload_n 0, 1) := by decide +kernel
theorem dX11_goStretch_181 : decode cX11_goStretch 181 = .ok (.getfield 128, 3) := by decide +kernel
theorem dX11_goStretch_184 : decode cX11_goStretch 184 = .ok (.iload 7, 2) := by decide +kernel
theorem dX11_goStretch_186 : decode cX11_goStretch 186 = .ok (.iadd, 1) := by decide +kernel
theorem dX11_goStretch_187 : decode cX11_goStretch 187 = .ok (.goto 4, 3) := by decide +kernel
theorem dX11_goStretch_190 : decode cX11_goStretch 190 = .ok (.iconst 0, 1) := by decide +kernel
theorem dX11_goStretch_191 : decode cX11_goStretch 191 = .ok (.putfield 128, 3) := by decide +kernel
theorem dX11_goStretch_194 : decode cX11_goStretch 194 = .ok (.iload_n 3, 1) := by decide +kernel
theorem dX11_goStretch_195 : decode cX11_goStretch 195 = .ok (.ifCond .le 18, 3) := by decide +kernel
theorem dX11_goStretch_198 : decode cX11_goStretch 198 = .ok (.aload_n 0, 1) := by decide +kernel
theorem dX11_goStretch_199 : decode cX11_goStretch 199 = .ok (.getfield 137, 3) := by decide +kernel
theorem dX11_goStretch_202 : decode cX11_goStretch 202 = .ok (.bipush 9, 2) := by decide +kernel
theorem dX11_goStretch_204 : decode cX11_goStretch 204 = .ok (.if_icmp .ge 9, 3) := by decide +kernel
theorem dX11_goStretch_207 : decode cX11_goStretch 207 = .ok (.iload_n 3, 1) := by decide +kernel
theorem dX11_goStretch_208 : decode cX11_goStretch 208 = .ok (.iconst 1, 1) := by decide +kernel
theorem dX11_goStretch_209 : decode cX11_goStretch 209 = .ok (.isub, 1) := by decide +kernel
theorem dX11_goStretch_210 : decode cX11_goStretch 210 = .ok (.goto 19, 3) := by decide +kernel
theorem dX11_goStretch_213 : decode cX11_goStretch 213 = .ok (.iload_n 3, 1) := by decide +kernel
theorem dX11_goStretch_214 : decode cX11_goStretch 214 = .ok (.ifCond .ne 14, 3) := by decide +kernel
theorem dX11_goStretch_217 : decode cX11_goStretch 217 = .ok (.aload_n 0, 1) := by decide +kernel
theorem dX11_goStretch_218 : decode cX11_goStretch 218 = .ok (.getfield 137, 3) := by decide +kernel
theorem dX11_goStretch_221 : decode cX11_goStretch 221 = .ok (.ifCond .le 7, 3) := by decide +kernel
theorem dX11_goStretch_224 : decode cX11_goStretch 224 = .ok (.iconst 1, 1) := by decide +kernel
theorem dX11_goStretch_225 : decode cX11_goStretch 225 = .ok (.goto 4, 3) := by decide +kernel
theorem dX11_goStretch_228 : decode cX11_goStretch 228 = .ok (.iload_n 3, 1) := by decide +kernel
theorem dX11_goStretch_229 : decode cX11_goStretch 229 = .ok (.istore 8, 2) := by decide +kernel
theorem dX11_goStretch_231 : decode cX11_goStretch 231 = .ok (.aload_n 0, 1) := by decide +kernel
theorem dX11_goStretch_232 : decode cX11_goStretch 232 = .ok (.dup, 1) := by decide +kernel
theorem dX11_goStretch_233 : decode cX11_goStretch 233 = .ok (.getfield 137, 3) := by decide +kernel
theorem dX11_goStretch_236 : decode cX11_goStretch 236 = .ok (.iload_n 3, 1) := by decide +kernel
theorem dX11_goStretch_237 : decode cX11_goStretch 237 = .ok (.iload 8, 2) := by decide +kernel
theorem dX11_goStretch_239 : decode cX11_goStretch 239 = .ok (.isub, 1) := by decide +kernel
theorem dX11_goStretch_240 : decode cX11_goStretch 240 = .ok (.iadd, 1) := by decide +kernel
theorem dX11_goStretch_241 : decode cX11_goStretch 241 = .ok (.putfield 137, 3) := by decide +kernel
theorem dX11_goStretch_244 : decode cX11_goStretch 244 = .ok (.aload_n 0, 1) := by decide +kernel
theorem dX11_goStretch_245 : decode cX11_goStretch 245 = .ok (.getfield 13, 3) := by decide +kernel
theorem dX11_goStretch_248 : decode cX11_goStretch 248 = .ok (.iload_n 1, 1) := by decide +kernel
theorem dX11_goStretch_249 : decode cX11_goStretch 249 = .ok (.aload_n 0, 1) := by decide +kernel
theorem dX11_goStretch_250 : decode cX11_goStretch 250 = .ok (.getfield 140, 3) := by decide +kernel
theorem dX11_goStretch_253 : decode cX11_goStretch 253 = .ok (.ifCond .eq 7, 3) := by decide +kernel
theorem dX11_goStretch_256 : decode cX11_goStretch 256 = .ok (.iload_n 3, 1) := by decide +kernel
theorem dX11_goStretch_257 : decode cX11_goStretch 257 = .ok (.goto 5, 3) := by decide +kernel
theorem dX11_goStretch_260 : decode cX11_goStretch 260 = .ok (.iload 8, 2) := by decide +kernel
theorem dX11_goStretch_262 : decode cX11_goStretch 262 = .ok (.iastore, 1) := by decide +kernel
theorem dX11_goStretch_263 : decode cX11_goStretch 263 = .ok (.aload_n 0, 1) := by decide +kernel
theorem dX11_goStretch_264 : decode cX11_goStretch 264 = .ok (.dup, 1) := by decide +kernel
theorem dX11_goStretch_265 : decode cX11_goStretch 265 = .ok (.getfield 144, 3) := by decide +kernel
theorem dX11_goStretch_268 : decode cX11_goStretch 268 = .ok (.aload_n 0, 1) := by decide +kernel
theorem dX11_goStretch_269 : decode cX11_goStretch 269 = .ok (.getfield 125, 3) := by decide +kernel
theorem dX11_goStretch_272 : decode cX11_goStretch 272 = .ok (.iadd, 1) := by decide +kernel
theorem dX11_goStretch_273 : decode cX11_goStretch 273 = .ok (.putfield 144, 3) := by decide +kernel
theorem dX11_goStretch_276 : decode cX11_goStretch 276 = .ok (.aload_n 0, 1) := by decide +kernel
theorem dX11_goStretch_277 : decode cX11_goStretch 277 = .ok (.aload_n 0, 1) := by decide +kernel
theorem dX11_goStretch_278 : decode cX11_goStretch 278 = .ok (.getfield 144, 3) := by decide +kernel
theorem dX11_goStretch_281 : decode cX11_goStretch 281 = .ok (.iconst 0, 1) := by decide +kernel
theorem dX11_goStretch_282 : decode cX11_goStretch 282 = .ok (.sipush 389, 3) := by decide +kernel
theorem dX11_goStretch_285 : decode cX11_goStretch 285 = .ok (.invokestatic 63, 3) := by decide +kernel
theorem dX11_goStretch_288 : decode cX11_goStretch 288 = .ok (.ifCond .ne 7, 3) := by decide +kernel
theorem dX11_goStretch_291 : decode cX11_goStretch 291 = .ok (.iconst 1, 1) := by decide +kernel
theorem dX11_goStretch_292 : decode cX11_goStretch 292 = .ok (.goto 4, 3) := by decide +kernel
theorem dX11_goStretch_295 : decode cX11_goStretch 295 = .ok (.iconst 0, 1) := by decide +kernel
theorem dX11_goStretch_296 : decode cX11_goStretch 296 = .ok (.putfield 147, 3) := by decide +kernel
theorem dX11_goStretch_299 : decode cX11_goStretch 299 = .ok (.return_, 1) := by decide +kernel
def bX11_goStretch : ol_SE := es_seq (es_set 3 (ei_a 100 (er_f 11 3 (er_v 0)) (ei_v 1))) (es_seq (es_set 4 (ei_if (ec_2 ol_ge (ei_v 3) (ei_c 10)) (ei_c 0) (ei_2 ol_mul (ei_a 100 (er_f 11 10 (er_v 0)) (ei_v 2)) (ei_2 ol_sub (ei_c 10) (ei_v 3))))) (es_seq (es_set 5 (ei_f 11 13 (er_v 0))) (es_seq (es_set 6 (ei_2 ol_add (ei_f 11 13 (er_v 0)) (ei_2 ol_div (ei_2 ol_mul (ei_f 11 14 (er_v 0)) (ei_v 4)) (ei_c 100)))) (es_seq (es_pf 11 13 (er_v 0) (ei_if (ec_2 ol_gt (ei_v 6) (ei_c 40)) (ei_c 40) (ei_if (ec_2 ol_lt (ei_v 6) (ei_c (-40))) (ei_c (-40)) (ei_v 6)))) (es_seq (es_uf 11 16 (er_v 0) ol_add (ei_if (ec_z ol_eq (ei_v 4)) (ei_c 1) (ei_c 0))) (es_seq (es_uf 11 17 (er_v 0) ol_add (ei_if (ec_2 ol_ne (ei_f 11 13 (er_v 0)) (ei_v 5)) (ei_c 1) (ei_c 0))) (es_seq (es_set 7 (ei_if (ec_2 ol_ge (ei_v 4) (ei_c 60)) (ei_c 2) (ei_if (ec_2 ol_ge (ei_v 4) (ei_c 20)) (ei_c 1) (ei_c 0)))) (es_seq (es_pf 11 14 (er_v 0) (ei_if (ec_2 ol_gt (ei_f 11 14 (er_v 0)) (ei_v 7)) (ei_2 ol_sub (ei_f 11 14 (er_v 0)) (ei_v 7)) (ei_if (ec_2 ol_lt (ei_f 11 14 (er_v 0)) (ei_neg (ei_v 7))) (ei_2 ol_add (ei_f 11 14 (er_v 0)) (ei_v 7)) (ei_c 0)))) (es_seq (es_set 8 (ei_if (ec_and (ec_z ol_gt (ei_v 3)) (ec_2 ol_lt (ei_f 11 15 (er_v 0)) (ei_c 9))) (ei_2 ol_sub (ei_v 3) (ei_c 1)) (ei_if (ec_and (ec_z ol_eq (ei_v 3)) (ec_z ol_gt (ei_f 11 15 (er_v 0)))) (ei_c 1) (ei_v 3)))) (es_seq (es_uf 11 15 (er_v 0) ol_add (ei_2 ol_sub (ei_v 3) (ei_v 8))) (es_seq (es_as 100 (er_f 11 3 (er_v 0)) (ei_v 1) (ei_if (ec_z ol_ne (ei_f 11 19 (er_v 0))) (ei_v 3) (ei_v 8))) (es_seq (es_uf 11 12 (er_v 0) ol_add (ei_f 11 13 (er_v 0))) (es_seq (es_pz 11 18 (er_v 0) (ei_if (ec_not (ec_z ol_ne (ei_of (ea_cs fX11_in (ea_i (ei_f 11 12 (er_v 0)) (ea_i (ei_c 0) (ea_i (ei_c 389) (ea_0)))))))) (ei_c 1) (ei_c 0))) (es_retv))))))))))))))
def fX11_goStretch : ol_FE := ol_fe 9 bX11_goStretch
set_option maxRecDepth 20000 in
theorem imX11_goStretch (x : ol_X) (K : ol_K) : IM_S x K mX11_goStretch 0 0 bX11_goStretch := rs_seq (p2 := 7) (rs_setn (ri_a (rr_f (rr_vn dX11_goStretch_0 rfl) gfX11_13 dX11_goStretch_1) (ri_vn dX11_goStretch_4 rfl) rfl dX11_goStretch_5) dX11_goStretch_6 rfl (ol_ltn rfl)) (rs_seq (p2 := 30) (rs_set (ri_if (pT := 13) (pF := 17) (p3 := 28) (rc_2F (pF := 17) ol_j2_lt_F (ri_vn dX11_goStretch_7 rfl) (ri_bi dX11_goStretch_8 (by unfold ol_inR; omega) (by decide)) dX11_goStretch_10 (by decide)) (ri_ic dX11_goStretch_13 (by unfold ol_inR; omega)) dX11_goStretch_14 (by decide) (ri_2 ol_op_mul (ri_a (rr_f (rr_vn dX11_goStretch_17 rfl) gfX11_17 dX11_goStretch_18) (ri_vn dX11_goStretch_21 rfl) rfl dX11_goStretch_22) (ri_2 ol_op_sub (ri_bi dX11_goStretch_23 (by unfold ol_inR; omega) (by decide)) (ri_vn dX11_goStretch_25 rfl) dX11_goStretch_26) dX11_goStretch_27)) dX11_goStretch_28 (ol_ltn rfl)) (rs_seq (p2 := 36) (rs_set (ri_f (rr_vn dX11_goStretch_30 rfl) gfX11_125 dX11_goStretch_31) dX11_goStretch_34 (ol_ltn rfl)) (rs_seq (p2 := 53) (rs_set (ri_2 ol_op_add (ri_f (rr_vn dX11_goStretch_36 rfl) gfX11_125 dX11_goStretch_37) (ri_2 ol_op_div (ri_2 ol_op_mul (ri_f (rr_vn dX11_goStretch_40 rfl) gfX11_128 dX11_goStretch_41) (ri_vi dX11_goStretch_44) dX11_goStretch_46) (ri_bi dX11_goStretch_47 (by unfold ol_inR; omega) (by decide)) dX11_goStretch_49) dX11_goStretch_50) dX11_goStretch_51 (ol_ltn rfl)) (rs_seq (p2 := 83) (rs_pf (rr_vn dX11_goStretch_53 rfl) (ri_if (pT := 61) (pF := 66) (p3 := 80) (rc_2F (pF := 66) ol_j2_le_F (ri_vi dX11_goStretch_54) (ri_bi dX11_goStretch_56 (by unfold ol_inR; omega) (by decide)) dX11_goStretch_58 (by decide)) (ri_bi dX11_goStretch_61 (by unfold ol_inR; omega) (by decide)) dX11_goStretch_63 (by decide) (ri_if (pT := 73) (pF := 78) (p3 := 80) (rc_2F (pF := 78) ol_j2_ge_F (ri_vi dX11_goStretch_66) (ri_bi dX11_goStretch_68 (by unfold ol_inR; omega) (by decide)) dX11_goStretch_70 (by decide)) (ri_bi dX11_goStretch_73 (by unfold ol_inR; omega) (by decide)) dX11_goStretch_75 (by decide) (ri_vi dX11_goStretch_78))) pfX11_125 rfl dX11_goStretch_80) (rs_seq (p2 := 102) (rs_uf ol_op_add (rr_vn dX11_goStretch_83 rfl) dX11_goStretch_84 dX11_goStretch_85 (ri_if (pT := 93) (pF := 97) (p3 := 98) (rc_zF (pF := 97) ol_j1_ne_F (ri_vi dX11_goStretch_88) dX11_goStretch_90 (by decide)) (ri_ic dX11_goStretch_93 (by unfold ol_inR; omega)) dX11_goStretch_94 (by decide) (ri_ic dX11_goStretch_97 (by unfold ol_inR; omega))) dX11_goStretch_98 gfX11_131 pfX11_131 rfl dX11_goStretch_99) (rs_seq (p2 := 125) (rs_uf ol_op_add (rr_vn dX11_goStretch_102 rfl) dX11_goStretch_103 dX11_goStretch_104 (ri_if (pT := 116) (pF := 120) (p3 := 121) (rc_2F (pF := 120) ol_j2_eq_F (ri_f (rr_vn dX11_goStretch_107 rfl) gfX11_125 dX11_goStretch_108) (ri_vi dX11_goStretch_111) dX11_goStretch_113 (by decide)) (ri_ic dX11_goStretch_116 (by unfold ol_inR; omega)) dX11_goStretch_117 (by decide) (ri_ic dX11_goStretch_120 (by unfold ol_inR; omega))) dX11_goStretch_121 gfX11_134 pfX11_134 rfl dX11_goStretch_122) (rs_seq (p2 := 150) (rs_set (ri_if (pT := 132) (pF := 136) (p3 := 148) (rc_2F (pF := 136) ol_j2_lt_F (ri_vi dX11_goStretch_125) (ri_bi dX11_goStretch_127 (by unfold ol_inR; omega) (by decide)) dX11_goStretch_129 (by decide)) (ri_ic dX11_goStretch_132 (by unfold ol_inR; omega)) dX11_goStretch_133 (by decide) (ri_if (pT := 143) (pF := 147) (p3 := 148) (rc_2F (pF := 147) ol_j2_lt_F (ri_vi dX11_goStretch_136) (ri_bi dX11_goStretch_138 (by unfold ol_inR; omega) (by decide)) dX11_goStretch_140 (by decide)) (ri_ic dX11_goStretch_143 (by unfold ol_inR; omega)) dX11_goStretch_144 (by decide) (ri_ic dX11_goStretch_147 (by unfold ol_inR; omega)))) dX11_goStretch_148 (ol_ltn rfl)) (rs_seq (p2 := 194) (rs_pf (rr_vn dX11_goStretch_150 rfl) (ri_if (pT := 160) (pF := 170) (p3 := 191) (rc_2F (pF := 170) ol_j2_le_F (ri_f (rr_vn dX11_goStretch_151 rfl) gfX11_128 dX11_goStretch_152) (ri_vi dX11_goStretch_155) dX11_goStretch_157 (by decide)) (ri_2 ol_op_sub (ri_f (rr_vn dX11_goStretch_160 rfl) gfX11_128 dX11_goStretch_161) (ri_vi dX11_goStretch_164) dX11_goStretch_166) dX11_goStretch_167 (by decide) (ri_if (pT := 180) (pF := 190) (p3 := 191) (rc_2F (pF := 190) ol_j2_ge_F (ri_f (rr_vn dX11_goStretch_170 rfl) gfX11_128 dX11_goStretch_171) (ri_neg (ri_vi dX11_goStretch_174) dX11_goStretch_176) dX11_goStretch_177 (by decide)) (ri_2 ol_op_add (ri_f (rr_vn dX11_goStretch_180 rfl) gfX11_128 dX11_goStretch_181) (ri_vi dX11_goStretch_184) dX11_goStretch_186) dX11_goStretch_187 (by decide) (ri_ic dX11_goStretch_190 (by unfold ol_inR; omega)))) pfX11_128 rfl dX11_goStretch_191) (rs_seq (p2 := 231) (rs_set (ri_if (pT := 207) (pF := 213) (p3 := 229) (rc_and (p2 := 198) (pT := 207) (pF := 213) (rc_zF (pF := 213) ol_j1_le_F (ri_vn dX11_goStretch_194 rfl) dX11_goStretch_195 (by decide)) (rc_2F (pF := 213) ol_j2_ge_F (ri_f (rr_vn dX11_goStretch_198 rfl) gfX11_137 dX11_goStretch_199) (ri_bi dX11_goStretch_202 (by unfold ol_inR; omega) (by decide)) dX11_goStretch_204 (by decide))) (ri_2 ol_op_sub (ri_vn dX11_goStretch_207 rfl) (ri_ic dX11_goStretch_208 (by unfold ol_inR; omega)) dX11_goStretch_209) dX11_goStretch_210 (by decide) (ri_if (pT := 224) (pF := 228) (p3 := 229) (rc_and (p2 := 217) (pT := 224) (pF := 228) (rc_zF (pF := 228) ol_j1_ne_F (ri_vn dX11_goStretch_213 rfl) dX11_goStretch_214 (by decide)) (rc_zF (pF := 228) ol_j1_le_F (ri_f (rr_vn dX11_goStretch_217 rfl) gfX11_137 dX11_goStretch_218) dX11_goStretch_221 (by decide))) (ri_ic dX11_goStretch_224 (by unfold ol_inR; omega)) dX11_goStretch_225 (by decide) (ri_vn dX11_goStretch_228 rfl))) dX11_goStretch_229 (ol_ltn rfl)) (rs_seq (p2 := 244) (rs_uf ol_op_add (rr_vn dX11_goStretch_231 rfl) dX11_goStretch_232 dX11_goStretch_233 (ri_2 ol_op_sub (ri_vn dX11_goStretch_236 rfl) (ri_vi dX11_goStretch_237) dX11_goStretch_239) dX11_goStretch_240 gfX11_137 pfX11_137 rfl dX11_goStretch_241) (rs_seq (p2 := 263) (rs_as (rr_f (rr_vn dX11_goStretch_244 rfl) gfX11_13 dX11_goStretch_245) (ri_vn dX11_goStretch_248 rfl) (ri_if (pT := 256) (pF := 260) (p3 := 262) (rc_zF (pF := 260) ol_j1_eq_F (ri_f (rr_vn dX11_goStretch_249 rfl) gfX11_140 dX11_goStretch_250) dX11_goStretch_253 (by decide)) (ri_vn dX11_goStretch_256 rfl) dX11_goStretch_257 (by decide) (ri_vi dX11_goStretch_260)) dX11_goStretch_262) (rs_seq (p2 := 276) (rs_uf ol_op_add (rr_vn dX11_goStretch_263 rfl) dX11_goStretch_264 dX11_goStretch_265 (ri_f (rr_vn dX11_goStretch_268 rfl) gfX11_125 dX11_goStretch_269) dX11_goStretch_272 gfX11_144 pfX11_144 rfl dX11_goStretch_273) (rs_seq (p2 := 299) (rs_pz (rr_vn dX11_goStretch_276 rfl) (ri_if (pT := 291) (pF := 295) (p3 := 296) (rc_not (rc_zT (pT := 295) ol_j1_ne_T (ri_k (rk_s (Mc := mX11_in) (conX11_in _ K) (ra_i (ri_f (rr_vn dX11_goStretch_277 rfl) gfX11_144 dX11_goStretch_278) (ra_i (ri_ic dX11_goStretch_281 (by unfold ol_inR; omega)) (ra_i (ri_si dX11_goStretch_282 (by unfold ol_inR; omega) (by decide)) (ra_0)))) dX11_goStretch_285 cwX11_63 tw_981 ⟨rfl, rfl, Nat.le_of_ble_eq_true rfl⟩ (by decide) (by decide) (al_i (al_i (al_i al_0)))) (Or.inr (Or.inl rfl))) dX11_goStretch_288 (by decide))) (ri_ic dX11_goStretch_291 (by unfold ol_inR; omega)) dX11_goStretch_292 (by decide) (ri_ic dX11_goStretch_295 (by unfold ol_inR; omega))) pfX11_147 rfl dX11_goStretch_296) (rs_retv rfl dX11_goStretch_299))))))))))))))
theorem conX11_goStretch (l : Launch) (K : ol_K) : ol_Con l K yX11_goStretch mX11_goStretch fX11_goStretch := ol_con (M := mX11_goStretch) (by decide) rfl rfl (imX11_goStretch · K)
