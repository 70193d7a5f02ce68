/-! by program: what each method does, and that its code does it -/
theorem dX11_evening_0 : decode cX11_evening 0 = .ok (.iload_n 1, 1) := by decide +kernel
theorem dX11_evening_1 : decode cX11_evening 1 = .ok (.iconst 1, 1) := by decide +kernel
theorem dX11_evening_2 : decode cX11_evening 2 = .ok (.bipush 20, 2) := by decide +kernel
theorem dX11_evening_4 : decode cX11_evening 4 = .ok (.invokestatic 63, 3) := by decide +kernel
theorem dX11_evening_7 : decode cX11_evening 7 = .ok (.ifCond .ne 5, 3) := by decide +kernel
theorem dX11_evening_10 : decode cX11_evening 10 = .ok (.iconst (-1), 1) := by decide +kernel
theorem dX11_evening_11 : decode cX11_evening 11 = .ok (.ireturn, 1) := by decide +kernel
theorem dX11_evening_12 : decode cX11_evening 12 = .ok (.iconst 0, 1) := by decide +kernel
theorem dX11_evening_13 : decode cX11_evening 13 = .ok (.istore_n 2, 1) := by decide +kernel
theorem dX11_evening_14 : decode cX11_evening 14 = .ok (.iconst 0, 1) := by decide +kernel
theorem dX11_evening_15 : decode cX11_evening 15 = .ok (.istore_n 3, 1) := by decide +kernel
theorem dX11_evening_16 : decode cX11_evening 16 = .ok (.iload_n 3, 1) := by decide +kernel
theorem dX11_evening_17 : decode cX11_evening 17 = .ok (.iload_n 1, 1) := by decide +kernel
theorem dX11_evening_18 : decode cX11_evening 18 = .ok (.if_icmp .ge 88, 3) := by decide +kernel
theorem dX11_evening_21 : decode cX11_evening 21 = .ok (.iconst 0, 1) := by decide +kernel
theorem dX11_evening_22 : decode cX11_evening 22 = .ok (.istore 4, 2) := by decide +kernel
theorem dX11_evening_24 : decode cX11_evening 24 = .ok (.iload 4, 2) := by decide +kernel
theorem dX11_evening_26 : decode cX11_evening 26 = .ok (.aload_n 0, 1) := by decide +kernel
theorem dX11_evening_27 : decode cX11_evening 27 = .ok (.getfield 219, 3) := by decide +kernel
theorem dX11_evening_30 : decode cX11_evening 30 = .ok (.if_icmp .ge 70, 3) := by decide +kernel
theorem dX11_evening_33 : decode cX11_evening 33 = .ok (.bipush 6, 2) := by decide +kernel
theorem dX11_evening_35 : decode cX11_evening 35 = .ok (.iload 4, 2) := by decide +kernel
theorem dX11_evening_37 : decode cX11_evening 37 = .ok (.imul, 1) := by decide +kernel
theorem dX11_evening_38 : decode cX11_evening 38 = .ok (.istore 5, 2) := by decide +kernel
theorem dX11_evening_40 : decode cX11_evening 40 = .ok (.iload_n 2, 1) := by decide +kernel
theorem dX11_evening_41 : decode cX11_evening 41 = .ok (.aload_n 0, 1) := by decide +kernel
theorem dX11_evening_42 : decode cX11_evening 42 = .ok (.aload_n 0, 1) := by decide +kernel
theorem dX11_evening_43 : decode cX11_evening 43 = .ok (.getfield 44, 3) := by decide +kernel
theorem dX11_evening_46 : decode cX11_evening 46 = .ok (.iload 5, 2) := by decide +kernel
theorem dX11_evening_48 : decode cX11_evening 48 = .ok (.iaload, 1) := by decide +kernel
theorem dX11_evening_49 : decode cX11_evening 49 = .ok (.aload_n 0, 1) := by decide +kernel
theorem dX11_evening_50 : decode cX11_evening 50 = .ok (.getfield 44, 3) := by decide +kernel
theorem dX11_evening_53 : decode cX11_evening 53 = .ok (.iload 5, 2) := by decide +kernel
theorem dX11_evening_55 : decode cX11_evening 55 = .ok (.iconst 1, 1) := by decide +kernel
theorem dX11_evening_56 : decode cX11_evening 56 = .ok (.iadd, 1) := by decide +kernel
theorem dX11_evening_57 : decode cX11_evening 57 = .ok (.iaload, 1) := by decide +kernel
theorem dX11_evening_58 : decode cX11_evening 58 = .ok (.aload_n 0, 1) := by decide +kernel
theorem dX11_evening_59 : decode cX11_evening 59 = .ok (.getfield 44, 3) := by decide +kernel
theorem dX11_evening_62 : decode cX11_evening 62 = .ok (.iload 5, 2) := by decide +kernel
theorem dX11_evening_64 : decode cX11_evening 64 = .ok (.iconst 2, 1) := by decide +kernel
theorem dX11_evening_65 : decode cX11_evening 65 = .ok (.iadd, 1) := by decide +kernel
theorem dX11_evening_66 : decode cX11_evening 66 = .ok (.iaload, 1) := by decide +kernel
theorem dX11_evening_67 : decode cX11_evening 67 = .ok (.aload_n 0, 1) := by decide +kernel
theorem dX11_evening_68 : decode cX11_evening 68 = .ok (.getfield 44, 3) := by decide +kernel
theorem dX11_evening_71 : decode cX11_evening 71 = .ok (.iload 5, 2) := by decide +kernel
theorem dX11_evening_73 : decode cX11_evening 73 = .ok (.iconst 3, 1) := by decide +kernel
theorem dX11_evening_74 : decode cX11_evening 74 = .ok (.iadd, 1) := by decide +kernel
theorem dX11_evening_75 : decode cX11_evening 75 = .ok (.iaload, 1) := by decide +kernel
theorem dX11_evening_76 : decode cX11_evening 76 = .ok (.invokevirtual 180, 3) := by decide +kernel
theorem dX11_evening_79 : decode cX11_evening 79 = .ok (.invokestatic 183, 3) := by decide +kernel
theorem dX11_evening_82 : decode cX11_evening 82 = .ok (.iadd, 1) := by decide +kernel
theorem dX11_evening_83 : decode cX11_evening 83 = .ok (.istore_n 2, 1) := by decide +kernel
theorem dX11_evening_84 : decode cX11_evening 84 = .ok (.aload_n 0, 1) := by decide +kernel
theorem dX11_evening_85 : decode cX11_evening 85 = .ok (.iload 5, 2) := by decide +kernel
theorem dX11_evening_87 : decode cX11_evening 87 = .ok (.aload_n 0, 1) := by decide +kernel
theorem dX11_evening_88 : decode cX11_evening 88 = .ok (.invokevirtual 225, 3) := by decide +kernel
theorem dX11_evening_91 : decode cX11_evening 91 = .ok (.invokevirtual 228, 3) := by decide +kernel
theorem dX11_evening_94 : decode cX11_evening 94 = .ok (.iinc 4 1, 3) := by decide +kernel
theorem dX11_evening_97 : decode cX11_evening 97 = .ok (.goto (-73), 3) := by decide +kernel
theorem dX11_evening_100 : decode cX11_evening 100 = .ok (.iinc 3 1, 3) := by decide +kernel
theorem dX11_evening_103 : decode cX11_evening 103 = .ok (.goto (-87), 3) := by decide +kernel
theorem dX11_evening_106 : decode cX11_evening 106 = .ok (.iload_n 2, 1) := by decide +kernel
theorem dX11_evening_107 : decode cX11_evening 107 = .ok (.ireturn, 1) := by decide +kernel
def bX11_evening : ol_SE := es_seq (es_if (ec_not (ec_z ol_ne (ei_of (ea_cs fX11_in (ea_i (ei_v 1) (ea_i (ei_c 1) (ea_i (ei_c 20) (ea_0)))))))) (es_ret (ei_c (-1))) es_skip) (es_seq (es_set 2 (ei_c 0)) (es_seq (es_seq (es_set 3 (ei_c 0)) (es_wh (ec_2 ol_lt (ei_v 3) (ei_v 1)) (es_seq (es_seq (es_set 4 (ei_c 0)) (es_wh (ec_2 ol_lt (ei_v 4) (ei_f 11 34 (er_v 0))) (es_seq (es_seq (es_set 5 (ei_2 ol_mul (ei_c 6) (ei_v 4))) (es_seq (es_set 2 (ei_2 ol_add (ei_v 2) (ei_of (ea_cs fX11_bitsIn (ea_i (ei_of (ea_cv 11 fX11_throwOne (ea_r (er_v 0) (ea_i (ei_a 100 (er_f 11 35 (er_v 0)) (ei_v 5)) (ea_i (ei_a 100 (er_f 11 35 (er_v 0)) (ei_2 ol_add (ei_v 5) (ei_c 1))) (ea_i (ei_a 100 (er_f 11 35 (er_v 0)) (ei_2 ol_add (ei_v 5) (ei_c 2))) (ea_i (ei_a 100 (er_f 11 35 (er_v 0)) (ei_2 ol_add (ei_v 5) (ei_c 3))) (ea_0)))))))) (ea_0)))))) (es_of (ea_cv 11 fX11_move (ea_r (er_v 0) (ea_i (ei_v 5) (ea_i (ei_of (ea_cv 11 fX11_cameHow (ea_r (er_v 0) (ea_0)))) (ea_0)))))))) (es_inc 4 1)))) (es_inc 3 1)))) (es_ret (ei_v 2))))
def fX11_evening : ol_FE := ol_fe 6 bX11_evening
set_option maxRecDepth 20000 in
theorem imX11_evening (x : ol_X) (K : ol_K) : IM_S x K mX11_evening 0 0 bX11_evening := rs_seq (p2 := 12) (rs_if (pT := 10) (pF := 12) (pE := 12) (rc_not (rc_zT (pT := 12) ol_j1_ne_T (ri_k (rk_s (Mc := mX11_in) (conX11_in _ K) (ra_i (ri_vn dX11_evening_0 rfl) (ra_i (ri_ic dX11_evening_1 (by unfold ol_inR; omega)) (ra_i (ri_bi dX11_evening_2 (by unfold ol_inR; omega) (by decide)) (ra_0)))) dX11_evening_4 cwX11_63 tw_981 ⟨rfl, rfl, Nat.le_of_ble_eq_true rfl⟩ (by decide) (by decide) (al_i (al_i (al_i al_0)))) (Or.inr (Or.inl rfl))) dX11_evening_7 (by decide))) (rs_ret (ri_ic dX11_evening_10 (by unfold ol_inR; omega)) rfl dX11_evening_11) rs_skip) (rs_seq (p2 := 14) (rs_setn (ri_ic dX11_evening_12 (by unfold ol_inR; omega)) dX11_evening_13 rfl (ol_ltn rfl)) (rs_seq (p2 := 106) (rs_seq (p2 := 16) (rs_setn (ri_ic dX11_evening_14 (by unfold ol_inR; omega)) dX11_evening_15 rfl (ol_ltn rfl)) (rs_wh (pH := 16) (pB := 21) (pE := 106) (pG := 103) (rc_2F (pF := 106) ol_j2_ge_F (ri_vn dX11_evening_16 rfl) (ri_vn dX11_evening_17 rfl) dX11_evening_18 (by decide)) (rs_seq (p2 := 100) (rs_seq (p2 := 24) (rs_set (ri_ic dX11_evening_21 (by unfold ol_inR; omega)) dX11_evening_22 (ol_ltn rfl)) (rs_wh (pH := 24) (pB := 33) (pE := 100) (pG := 97) (rc_2F (pF := 100) ol_j2_ge_F (ri_vi dX11_evening_24) (ri_f (rr_vn dX11_evening_26 rfl) gfX11_219 dX11_evening_27) dX11_evening_30 (by decide)) (rs_seq (p2 := 94) (rs_seq (p2 := 40) (rs_set (ri_2 ol_op_mul (ri_bi dX11_evening_33 (by unfold ol_inR; omega) (by decide)) (ri_vi dX11_evening_35) dX11_evening_37) dX11_evening_38 (ol_ltn rfl)) (rs_seq (p2 := 84) (rs_setn (ri_2 ol_op_add (ri_vn dX11_evening_40 rfl) (ri_k (rk_s (Mc := mX11_bitsIn) (conX11_bitsIn _ K) (ra_i (ri_k (rk_v (Mc := mX11_throwOne) (conX11_throwOne _ K) (ra_r (rr_vn dX11_evening_41 rfl) (ra_i (ri_a (rr_f (rr_vn dX11_evening_42 rfl) gfX11_44 dX11_evening_43) (ri_vi dX11_evening_46) rfl dX11_evening_48) (ra_i (ri_a (rr_f (rr_vn dX11_evening_49 rfl) gfX11_44 dX11_evening_50) (ri_2 ol_op_add (ri_vi dX11_evening_53) (ri_ic dX11_evening_55 (by unfold ol_inR; omega)) dX11_evening_56) rfl dX11_evening_57) (ra_i (ri_a (rr_f (rr_vn dX11_evening_58 rfl) gfX11_44 dX11_evening_59) (ri_2 ol_op_add (ri_vi dX11_evening_62) (ri_ic dX11_evening_64 (by unfold ol_inR; omega)) dX11_evening_65) rfl dX11_evening_66) (ra_i (ri_a (rr_f (rr_vn dX11_evening_67 rfl) gfX11_44 dX11_evening_68) (ri_2 ol_op_add (ri_vi dX11_evening_71) (ri_ic dX11_evening_73 (by unfold ol_inR; omega)) dX11_evening_74) rfl dX11_evening_75) (ra_0)))))) dX11_evening_76 cwX11_180 tw_1065 tw_35 (by decide) rfl rfl ⟨rfl, rfl, Nat.le_of_ble_eq_true rfl⟩ (by decide) (by decide) (al_r (al_i (al_i (al_i (al_i al_0)))))) (Or.inl rfl)) (ra_0)) dX11_evening_79 cwX11_183 tw_1080 ⟨rfl, rfl, Nat.le_of_ble_eq_true rfl⟩ (by decide) (by decide) (al_i al_0)) (Or.inl rfl)) dX11_evening_82) dX11_evening_83 rfl (ol_ltn rfl)) (rs_k (rk_v (Mc := mX11_move) (conX11_move _ K) (ra_r (rr_vn dX11_evening_84 rfl) (ra_i (ri_vi dX11_evening_85) (ra_i (ri_k (rk_v (Mc := mX11_cameHow) (conX11_cameHow _ K) (ra_r (rr_vn dX11_evening_87 rfl) (ra_0)) dX11_evening_88 cwX11_225 tw_1152 tw_44 (by decide) rfl rfl ⟨rfl, rfl, Nat.le_of_ble_eq_true rfl⟩ (by decide) (by decide) (al_r al_0)) (Or.inl rfl)) (ra_0)))) dX11_evening_91 cwX11_228 tw_1156 tw_45 (by decide) rfl rfl ⟨rfl, rfl, Nat.le_of_ble_eq_true rfl⟩ (by decide) (by decide) (al_r (al_i (al_i al_0))))))) (rs_inc dX11_evening_94 (ol_ltn rfl))) dX11_evening_97 (by decide))) (rs_inc dX11_evening_100 (ol_ltn rfl))) dX11_evening_103 (by decide))) (rs_ret (ri_vn dX11_evening_106 rfl) rfl dX11_evening_107)))
theorem conX11_evening (l : Launch) (K : ol_K) : ol_Con l K yX11_evening mX11_evening fX11_evening := ol_con (M := mX11_evening) (by decide) rfl rfl (imX11_evening · K)
theorem dX11_would_0 : decode cX11_would 0 = .ok (.iload_n 1, 1) := by decide +kernel
theorem dX11_would_1 : decode cX11_would 1 = .ok (.iconst 1, 1) := by decide +kernel
theorem dX11_would_2 : decode cX11_would 2 = .ok (.bipush 20, 2) := by decide +kernel
theorem dX11_would_4 : decode cX11_would 4 = .ok (.invokestatic 63, 3) := by decide +kernel
theorem dX11_would_7 : decode cX11_would 7 = .ok (.ifCond .eq 17, 3) := by decide +kernel
theorem dX11_would_10 : decode cX11_would 10 = .ok (.iload_n 2, 1) := by decide +kernel
theorem dX11_would_11 : decode cX11_would 11 = .ok (.iconst (-1), 1) := by decide +kernel
theorem dX11_would_12 : decode cX11_would 12 = .ok (.aload_n 0, 1) := by decide +kernel
theorem dX11_would_13 : decode cX11_would 13 = .ok (.getfield 219, 3) := by decide +kernel
theorem dX11_would_16 : decode cX11_would 16 = .ok (.iconst 1, 1) := by decide +kernel
theorem dX11_would_17 : decode cX11_would 17 = .ok (.isub, 1) := by decide +kernel
theorem dX11_would_18 : decode cX11_would 18 = .ok (.invokestatic 63, 3) := by decide +kernel
theorem dX11_would_21 : decode cX11_would 21 = .ok (.ifCond .ne 5, 3) := by decide +kernel
theorem dX11_would_24 : decode cX11_would 24 = .ok (.iconst (-1), 1) := by decide +kernel
theorem dX11_would_25 : decode cX11_would 25 = .ok (.ireturn, 1) := by decide +kernel
theorem dX11_would_26 : decode cX11_would 26 = .ok (.aload_n 0, 1) := by decide +kernel
theorem dX11_would_27 : decode cX11_would 27 = .ok (.iload_n 1, 1) := by decide +kernel
theorem dX11_would_28 : decode cX11_would 28 = .ok (.aload_n 0, 1) := by decide +kernel
theorem dX11_would_29 : decode cX11_would 29 = .ok (.invokevirtual 231, 3) := by decide +kernel
theorem dX11_would_32 : decode cX11_would 32 = .ok (.invokevirtual 234, 3) := by decide +kernel
theorem dX11_would_35 : decode cX11_would 35 = .ok (.istore_n 3, 1) := by decide +kernel
theorem dX11_would_36 : decode cX11_would 36 = .ok (.iload_n 2, 1) := by decide +kernel
theorem dX11_would_37 : decode cX11_would 37 = .ok (.ifCond .ge 7, 3) := by decide +kernel
theorem dX11_would_40 : decode cX11_would 40 = .ok (.iload_n 3, 1) := by decide +kernel
theorem dX11_would_41 : decode cX11_would 41 = .ok (.goto 9, 3) := by decide +kernel
theorem dX11_would_44 : decode cX11_would 44 = .ok (.aload_n 0, 1) := by decide +kernel
theorem dX11_would_45 : decode cX11_would 45 = .ok (.getfield 50, 3) := by decide +kernel
theorem dX11_would_48 : decode cX11_would 48 = .ok (.iload_n 2, 1) := by decide +kernel
theorem dX11_would_49 : decode cX11_would 49 = .ok (.iaload, 1) := by decide +kernel
theorem dX11_would_50 : decode cX11_would 50 = .ok (.ireturn, 1) := by decide +kernel
def bX11_would : ol_SE := es_seq (es_if (ec_or (ec_not (ec_z ol_ne (ei_of (ea_cs fX11_in (ea_i (ei_v 1) (ea_i (ei_c 1) (ea_i (ei_c 20) (ea_0)))))))) (ec_not (ec_z ol_ne (ei_of (ea_cs fX11_in (ea_i (ei_v 2) (ea_i (ei_c (-1)) (ea_i (ei_2 ol_sub (ei_f 11 34 (er_v 0)) (ei_c 1)) (ea_0))))))))) (es_ret (ei_c (-1))) es_skip) (es_seq (es_set 3 (ei_of (ea_cv 11 fX11_tryRounds (ea_r (er_v 0) (ea_i (ei_v 1) (ea_i (ei_of (ea_cv 11 fX11_asTheyCame (ea_r (er_v 0) (ea_0)))) (ea_0))))))) (es_ret (ei_if (ec_z ol_lt (ei_v 2)) (ei_v 3) (ei_a 100 (er_f 11 37 (er_v 0)) (ei_v 2)))))
def fX11_would : ol_FE := ol_fe 4 bX11_would
set_option maxRecDepth 20000 in
theorem imX11_would (x : ol_X) (K : ol_K) : IM_S x K mX11_would 0 0 bX11_would := rs_seq (p2 := 26) (rs_if (pT := 24) (pF := 26) (pE := 26) (rc_or (p2 := 10) (pT := 24) (pF := 26) (rc_not (rc_zF (pF := 24) ol_j1_eq_F (ri_k (rk_s (Mc := mX11_in) (conX11_in _ K) (ra_i (ri_vn dX11_would_0 rfl) (ra_i (ri_ic dX11_would_1 (by unfold ol_inR; omega)) (ra_i (ri_bi dX11_would_2 (by unfold ol_inR; omega) (by decide)) (ra_0)))) dX11_would_4 cwX11_63 tw_981 ⟨rfl, rfl, Nat.le_of_ble_eq_true rfl⟩ (by decide) (by decide) (al_i (al_i (al_i al_0)))) (Or.inr (Or.inl rfl))) dX11_would_7 (by decide))) (rc_not (rc_zT (pT := 26) ol_j1_ne_T (ri_k (rk_s (Mc := mX11_in) (conX11_in _ K) (ra_i (ri_vn dX11_would_10 rfl) (ra_i (ri_ic dX11_would_11 (by unfold ol_inR; omega)) (ra_i (ri_2 ol_op_sub (ri_f (rr_vn dX11_would_12 rfl) gfX11_219 dX11_would_13) (ri_ic dX11_would_16 (by unfold ol_inR; omega)) dX11_would_17) (ra_0)))) dX11_would_18 cwX11_63 tw_981 ⟨rfl, rfl, Nat.le_of_ble_eq_true rfl⟩ (by decide) (by decide) (al_i (al_i (al_i al_0)))) (Or.inr (Or.inl rfl))) dX11_would_21 (by decide)))) (rs_ret (ri_ic dX11_would_24 (by unfold ol_inR; omega)) rfl dX11_would_25) rs_skip) (rs_seq (p2 := 36) (rs_setn (ri_k (rk_v (Mc := mX11_tryRounds) (conX11_tryRounds _ K) (ra_r (rr_vn dX11_would_26 rfl) (ra_i (ri_vn dX11_would_27 rfl) (ra_i (ri_k (rk_v (Mc := mX11_asTheyCame) (conX11_asTheyCame _ K) (ra_r (rr_vn dX11_would_28 rfl) (ra_0)) dX11_would_29 cwX11_231 tw_1164 tw_46 (by decide) rfl rfl ⟨rfl, rfl, Nat.le_of_ble_eq_true rfl⟩ (by decide) (by decide) (al_r al_0)) (Or.inl rfl)) (ra_0)))) dX11_would_32 cwX11_234 tw_1168 tw_47 (by decide) rfl rfl ⟨rfl, rfl, Nat.le_of_ble_eq_true rfl⟩ (by decide) (by decide) (al_r (al_i (al_i al_0)))) (Or.inl rfl)) dX11_would_35 rfl (ol_ltn rfl)) (rs_ret (ri_if (pT := 40) (pF := 44) (p3 := 50) (rc_zF (pF := 44) ol_j1_ge_F (ri_vn dX11_would_36 rfl) dX11_would_37 (by decide)) (ri_vn dX11_would_40 rfl) dX11_would_41 (by decide) (ri_a (rr_f (rr_vn dX11_would_44 rfl) gfX11_50 dX11_would_45) (ri_vn dX11_would_48 rfl) rfl dX11_would_49)) rfl dX11_would_50))
theorem conX11_would (l : Launch) (K : ol_K) : ol_Con l K yX11_would mX11_would fX11_would := ol_con (M := mX11_would) (by decide) rfl rfl (imX11_would · K)
theorem dX11_order_0 : decode cX11_order 0 = .ok (.iload_n 1, 1) := by decide +kernel
theorem dX11_order_1 : decode cX11_order 1 = .ok (.iconst 1, 1) := by decide +kernel
theorem dX11_order_2 : decode cX11_order 2 = .ok (.bipush 20, 2) := by decide +kernel
theorem dX11_order_4 : decode cX11_order 4 = .ok (.invokestatic 63, 3) := by decide +kernel
theorem dX11_order_7 : decode cX11_order 7 = .ok (.ifCond .eq 12, 3) := by decide +kernel
theorem dX11_order_10 : decode cX11_order 10 = .ok (.iload_n 2, 1) := by decide +kernel
theorem dX11_order_11 : decode cX11_order 11 = .ok (.iconst 0, 1) := by decide +kernel
theorem dX11_order_12 : decode cX11_order 12 = .ok (.iconst 1, 1) := by decide +kernel
theorem dX11_order_13 : decode cX11_order 13 = .ok (.invokestatic 63, 3) := by decide +kernel
theorem dX11_order_16 : decode cX11_order 16 = .ok (.ifCond .ne 5, 3) := by decide +kernel
theorem dX11_order_19 : decode cX11_order 19 = .ok (.iconst (-1), 1) := by decide +kernel
theorem dX11_order_20 : decode cX11_order 20 = .ok (.ireturn, 1) := by decide +kernel
theorem dX11_order_21 : decode cX11_order 21 = .ok (.iconst 0, 1) := by decide +kernel
theorem dX11_order_22 : decode cX11_order 22 = .ok (.istore_n 3, 1) := by decide +kernel
theorem dX11_order_23 : decode cX11_order 23 = .ok (.aload_n 0, 1) := by decide +kernel
theorem dX11_order_24 : decode cX11_order 24 = .ok (.getfield 219, 3) := by decide +kernel
theorem dX11_order_27 : decode cX11_order 27 = .ok (.ifCond .ne 7, 3) := by decide +kernel
theorem dX11_order_30 : decode cX11_order 30 = .ok (.iconst 0, 1) := by decide +kernel
theorem dX11_order_31 : decode cX11_order 31 = .ok (.goto 4, 3) := by decide +kernel
theorem dX11_order_34 : decode cX11_order 34 = .ok (.iconst (-1), 1) := by decide +kernel
theorem dX11_order_35 : decode cX11_order 35 = .ok (.istore 4, 2) := by decide +kernel
theorem dX11_order_37 : decode cX11_order 37 = .ok (.iconst 0, 1) := by decide +kernel
theorem dX11_order_38 : decode cX11_order 38 = .ok (.istore 5, 2) := by decide +kernel
theorem dX11_order_40 : decode cX11_order 40 = .ok (.iload 5, 2) := by decide +kernel
theorem dX11_order_42 : decode cX11_order 42 = .ok (.sipush 3210, 3) := by decide +kernel
theorem dX11_order_45 : decode cX11_order 45 = .ok (.if_icmp .gt 64, 3) := by decide +kernel
theorem dX11_order_48 : decode cX11_order 48 = .ok (.aload_n 0, 1) := by decide +kernel
theorem dX11_order_49 : decode cX11_order 49 = .ok (.getfield 219, 3) := by decide +kernel
theorem dX11_order_52 : decode cX11_order 52 = .ok (.ifCond .le 57, 3) := by decide +kernel
theorem dX11_order_55 : decode cX11_order 55 = .ok (.aload_n 0, 1) := by decide +kernel
theorem dX11_order_56 : decode cX11_order 56 = .ok (.iload 5, 2) := by decide +kernel
theorem dX11_order_58 : decode cX11_order 58 = .ok (.invokevirtual 237, 3) := by decide +kernel
theorem dX11_order_61 : decode cX11_order 61 = .ok (.ifCond .eq 42, 3) := by decide +kernel
theorem dX11_order_64 : decode cX11_order 64 = .ok (.aload_n 0, 1) := by decide +kernel
theorem dX11_order_65 : decode cX11_order 65 = .ok (.iload_n 1, 1) := by decide +kernel
theorem dX11_order_66 : decode cX11_order 66 = .ok (.iload 5, 2) := by decide +kernel
theorem dX11_order_68 : decode cX11_order 68 = .ok (.invokevirtual 234, 3) := by decide +kernel
theorem dX11_order_71 : decode cX11_order 71 = .ok (.istore 6, 2) := by decide +kernel
theorem dX11_order_73 : decode cX11_order 73 = .ok (.iload 6, 2) := by decide +kernel
theorem dX11_order_75 : decode cX11_order 75 = .ok (.iload 4, 2) := by decide +kernel
theorem dX11_order_77 : decode cX11_order 77 = .ok (.if_icmp .le 8, 3) := by decide +kernel
theorem dX11_order_80 : decode cX11_order 80 = .ok (.iload 5, 2) := by decide +kernel
theorem dX11_order_82 : decode cX11_order 82 = .ok (.goto 4, 3) := by decide +kernel
theorem dX11_order_85 : decode cX11_order 85 = .ok (.iload_n 3, 1) := by decide +kernel
theorem dX11_order_86 : decode cX11_order 86 = .ok (.istore_n 3, 1) := by decide +kernel
theorem dX11_order_87 : decode cX11_order 87 = .ok (.iload 6, 2) := by decide +kernel
theorem dX11_order_89 : decode cX11_order 89 = .ok (.iload 4, 2) := by decide +kernel
theorem dX11_order_91 : decode cX11_order 91 = .ok (.if_icmp .le 8, 3) := by decide +kernel
theorem dX11_order_94 : decode cX11_order 94 = .ok (.iload 6, 2) := by decide +kernel
theorem dX11_order_96 : decode cX11_order 96 = .ok (.goto 5, 3) := by decide +kernel
theorem dX11_order_99 : decode cX11_order 99 = .ok (.iload 4, 2) := by decide +kernel
theorem dX11_order_101 : decode cX11_order 101 = .ok (.istore 4, 2) := by decide +kernel
theorem dX11_order_103 : decode cX11_order 103 = .ok (.iinc 5 1, 3) := by decide +kernel
theorem dX11_order_106 : decode cX11_order 106 = .ok (.goto (-66), 3) := by decide +kernel
theorem dX11_order_109 : decode cX11_order 109 = .ok (.iload_n 2, 1) := by decide +kernel
theorem dX11_order_110 : decode cX11_order 110 = .ok (.ifCond .ne 8, 3) := by decide +kernel
theorem dX11_order_113 : decode cX11_order 113 = .ok (.iload 4, 2) := by decide +kernel
theorem dX11_order_115 : decode cX11_order 115 = .ok (.goto 4, 3) := by decide +kernel
theorem dX11_order_118 : decode cX11_order 118 = .ok (.iload_n 3, 1) := by decide +kernel
theorem dX11_order_119 : decode cX11_order 119 = .ok (.ireturn, 1) := by decide +kernel
def bX11_order : ol_SE := es_seq (es_if (ec_or (ec_not (ec_z ol_ne (ei_of (ea_cs fX11_in (ea_i (ei_v 1) (ea_i (ei_c 1) (ea_i (ei_c 20) (ea_0)))))))) (ec_not (ec_z ol_ne (ei_of (ea_cs fX11_in (ea_i (ei_v 2) (ea_i (ei_c 0) (ea_i (ei_c 1) (ea_0))))))))) (es_ret (ei_c (-1))) es_skip) (es_seq (es_set 3 (ei_c 0)) (es_seq (es_set 4 (ei_if (ec_z ol_eq (ei_f 11 34 (er_v 0))) (ei_c 0) (ei_c (-1)))) (es_seq (es_seq (es_set 5 (ei_c 0)) (es_wh (ec_and (ec_2 ol_le (ei_v 5) (ei_c 3210)) (ec_z ol_gt (ei_f 11 34 (er_v 0)))) (es_seq (es_if (ec_z ol_ne (ei_of (ea_cv 11 fX11_isOrder (ea_r (er_v 0) (ea_i (ei_v 5) (ea_0)))))) (es_seq (es_set 6 (ei_of (ea_cv 11 fX11_tryRounds (ea_r (er_v 0) (ea_i (ei_v 1) (ea_i (ei_v 5) (ea_0))))))) (es_seq (es_set 3 (ei_if (ec_2 ol_gt (ei_v 6) (ei_v 4)) (ei_v 5) (ei_v 3))) (es_set 4 (ei_if (ec_2 ol_gt (ei_v 6) (ei_v 4)) (ei_v 6) (ei_v 4))))) es_skip) (es_inc 5 1)))) (es_ret (ei_if (ec_z ol_eq (ei_v 2)) (ei_v 4) (ei_v 3))))))
def fX11_order : ol_FE := ol_fe 7 bX11_order
set_option maxRecDepth 20000 in
theorem imX11_order (x : ol_X) (K : ol_K) : IM_S x K mX11_order 0 0 bX11_order := rs_seq (p2 := 21) (rs_if (pT := 19) (pF := 21) (pE := 21) (rc_or (p2 := 10) (pT := 19) (pF := 21) (rc_not (rc_zF (pF := 19) ol_j1_eq_F (ri_k (rk_s (Mc := mX11_in) (conX11_in _ K) (ra_i (ri_vn dX11_order_0 rfl) (ra_i (ri_ic dX11_order_1 (by unfold ol_inR; omega)) (ra_i (ri_bi dX11_order_2 (by unfold ol_inR; omega) (by decide)) (ra_0)))) dX11_order_4 cwX11_63 tw_981 ⟨rfl, rfl, Nat.le_of_ble_eq_true rfl⟩ (by decide) (by decide) (al_i (al_i (al_i al_0)))) (Or.inr (Or.inl rfl))) dX11_order_7 (by decide))) (rc_not (rc_zT (pT := 21) ol_j1_ne_T (ri_k (rk_s (Mc := mX11_in) (conX11_in _ K) (ra_i (ri_vn dX11_order_10 rfl) (ra_i (ri_ic dX11_order_11 (by unfold ol_inR; omega)) (ra_i (ri_ic dX11_order_12 (by unfold ol_inR; omega)) (ra_0)))) dX11_order_13 cwX11_63 tw_981 ⟨rfl, rfl, Nat.le_of_ble_eq_true rfl⟩ (by decide) (by decide) (al_i (al_i (al_i al_0)))) (Or.inr (Or.inl rfl))) dX11_order_16 (by decide)))) (rs_ret (ri_ic dX11_order_19 (by unfold ol_inR; omega)) rfl dX11_order_20) rs_skip) (rs_seq (p2 := 23) (rs_setn (ri_ic dX11_order_21 (by unfold ol_inR; omega)) dX11_order_22 rfl (ol_ltn rfl)) (rs_seq (p2 := 37) (rs_set (ri_if (pT := 30) (pF := 34) (p3 := 35) (rc_zF (pF := 34) ol_j1_ne_F (ri_f (rr_vn dX11_order_23 rfl) gfX11_219 dX11_order_24) dX11_order_27 (by decide)) (ri_ic dX11_order_30 (by unfold ol_inR; omega)) dX11_order_31 (by decide) (ri_ic dX11_order_34 (by unfold ol_inR; omega))) dX11_order_35 (ol_ltn rfl)) (rs_seq (p2 := 109) (rs_seq (p2 := 40) (rs_set (ri_ic dX11_order_37 (by unfold ol_inR; omega)) dX11_order_38 (ol_ltn rfl)) (rs_wh (pH := 40) (pB := 55) (pE := 109) (pG := 106) (rc_and (p2 := 48) (pT := 55) (pF := 109) (rc_2F (pF := 109) ol_j2_gt_F (ri_vi dX11_order_40) (ri_si dX11_order_42 (by unfold ol_inR; omega) (by decide)) dX11_order_45 (by decide)) (rc_zF (pF := 109) ol_j1_le_F (ri_f (rr_vn dX11_order_48 rfl) gfX11_219 dX11_order_49) dX11_order_52 (by decide))) (rs_seq (p2 := 103) (rs_if (pT := 64) (pF := 103) (pE := 103) (rc_zF (pF := 103) ol_j1_eq_F (ri_k (rk_v (Mc := mX11_isOrder) (conX11_isOrder _ K) (ra_r (rr_vn dX11_order_55 rfl) (ra_i (ri_vi dX11_order_56) (ra_0))) dX11_order_58 cwX11_237 tw_1180 tw_49 (by decide) rfl rfl ⟨rfl, rfl, Nat.le_of_ble_eq_true rfl⟩ (by decide) (by decide) (al_r (al_i al_0))) (Or.inr (Or.inl rfl))) dX11_order_61 (by decide)) (rs_seq (p2 := 73) (rs_set (ri_k (rk_v (Mc := mX11_tryRounds) (conX11_tryRounds _ K) (ra_r (rr_vn dX11_order_64 rfl) (ra_i (ri_vn dX11_order_65 rfl) (ra_i (ri_vi dX11_order_66) (ra_0)))) dX11_order_68 cwX11_234 tw_1168 tw_47 (by decide) rfl rfl ⟨rfl, rfl, Nat.le_of_ble_eq_true rfl⟩ (by decide) (by decide) (al_r (al_i (al_i al_0)))) (Or.inl rfl)) dX11_order_71 (ol_ltn rfl)) (rs_seq (p2 := 87) (rs_setn (ri_if (pT := 80) (pF := 85) (p3 := 86) (rc_2F (pF := 85) ol_j2_le_F (ri_vi dX11_order_73) (ri_vi dX11_order_75) dX11_order_77 (by decide)) (ri_vi dX11_order_80) dX11_order_82 (by decide) (ri_vn dX11_order_85 rfl)) dX11_order_86 rfl (ol_ltn rfl)) (rs_set (ri_if (pT := 94) (pF := 99) (p3 := 101) (rc_2F (pF := 99) ol_j2_le_F (ri_vi dX11_order_87) (ri_vi dX11_order_89) dX11_order_91 (by decide)) (ri_vi dX11_order_94) dX11_order_96 (by decide) (ri_vi dX11_order_99)) dX11_order_101 (ol_ltn rfl)))) rs_skip) (rs_inc dX11_order_103 (ol_ltn rfl))) dX11_order_106 (by decide))) (rs_ret (ri_if (pT := 113) (pF := 118) (p3 := 119) (rc_zF (pF := 118) ol_j1_ne_F (ri_vn dX11_order_109 rfl) dX11_order_110 (by decide)) (ri_vi dX11_order_113) dX11_order_115 (by decide) (ri_vn dX11_order_118 rfl)) rfl dX11_order_119))))
theorem conX11_order (l : Launch) (K : ol_K) : ol_Con l K yX11_order mX11_order fX11_order := ol_con (M := mX11_order) (by decide) rfl rfl (imX11_order · K)
theorem dX11_spare_0 : decode cX11_spare 0 = .ok (.iload_n 1, 1) := by decide +kernel
theorem dX11_spare_1 : decode cX11_spare 1 = .ok (.iconst 0, 1) := by decide +kernel
theorem dX11_spare_2 : decode cX11_spare 2 = .ok (.sipush 1023, 3) := by decide +kernel
theorem dX11_spare_5 : decode cX11_spare 5 = .ok (.invokestatic 63, 3) := by decide +kernel
theorem dX11_spare_8 : decode cX11_spare 8 = .ok (.ifCond .eq 19, 3) := by decide +kernel
theorem dX11_spare_11 : decode cX11_spare 11 = .ok (.iload_n 2, 1) := by decide +kernel
theorem dX11_spare_12 : decode cX11_spare 12 = .ok (.invokestatic 122, 3) := by decide +kernel
theorem dX11_spare_15 : decode cX11_spare 15 = .ok (.ifCond .eq 12, 3) := by decide +kernel
theorem dX11_spare_18 : decode cX11_spare 18 = .ok (.iload_n 3, 1) := by decide +kernel
theorem dX11_spare_19 : decode cX11_spare 19 = .ok (.iconst 0, 1) := by decide +kernel
theorem dX11_spare_20 : decode cX11_spare 20 = .ok (.iconst 2, 1) := by decide +kernel
theorem dX11_spare_21 : decode cX11_spare 21 = .ok (.invokestatic 63, 3) := by decide +kernel
theorem dX11_spare_24 : decode cX11_spare 24 = .ok (.ifCond .ne 6, 3) := by decide +kernel
theorem dX11_spare_27 : decode cX11_spare 27 = .ok (.ldc 187, 2) := by decide +kernel
theorem dX11_spare_29 : decode cX11_spare 29 = .ok (.ireturn, 1) := by decide +kernel
theorem dX11_spare_30 : decode cX11_spare 30 = .ok (.iconst (-1), 1) := by decide +kernel
theorem dX11_spare_31 : decode cX11_spare 31 = .ok (.istore 4, 2) := by decide +kernel
theorem dX11_spare_33 : decode cX11_spare 33 = .ok (.iconst 0, 1) := by decide +kernel
theorem dX11_spare_34 : decode cX11_spare 34 = .ok (.istore 5, 2) := by decide +kernel
theorem dX11_spare_36 : decode cX11_spare 36 = .ok (.iconst 0, 1) := by decide +kernel
theorem dX11_spare_37 : decode cX11_spare 37 = .ok (.istore 6, 2) := by decide +kernel
theorem dX11_spare_39 : decode cX11_spare 39 = .ok (.iconst 0, 1) := by decide +kernel
theorem dX11_spare_40 : decode cX11_spare 40 = .ok (.istore 7, 2) := by decide +kernel
theorem dX11_spare_42 : decode cX11_spare 42 = .ok (.iload 7, 2) := by decide +kernel
theorem dX11_spare_44 : decode cX11_spare 44 = .ok (.bipush 39, 2) := by decide +kernel
theorem dX11_spare_46 : decode cX11_spare 46 = .ok (.if_icmp .ge 67, 3) := by decide +kernel
theorem dX11_spare_49 : decode cX11_spare 49 = .ok (.bipush (-6), 2) := by decide +kernel
theorem dX11_spare_51 : decode cX11_spare 51 = .ok (.istore 8, 2) := by decide +kernel
theorem dX11_spare_53 : decode cX11_spare 53 = .ok (.iload 8, 2) := by decide +kernel
theorem dX11_spare_55 : decode cX11_spare 55 = .ok (.bipush 6, 2) := by decide +kernel
theorem dX11_spare_57 : decode cX11_spare 57 = .ok (.if_icmp .gt 50, 3) := by decide +kernel
theorem dX11_spare_60 : decode cX11_spare 60 = .ok (.aload_n 0, 1) := by decide +kernel
theorem dX11_spare_61 : decode cX11_spare 61 = .ok (.iconst 0, 1) := by decide +kernel
theorem dX11_spare_62 : decode cX11_spare 62 = .ok (.iload 7, 2) := by decide +kernel
theorem dX11_spare_64 : decode cX11_spare 64 = .ok (.iload 8, 2) := by decide +kernel
theorem dX11_spare_66 : decode cX11_spare 66 = .ok (.iconst 0, 1) := by decide +kernel
theorem dX11_spare_67 : decode cX11_spare 67 = .ok (.iload_n 2, 1) := by decide +kernel
theorem dX11_spare_68 : decode cX11_spare 68 = .ok (.invokevirtual 188, 3) := by decide +kernel
theorem dX11_spare_71 : decode cX11_spare 71 = .ok (.aload_n 0, 1) := by decide +kernel
theorem dX11_spare_72 : decode cX11_spare 72 = .ok (.iload_n 2, 1) := by decide +kernel
theorem dX11_spare_73 : decode cX11_spare 73 = .ok (.iload_n 1, 1) := by decide +kernel
theorem dX11_spare_74 : decode cX11_spare 74 = .ok (.invokevirtual 170, 3) := by decide +kernel
theorem dX11_spare_77 : decode cX11_spare 77 = .ok (.invokestatic 183, 3) := by decide +kernel
theorem dX11_spare_80 : decode cX11_spare 80 = .ok (.istore 9, 2) := by decide +kernel
theorem dX11_spare_82 : decode cX11_spare 82 = .ok (.iload 9, 2) := by decide +kernel
theorem dX11_spare_84 : decode cX11_spare 84 = .ok (.iload 4, 2) := by decide +kernel
theorem dX11_spare_86 : decode cX11_spare 86 = .ok (.if_icmp .le 15, 3) := by decide +kernel
theorem dX11_spare_89 : decode cX11_spare 89 = .ok (.iload 9, 2) := by decide +kernel
theorem dX11_spare_91 : decode cX11_spare 91 = .ok (.istore 4, 2) := by decide +kernel
theorem dX11_spare_93 : decode cX11_spare 93 = .ok (.iload 7, 2) := by decide +kernel
theorem dX11_spare_95 : decode cX11_spare 95 = .ok (.istore 5, 2) := by decide +kernel
theorem dX11_spare_97 : decode cX11_spare 97 = .ok (.iload 8, 2) := by decide +kernel
theorem dX11_spare_99 : decode cX11_spare 99 = .ok (.istore 6, 2) := by decide +kernel
theorem dX11_spare_101 : decode cX11_spare 101 = .ok (.iinc 8 1, 3) := by decide +kernel
theorem dX11_spare_104 : decode cX11_spare 104 = .ok (.goto (-51), 3) := by decide +kernel
theorem dX11_spare_107 : decode cX11_spare 107 = .ok (.iinc 7 1, 3) := by decide +kernel
theorem dX11_spare_110 : decode cX11_spare 110 = .ok (.goto (-68), 3) := by decide +kernel
theorem dX11_spare_113 : decode cX11_spare 113 = .ok (.iload_n 3, 1) := by decide +kernel
theorem dX11_spare_114 : decode cX11_spare 114 = .ok (.ifCond .ne 8, 3) := by decide +kernel
theorem dX11_spare_117 : decode cX11_spare 117 = .ok (.iload 4, 2) := by decide +kernel
theorem dX11_spare_119 : decode cX11_spare 119 = .ok (.goto 15, 3) := by decide +kernel
theorem dX11_spare_122 : decode cX11_spare 122 = .ok (.iload_n 3, 1) := by decide +kernel
theorem dX11_spare_123 : decode cX11_spare 123 = .ok (.iconst 1, 1) := by decide +kernel
theorem dX11_spare_124 : decode cX11_spare 124 = .ok (.if_icmp .ne 8, 3) := by decide +kernel
theorem dX11_spare_127 : decode cX11_spare 127 = .ok (.iload 5, 2) := by decide +kernel
theorem dX11_spare_129 : decode cX11_spare 129 = .ok (.goto 5, 3) := by decide +kernel
theorem dX11_spare_132 : decode cX11_spare 132 = .ok (.iload 6, 2) := by decide +kernel
theorem dX11_spare_134 : decode cX11_spare 134 = .ok (.ireturn, 1) := by decide +kernel
def bX11_spare : ol_SE := es_seq (es_if (ec_or (ec_or (ec_not (ec_z ol_ne (ei_of (ea_cs fX11_in (ea_i (ei_v 1) (ea_i (ei_c 0) (ea_i (ei_c 1023) (ea_0)))))))) (ec_not (ec_z ol_ne (ei_of (ea_cs fX11_isBall (ea_i (ei_v 2) (ea_0))))))) (ec_not (ec_z ol_ne (ei_of (ea_cs fX11_in (ea_i (ei_v 3) (ea_i (ei_c 0) (ea_i (ei_c 2) (ea_0))))))))) (es_ret (ei_c (-1000000))) es_skip) (es_seq (es_set 4 (ei_c (-1))) (es_seq (es_set 5 (ei_c 0)) (es_seq (es_set 6 (ei_c 0)) (es_seq (es_seq (es_set 7 (ei_c 0)) (es_wh (ec_2 ol_lt (ei_v 7) (ei_c 39)) (es_seq (es_seq (es_set 8 (ei_c (-6))) (es_wh (ec_2 ol_le (ei_v 8) (ei_c 6)) (es_seq (es_seq (es_of (ea_cv 11 fX11_goTried (ea_r (er_v 0) (ea_i (ei_c 0) (ea_i (ei_v 7) (ea_i (ei_v 8) (ea_i (ei_c 0) (ea_i (ei_v 2) (ea_0))))))))) (es_seq (es_set 9 (ei_of (ea_cs fX11_bitsIn (ea_i (ei_of (ea_cv 11 fX11_pinsOf (ea_r (er_v 0) (ea_i (ei_v 2) (ea_i (ei_v 1) (ea_0)))))) (ea_0))))) (es_if (ec_2 ol_gt (ei_v 9) (ei_v 4)) (es_seq (es_set 4 (ei_v 9)) (es_seq (es_set 5 (ei_v 7)) (es_set 6 (ei_v 8)))) es_skip))) (es_inc 8 1)))) (es_inc 7 1)))) (es_ret (ei_if (ec_z ol_eq (ei_v 3)) (ei_v 4) (ei_if (ec_2 ol_eq (ei_v 3) (ei_c 1)) (ei_v 5) (ei_v 6))))))))
def fX11_spare : ol_FE := ol_fe 10 bX11_spare
set_option maxRecDepth 20000 in
theorem imX11_spare (x : ol_X) (K : ol_K) : IM_S x K mX11_spare 0 0 bX11_spare := rs_seq (p2 := 30) (rs_if (pT := 27) (pF := 30) (pE := 30) (rc_or (p2 := 18) (pT := 27) (pF := 30) (rc_or (p2 := 11) (pT := 27) (pF := 18) (rc_not (rc_zF (pF := 27) ol_j1_eq_F (ri_k (rk_s (Mc := mX11_in) (conX11_in _ K) (ra_i (ri_vn dX11_spare_0 rfl) (ra_i (ri_ic dX11_spare_1 (by unfold ol_inR; omega)) (ra_i (ri_si dX11_spare_2 (by unfold ol_inR; omega) (by decide)) (ra_0)))) dX11_spare_5 cwX11_63 tw_981 ⟨rfl, rfl, Nat.le_of_ble_eq_true rfl⟩ (by decide) (by decide) (al_i (al_i (al_i al_0)))) (Or.inr (Or.inl rfl))) dX11_spare_8 (by decide))) (rc_not (rc_zF (pF := 27) ol_j1_eq_F (ri_k (rk_s (Mc := mX11_isBall) (conX11_isBall _ K) (ra_i (ri_vn dX11_spare_11 rfl) (ra_0)) dX11_spare_12 cwX11_122 tw_1042 ⟨rfl, rfl, Nat.le_of_ble_eq_true rfl⟩ (by decide) (by decide) (al_i al_0)) (Or.inr (Or.inl rfl))) dX11_spare_15 (by decide)))) (rc_not (rc_zT (pT := 30) ol_j1_ne_T (ri_k (rk_s (Mc := mX11_in) (conX11_in _ K) (ra_i (ri_vn dX11_spare_18 rfl) (ra_i (ri_ic dX11_spare_19 (by unfold ol_inR; omega)) (ra_i (ri_ic dX11_spare_20 (by unfold ol_inR; omega)) (ra_0)))) dX11_spare_21 cwX11_63 tw_981 ⟨rfl, rfl, Nat.le_of_ble_eq_true rfl⟩ (by decide) (by decide) (al_i (al_i (al_i al_0)))) (Or.inr (Or.inl rfl))) dX11_spare_24 (by decide)))) (rs_ret (ri_ldc dX11_spare_27 (by unfold ol_inR; omega) tw_1086) rfl dX11_spare_29) rs_skip) (rs_seq (p2 := 33) (rs_set (ri_ic dX11_spare_30 (by unfold ol_inR; omega)) dX11_spare_31 (ol_ltn rfl)) (rs_seq (p2 := 36) (rs_set (ri_ic dX11_spare_33 (by unfold ol_inR; omega)) dX11_spare_34 (ol_ltn rfl)) (rs_seq (p2 := 39) (rs_set (ri_ic dX11_spare_36 (by unfold ol_inR; omega)) dX11_spare_37 (ol_ltn rfl)) (rs_seq (p2 := 113) (rs_seq (p2 := 42) (rs_set (ri_ic dX11_spare_39 (by unfold ol_inR; omega)) dX11_spare_40 (ol_ltn rfl)) (rs_wh (pH := 42) (pB := 49) (pE := 113) (pG := 110) (rc_2F (pF := 113) ol_j2_ge_F (ri_vi dX11_spare_42) (ri_bi dX11_spare_44 (by unfold ol_inR; omega) (by decide)) dX11_spare_46 (by decide)) (rs_seq (p2 := 107) (rs_seq (p2 := 53) (rs_set (ri_bi dX11_spare_49 (by unfold ol_inR; omega) (by decide)) dX11_spare_51 (ol_ltn rfl)) (rs_wh (pH := 53) (pB := 60) (pE := 107) (pG := 104) (rc_2F (pF := 107) ol_j2_gt_F (ri_vi dX11_spare_53) (ri_bi dX11_spare_55 (by unfold ol_inR; omega) (by decide)) dX11_spare_57 (by decide)) (rs_seq (p2 := 101) (rs_seq (p2 := 71) (rs_k (rk_v (Mc := mX11_goTried) (conX11_goTried _ K) (ra_r (rr_vn dX11_spare_60 rfl) (ra_i (ri_ic dX11_spare_61 (by unfold ol_inR; omega)) (ra_i (ri_vi dX11_spare_62) (ra_i (ri_vi dX11_spare_64) (ra_i (ri_ic dX11_spare_66 (by unfold ol_inR; omega)) (ra_i (ri_vn dX11_spare_67 rfl) (ra_0))))))) dX11_spare_68 cwX11_188 tw_1093 tw_39 (by decide) rfl rfl ⟨rfl, rfl, Nat.le_of_ble_eq_true rfl⟩ (by decide) (by decide) (al_r (al_i (al_i (al_i (al_i (al_i al_0)))))))) (rs_seq (p2 := 82) (rs_set (ri_k (rk_s (Mc := mX11_bitsIn) (conX11_bitsIn _ K) (ra_i (ri_k (rk_v (Mc := mX11_pinsOf) (conX11_pinsOf _ K) (ra_r (rr_vn dX11_spare_71 rfl) (ra_i (ri_vn dX11_spare_72 rfl) (ra_i (ri_vn dX11_spare_73 rfl) (ra_0)))) dX11_spare_74 cwX11_170 tw_1077 tw_38 (by decide) rfl rfl ⟨rfl, rfl, Nat.le_of_ble_eq_true rfl⟩ (by decide) (by decide) (al_r (al_i (al_i al_0)))) (Or.inl rfl)) (ra_0)) dX11_spare_77 cwX11_183 tw_1080 ⟨rfl, rfl, Nat.le_of_ble_eq_true rfl⟩ (by decide) (by decide) (al_i al_0)) (Or.inl rfl)) dX11_spare_80 (ol_ltn rfl)) (rs_if (pT := 89) (pF := 101) (pE := 101) (rc_2F (pF := 101) ol_j2_le_F (ri_vi dX11_spare_82) (ri_vi dX11_spare_84) dX11_spare_86 (by decide)) (rs_seq (p2 := 93) (rs_set (ri_vi dX11_spare_89) dX11_spare_91 (ol_ltn rfl)) (rs_seq (p2 := 97) (rs_set (ri_vi dX11_spare_93) dX11_spare_95 (ol_ltn rfl)) (rs_set (ri_vi dX11_spare_97) dX11_spare_99 (ol_ltn rfl)))) rs_skip))) (rs_inc dX11_spare_101 (ol_ltn rfl))) dX11_spare_104 (by decide))) (rs_inc dX11_spare_107 (ol_ltn rfl))) dX11_spare_110 (by decide))) (rs_ret (ri_if (pT := 117) (pF := 122) (p3 := 134) (rc_zF (pF := 122) ol_j1_ne_F (ri_vn dX11_spare_113 rfl) dX11_spare_114 (by decide)) (ri_vi dX11_spare_117) dX11_spare_119 (by decide) (ri_if (pT := 127) (pF := 132) (p3 := 134) (rc_2F (pF := 132) ol_j2_ne_F (ri_vn dX11_spare_122 rfl) (ri_ic dX11_spare_123 (by unfold ol_inR; omega)) dX11_spare_124 (by decide)) (ri_vi dX11_spare_127) dX11_spare_129 (by decide) (ri_vi dX11_spare_132))) rfl dX11_spare_134)))))
theorem conX11_spare (l : Launch) (K : ol_K) : ol_Con l K yX11_spare mX11_spare fX11_spare := ol_con (M := mX11_spare) (by decide) rfl rfl (imX11_spare · K)
theorem dX7_readToken_0 : decode cX7_readToken 0 = .ok (.aload_n 0, 1) := by decide +kernel
theorem dX7_readToken_1 : decode cX7_readToken 1 = .ok (.getfield 29, 3) := by decide +kernel
theorem dX7_readToken_4 : decode cX7_readToken 4 = .ok (.aload_n 0, 1) := by decide +kernel
theorem dX7_readToken_5 : decode cX7_readToken 5 = .ok (.getfield 22, 3) := by decide +kernel
theorem dX7_readToken_8 : decode cX7_readToken 8 = .ok (.if_icmp .ge 30, 3) := by decide +kernel
theorem dX7_readToken_11 : decode cX7_readToken 11 = .ok (.aload_n 0, 1) := by decide +kernel
theorem dX7_readToken_12 : decode cX7_readToken 12 = .ok (.getfield 9, 3) := by decide +kernel
theorem dX7_readToken_15 : decode cX7_readToken 15 = .ok (.aload_n 0, 1) := by decide +kernel
theorem dX7_readToken_16 : decode cX7_readToken 16 = .ok (.getfield 29, 3) := by decide +kernel
theorem dX7_readToken_19 : decode cX7_readToken 19 = .ok (.iaload, 1) := by decide +kernel
theorem dX7_readToken_20 : decode cX7_readToken 20 = .ok (.bipush 32, 2) := by decide +kernel
theorem dX7_readToken_22 : decode cX7_readToken 22 = .ok (.if_icmp .ne 16, 3) := by decide +kernel
theorem dX7_readToken_25 : decode cX7_readToken 25 = .ok (.aload_n 0, 1) := by decide +kernel
theorem dX7_readToken_26 : decode cX7_readToken 26 = .ok (.dup, 1) := by decide +kernel
theorem dX7_readToken_27 : decode cX7_readToken 27 = .ok (.getfield 29, 3) := by decide +kernel
theorem dX7_readToken_30 : decode cX7_readToken 30 = .ok (.iconst 1, 1) := by decide +kernel
theorem dX7_readToken_31 : decode cX7_readToken 31 = .ok (.iadd, 1) := by decide +kernel
theorem dX7_readToken_32 : decode cX7_readToken 32 = .ok (.putfield 29, 3) := by decide +kernel
theorem dX7_readToken_35 : decode cX7_readToken 35 = .ok (.goto (-35), 3) := by decide +kernel
theorem dX7_readToken_38 : decode cX7_readToken 38 = .ok (.aload_n 0, 1) := by decide +kernel
theorem dX7_readToken_39 : decode cX7_readToken 39 = .ok (.aload_n 0, 1) := by decide +kernel
theorem dX7_readToken_40 : decode cX7_readToken 40 = .ok (.getfield 29, 3) := by decide +kernel
theorem dX7_readToken_43 : decode cX7_readToken 43 = .ok (.putfield 38, 3) := by decide +kernel
theorem dX7_readToken_46 : decode cX7_readToken 46 = .ok (.aload_n 0, 1) := by decide +kernel
theorem dX7_readToken_47 : decode cX7_readToken 47 = .ok (.getfield 29, 3) := by decide +kernel
theorem dX7_readToken_50 : decode cX7_readToken 50 = .ok (.aload_n 0, 1) := by decide +kernel
theorem dX7_readToken_51 : decode cX7_readToken 51 = .ok (.getfield 22, 3) := by decide +kernel
theorem dX7_readToken_54 : decode cX7_readToken 54 = .ok (.if_icmp .lt 11, 3) := by decide +kernel
theorem dX7_readToken_57 : decode cX7_readToken 57 = .ok (.aload_n 0, 1) := by decide +kernel
theorem dX7_readToken_58 : decode cX7_readToken 58 = .ok (.iconst 0, 1) := by decide +kernel
theorem dX7_readToken_59 : decode cX7_readToken 59 = .ok (.putfield 35, 3) := by decide +kernel
theorem dX7_readToken_62 : decode cX7_readToken 62 = .ok (.goto 119, 3) := by decide +kernel
theorem dX7_readToken_65 : decode cX7_readToken 65 = .ok (.aload_n 0, 1) := by decide +kernel
theorem dX7_readToken_66 : decode cX7_readToken 66 = .ok (.getfield 9, 3) := by decide +kernel
theorem dX7_readToken_69 : decode cX7_readToken 69 = .ok (.aload_n 0, 1) := by decide +kernel
theorem dX7_readToken_70 : decode cX7_readToken 70 = .ok (.getfield 29, 3) := by decide +kernel
theorem dX7_readToken_73 : decode cX7_readToken 73 = .ok (.iaload, 1) := by decide +kernel
theorem dX7_readToken_74 : decode cX7_readToken 74 = .ok (.bipush 59, 2) := by decide +kernel
theorem dX7_readToken_76 : decode cX7_readToken 76 = .ok (.if_icmp .ne 21, 3) := by decide +kernel
theorem dX7_readToken_79 : decode cX7_readToken 79 = .ok (.aload_n 0, 1) := by decide +kernel
theorem dX7_readToken_80 : decode cX7_readToken 80 = .ok (.dup, 1) := by decide +kernel
theorem dX7_readToken_81 : decode cX7_readToken 81 = .ok (.getfield 29, 3) := by decide +kernel
theorem dX7_readToken_84 : decode cX7_readToken 84 = .ok (.iconst 1, 1) := by decide +kernel
theorem dX7_readToken_85 : decode cX7_readToken 85 = .ok (.iadd, 1) := by decide +kernel
theorem dX7_readToken_86 : decode cX7_readToken 86 = .ok (.putfield 29, 3) := by decide +kernel
theorem dX7_readToken_89 : decode cX7_readToken 89 = .ok (.aload_n 0, 1) := by decide +kernel
theorem dX7_readToken_90 : decode cX7_readToken 90 = .ok (.iconst 4, 1) := by decide +kernel
theorem dX7_readToken_91 : decode cX7_readToken 91 = .ok (.putfield 35, 3) := by decide +kernel
theorem dX7_readToken_94 : decode cX7_readToken 94 = .ok (.goto 87, 3) := by decide +kernel
theorem dX7_readToken_97 : decode cX7_readToken 97 = .ok (.aload_n 0, 1) := by decide +kernel
theorem dX7_readToken_98 : decode cX7_readToken 98 = .ok (.getfield 9, 3) := by decide +kernel
theorem dX7_readToken_101 : decode cX7_readToken 101 = .ok (.aload_n 0, 1) := by decide +kernel
theorem dX7_readToken_102 : decode cX7_readToken 102 = .ok (.getfield 29, 3) := by decide +kernel
theorem dX7_readToken_105 : decode cX7_readToken 105 = .ok (.iaload, 1) := by decide +kernel
theorem dX7_readToken_106 : decode cX7_readToken 106 = .ok (.invokestatic 59, 3) := by decide +kernel
theorem dX7_readToken_109 : decode cX7_readToken 109 = .ok (.ifCond .eq 14, 3) := by decide +kernel
theorem dX7_readToken_112 : decode cX7_readToken 112 = .ok (.aload_n 0, 1) := by decide +kernel
theorem dX7_readToken_113 : decode cX7_readToken 113 = .ok (.aload_n 0, 1) := by decide +kernel
theorem dX7_readToken_114 : decode cX7_readToken 114 = .ok (.invokevirtual 63, 3) := by decide +kernel
theorem dX7_readToken_117 : decode cX7_readToken 117 = .ok (.putfield 35, 3) := by decide +kernel
theorem dX7_readToken_120 : decode cX7_readToken 120 = .ok (.goto 61, 3) := by decide +kernel
theorem dX7_readToken_123 : decode cX7_readToken 123 = .ok (.aload_n 0, 1) := by decide +kernel
theorem dX7_readToken_124 : decode cX7_readToken 124 = .ok (.getfield 9, 3) := by decide +kernel
theorem dX7_readToken_127 : decode cX7_readToken 127 = .ok (.aload_n 0, 1) := by decide +kernel
theorem dX7_readToken_128 : decode cX7_readToken 128 = .ok (.getfield 29, 3) := by decide +kernel
theorem dX7_readToken_131 : decode cX7_readToken 131 = .ok (.iaload, 1) := by decide +kernel
theorem dX7_readToken_132 : decode cX7_readToken 132 = .ok (.invokestatic 67, 3) := by decide +kernel
theorem dX7_readToken_135 : decode cX7_readToken 135 = .ok (.ifCond .eq 41, 3) := by decide +kernel
theorem dX7_readToken_138 : decode cX7_readToken 138 = .ok (.aload_n 0, 1) := by decide +kernel
theorem dX7_readToken_139 : decode cX7_readToken 139 = .ok (.invokevirtual 70, 3) := by decide +kernel
theorem dX7_readToken_142 : decode cX7_readToken 142 = .ok (.aload_n 0, 1) := by decide +kernel
theorem dX7_readToken_143 : decode cX7_readToken 143 = .ok (.aload_n 0, 1) := by decide +kernel
theorem dX7_readToken_144 : decode cX7_readToken 144 = .ok (.ldc 73, 2) := by decide +kernel
theorem dX7_readToken_146 : decode cX7_readToken 146 = .ok (.invokevirtual 75, 3) := by decide +kernel
theorem dX7_readToken_149 : decode cX7_readToken 149 = .ok (.ifCond .eq 7, 3) := by decide +kernel
theorem dX7_readToken_152 : decode cX7_readToken 152 = .ok (.iconst 1, 1) := by decide +kernel
theorem dX7_readToken_153 : decode cX7_readToken 153 = .ok (.goto 17, 3) := by decide +kernel
theorem dX7_readToken_156 : decode cX7_readToken 156 = .ok (.aload_n 0, 1) := by decide +kernel
theorem dX7_readToken_157 : decode cX7_readToken 157 = .ok (.ldc 79, 2) := by decide +kernel
theorem dX7_readToken_159 : decode cX7_readToken 159 = .ok (.invokevirtual 75, 3) := by decide +kernel
theorem dX7_readToken_162 : decode cX7_readToken 162 = .ok (.ifCond .eq 7, 3) := by decide +kernel
theorem dX7_readToken_165 : decode cX7_readToken 165 = .ok (.iconst 2, 1) := by decide +kernel
theorem dX7_readToken_166 : decode cX7_readToken 166 = .ok (.goto 4, 3) := by decide +kernel
theorem dX7_readToken_169 : decode cX7_readToken 169 = .ok (.iconst 5, 1) := by decide +kernel
theorem dX7_readToken_170 : decode cX7_readToken 170 = .ok (.putfield 35, 3) := by decide +kernel
theorem dX7_readToken_173 : decode cX7_readToken 173 = .ok (.goto 8, 3) := by decide +kernel
theorem dX7_readToken_176 : decode cX7_readToken 176 = .ok (.aload_n 0, 1) := by decide +kernel
theorem dX7_readToken_177 : decode cX7_readToken 177 = .ok (.iconst 5, 1) := by decide +kernel
theorem dX7_readToken_178 : decode cX7_readToken 178 = .ok (.putfield 35, 3) := by decide +kernel
theorem dX7_readToken_181 : decode cX7_readToken 181 = .ok (.return_, 1) := by decide +kernel
def bX7_readToken : ol_SE := es_seq (es_wh (ec_and (ec_2 ol_lt (ei_f 7 3 (er_v 0)) (ei_f 7 2 (er_v 0))) (ec_2 ol_eq (ei_a 100 (er_f 7 0 (er_v 0)) (ei_f 7 3 (er_v 0))) (ei_c 32))) (es_uf 7 3 (er_v 0) ol_add (ei_c 1))) (es_seq (es_pf 7 4 (er_v 0) (ei_f 7 3 (er_v 0))) (es_seq (es_if (ec_2 ol_ge (ei_f 7 3 (er_v 0)) (ei_f 7 2 (er_v 0))) (es_pf 7 5 (er_v 0) (ei_c 0)) (es_if (ec_2 ol_eq (ei_a 100 (er_f 7 0 (er_v 0)) (ei_f 7 3 (er_v 0))) (ei_c 59)) (es_seq (es_uf 7 3 (er_v 0) ol_add (ei_c 1)) (es_pf 7 5 (er_v 0) (ei_c 4))) (es_if (ec_z ol_ne (ei_of (ea_cs fX7_isFigure (ea_i (ei_a 100 (er_f 7 0 (er_v 0)) (ei_f 7 3 (er_v 0))) (ea_0))))) (es_pf 7 5 (er_v 0) (ei_of (ea_cv 7 fX7_readFigures (ea_r (er_v 0) (ea_0))))) (es_if (ec_z ol_ne (ei_of (ea_cs fX7_isLetter (ea_i (ei_a 100 (er_f 7 0 (er_v 0)) (ei_f 7 3 (er_v 0))) (ea_0))))) (es_seq (es_of (ea_cv 7 fX7_skipLetters (ea_r (er_v 0) (ea_0)))) (es_pf 7 5 (er_v 0) (ei_if (ec_z ol_ne (ei_of (ea_cv 7 fX7_wordIs (ea_r (er_v 0) (ea_r (er_s 0) (ea_0)))))) (ei_c 1) (ei_if (ec_z ol_ne (ei_of (ea_cv 7 fX7_wordIs (ea_r (er_v 0) (ea_r (er_s 1) (ea_0)))))) (ei_c 2) (ei_c 5))))) (es_pf 7 5 (er_v 0) (ei_c 5)))))) (es_retv)))
def fX7_readToken : ol_FE := ol_fe 1 bX7_readToken
set_option maxRecDepth 20000 in
theorem imX7_readToken (x : ol_X) (K : ol_K) : IM_S x K mX7_readToken 0 0 bX7_readToken := rs_seq (p2 := 38) (rs_wh (pH := 0) (pB := 25) (pE := 38) (pG := 35) (rc_and (p2 := 11) (pT := 25) (pF := 38) (rc_2F (pF := 38) ol_j2_ge_F (ri_f (rr_vn dX7_readToken_0 rfl) gfX7_29 dX7_readToken_1) (ri_f (rr_vn dX7_readToken_4 rfl) gfX7_22 dX7_readToken_5) dX7_readToken_8 (by decide)) (rc_2F (pF := 38) ol_j2_ne_F (ri_a (rr_f (rr_vn dX7_readToken_11 rfl) gfX7_9 dX7_readToken_12) (ri_f (rr_vn dX7_readToken_15 rfl) gfX7_29 dX7_readToken_16) rfl dX7_readToken_19) (ri_bi dX7_readToken_20 (by unfold ol_inR; omega) (by decide)) dX7_readToken_22 (by decide))) (rs_uf ol_op_add (rr_vn dX7_readToken_25 rfl) dX7_readToken_26 dX7_readToken_27 (ri_ic dX7_readToken_30 (by unfold ol_inR; omega)) dX7_readToken_31 gfX7_29 pfX7_29 rfl dX7_readToken_32) dX7_readToken_35 (by decide)) (rs_seq (p2 := 46) (rs_pf (rr_vn dX7_readToken_38 rfl) (ri_f (rr_vn dX7_readToken_39 rfl) gfX7_29 dX7_readToken_40) pfX7_38 rfl dX7_readToken_43) (rs_seq (p2 := 181) (rs_if (pT := 57) (pF := 65) (pE := 181) (rc_2F (pF := 65) ol_j2_lt_F (ri_f (rr_vn dX7_readToken_46 rfl) gfX7_29 dX7_readToken_47) (ri_f (rr_vn dX7_readToken_50 rfl) gfX7_22 dX7_readToken_51) dX7_readToken_54 (by decide)) (rs_goto (p3 := 181) (rs_pf (rr_vn dX7_readToken_57 rfl) (ri_ic dX7_readToken_58 (by unfold ol_inR; omega)) pfX7_35 rfl dX7_readToken_59) dX7_readToken_62 (by decide)) (rs_if (pT := 79) (pF := 97) (pE := 181) (rc_2F (pF := 97) ol_j2_ne_F (ri_a (rr_f (rr_vn dX7_readToken_65 rfl) gfX7_9 dX7_readToken_66) (ri_f (rr_vn dX7_readToken_69 rfl) gfX7_29 dX7_readToken_70) rfl dX7_readToken_73) (ri_bi dX7_readToken_74 (by unfold ol_inR; omega) (by decide)) dX7_readToken_76 (by decide)) (rs_goto (p3 := 181) (rs_seq (p2 := 89) (rs_uf ol_op_add (rr_vn dX7_readToken_79 rfl) dX7_readToken_80 dX7_readToken_81 (ri_ic dX7_readToken_84 (by unfold ol_inR; omega)) dX7_readToken_85 gfX7_29 pfX7_29 rfl dX7_readToken_86) (rs_pf (rr_vn dX7_readToken_89 rfl) (ri_ic dX7_readToken_90 (by unfold ol_inR; omega)) pfX7_35 rfl dX7_readToken_91)) dX7_readToken_94 (by decide)) (rs_if (pT := 112) (pF := 123) (pE := 181) (rc_zF (pF := 123) ol_j1_eq_F (ri_k (rk_s (Mc := mX7_isFigure) (conX7_isFigure _ K) (ra_i (ri_a (rr_f (rr_vn dX7_readToken_97 rfl) gfX7_9 dX7_readToken_98) (ri_f (rr_vn dX7_readToken_101 rfl) gfX7_29 dX7_readToken_102) rfl dX7_readToken_105) (ra_0)) dX7_readToken_106 cwX7_59 tw_428 ⟨rfl, rfl, Nat.le_of_ble_eq_true rfl⟩ (by decide) (by decide) (al_i al_0)) (Or.inr (Or.inl rfl))) dX7_readToken_109 (by decide)) (rs_goto (p3 := 181) (rs_pf (rr_vn dX7_readToken_112 rfl) (ri_k (rk_v (Mc := mX7_readFigures) (conX7_readFigures _ K) (ra_r (rr_vn dX7_readToken_113 rfl) (ra_0)) dX7_readToken_114 cwX7_63 tw_432 tw_1 (by decide) rfl rfl ⟨rfl, rfl, Nat.le_of_ble_eq_true rfl⟩ (by decide) (by decide) (al_r al_0)) (Or.inl rfl)) pfX7_35 rfl dX7_readToken_117) dX7_readToken_120 (by decide)) (rs_if (pT := 138) (pF := 176) (pE := 181) (rc_zF (pF := 176) ol_j1_eq_F (ri_k (rk_s (Mc := mX7_isLetter) (conX7_isLetter _ K) (ra_i (ri_a (rr_f (rr_vn dX7_readToken_123 rfl) gfX7_9 dX7_readToken_124) (ri_f (rr_vn dX7_readToken_127 rfl) gfX7_29 dX7_readToken_128) rfl dX7_readToken_131) (ra_0)) dX7_readToken_132 cwX7_67 tw_435 ⟨rfl, rfl, Nat.le_of_ble_eq_true rfl⟩ (by decide) (by decide) (al_i al_0)) (Or.inr (Or.inl rfl))) dX7_readToken_135 (by decide)) (rs_goto (p3 := 181) (rs_seq (p2 := 142) (rs_k (rk_v (Mc := mX7_skipLetters) (conX7_skipLetters _ K) (ra_r (rr_vn dX7_readToken_138 rfl) (ra_0)) dX7_readToken_139 cwX7_70 tw_439 tw_2 (by decide) rfl rfl ⟨rfl, rfl, Nat.le_of_ble_eq_true rfl⟩ (by decide) (by decide) (al_r al_0))) (rs_pf (rr_vn dX7_readToken_142 rfl) (ri_if (pT := 152) (pF := 156) (p3 := 170) (rc_zF (pF := 156) ol_j1_eq_F (ri_k (rk_v (Mc := mX7_wordIs) (conX7_wordIs _ K) (ra_r (rr_vn dX7_readToken_143 rfl) (ra_r (rr_s (by decide) dX7_readToken_144 (fun _ h => h.1.1)) (ra_0))) dX7_readToken_146 cwX7_75 tw_444 tw_3 (by decide) rfl rfl ⟨rfl, rfl, Nat.le_of_ble_eq_true rfl⟩ (by decide) (by decide) (al_r (al_r al_0))) (Or.inr (Or.inl rfl))) dX7_readToken_149 (by decide)) (ri_ic dX7_readToken_152 (by unfold ol_inR; omega)) dX7_readToken_153 (by decide) (ri_if (pT := 165) (pF := 169) (p3 := 170) (rc_zF (pF := 169) ol_j1_eq_F (ri_k (rk_v (Mc := mX7_wordIs) (conX7_wordIs _ K) (ra_r (rr_vn dX7_readToken_156 rfl) (ra_r (rr_s (by decide) dX7_readToken_157 (fun _ h => h.1.2)) (ra_0))) dX7_readToken_159 cwX7_75 tw_444 tw_3 (by decide) rfl rfl ⟨rfl, rfl, Nat.le_of_ble_eq_true rfl⟩ (by decide) (by decide) (al_r (al_r al_0))) (Or.inr (Or.inl rfl))) dX7_readToken_162 (by decide)) (ri_ic dX7_readToken_165 (by unfold ol_inR; omega)) dX7_readToken_166 (by decide) (ri_ic dX7_readToken_169 (by unfold ol_inR; omega)))) pfX7_35 rfl dX7_readToken_170)) dX7_readToken_173 (by decide)) (rs_pf (rr_vn dX7_readToken_176 rfl) (ri_ic dX7_readToken_177 (by unfold ol_inR; omega)) pfX7_35 rfl dX7_readToken_178))))) (rs_retv rfl dX7_readToken_181)))
theorem conX7_readToken (l : Launch) (K : ol_K) : ol_Con l K yX7_readToken mX7_readToken fX7_readToken := ol_con (M := mX7_readToken) (by decide) rfl rfl (imX7_readToken · K)
theorem dX10_best_0 : decode cX10_best 0 = .ok (.iload_n 1, 1) := by decide +kernel
theorem dX10_best_1 : decode cX10_best 1 = .ok (.iconst 0, 1) := by decide +kernel
theorem dX10_best_2 : decode cX10_best 2 = .ok (.iconst 3, 1) := by decide +kernel
theorem dX10_best_3 : decode cX10_best 3 = .ok (.invokestatic 98, 3) := by decide +kernel
theorem dX10_best_6 : decode cX10_best 6 = .ok (.ifCond .ne 23, 3) := by decide +kernel
theorem dX10_best_9 : decode cX10_best 9 = .ok (.iload_n 2, 1) := by decide +kernel
theorem dX10_best_10 : decode cX10_best 10 = .ok (.bipush (-30), 2) := by decide +kernel
theorem dX10_best_12 : decode cX10_best 12 = .ok (.bipush 30, 2) := by decide +kernel
theorem dX10_best_14 : decode cX10_best 14 = .ok (.invokestatic 98, 3) := by decide +kernel
theorem dX10_best_17 : decode cX10_best 17 = .ok (.ifCond .ne 12, 3) := by decide +kernel
theorem dX10_best_20 : decode cX10_best 20 = .ok (.iload_n 3, 1) := by decide +kernel
theorem dX10_best_21 : decode cX10_best 21 = .ok (.iconst 0, 1) := by decide +kernel
theorem dX10_best_22 : decode cX10_best 22 = .ok (.iconst 3, 1) := by decide +kernel
theorem dX10_best_23 : decode cX10_best 23 = .ok (.invokestatic 98, 3) := by decide +kernel
theorem dX10_best_26 : decode cX10_best 26 = .ok (.ifCond .eq 6, 3) := by decide +kernel
theorem dX10_best_29 : decode cX10_best 29 = .ok (.ldc 165, 2) := by decide +kernel
theorem dX10_best_31 : decode cX10_best 31 = .ok (.ireturn, 1) := by decide +kernel
theorem dX10_best_32 : decode cX10_best 32 = .ok (.aload_n 0, 1) := by decide +kernel
theorem dX10_best_33 : decode cX10_best 33 = .ok (.getfield 73, 3) := by decide +kernel
theorem dX10_best_36 : decode cX10_best 36 = .ok (.aload_n 0, 1) := by decide +kernel
theorem dX10_best_37 : decode cX10_best 37 = .ok (.getfield 31, 3) := by decide +kernel
theorem dX10_best_40 : decode cX10_best 40 = .ok (.getfield 121, 3) := by decide +kernel
theorem dX10_best_43 : decode cX10_best 43 = .ok (.iload_n 1, 1) := by decide +kernel
theorem dX10_best_44 : decode cX10_best 44 = .ok (.iload_n 2, 1) := by decide +kernel
theorem dX10_best_45 : decode cX10_best 45 = .ok (.aload_n 0, 1) := by decide +kernel
theorem dX10_best_46 : decode cX10_best 46 = .ok (.getfield 24, 3) := by decide +kernel
theorem dX10_best_49 : decode cX10_best 49 = .ok (.invokevirtual 222, 3) := by decide +kernel
theorem dX10_best_52 : decode cX10_best 52 = .ok (.iload_n 3, 1) := by decide +kernel
theorem dX10_best_53 : decode cX10_best 53 = .ok (.tableswitch 51 0 2 #[27, 35, 43], 27) := by decide +kernel
theorem dX10_best_80 : decode cX10_best 80 = .ok (.aload_n 0, 1) := by decide +kernel
theorem dX10_best_81 : decode cX10_best 81 = .ok (.getfield 73, 3) := by decide +kernel
theorem dX10_best_84 : decode cX10_best 84 = .ok (.getfield 226, 3) := by decide +kernel
theorem dX10_best_87 : decode cX10_best 87 = .ok (.ireturn, 1) := by decide +kernel
theorem dX10_best_88 : decode cX10_best 88 = .ok (.aload_n 0, 1) := by decide +kernel
theorem dX10_best_89 : decode cX10_best 89 = .ok (.getfield 73, 3) := by decide +kernel
theorem dX10_best_92 : decode cX10_best 92 = .ok (.getfield 229, 3) := by decide +kernel
theorem dX10_best_95 : decode cX10_best 95 = .ok (.ireturn, 1) := by decide +kernel
theorem dX10_best_96 : decode cX10_best 96 = .ok (.aload_n 0, 1) := by decide +kernel
theorem dX10_best_97 : decode cX10_best 97 = .ok (.getfield 73, 3) := by decide +kernel
theorem dX10_best_100 : decode cX10_best 100 = .ok (.getfield 232, 3) := by decide +kernel
theorem dX10_best_103 : decode cX10_best 103 = .ok (.ireturn, 1) := by decide +kernel
theorem dX10_best_104 : decode cX10_best 104 = .ok (.aload_n 0, 1) := by decide +kernel
theorem dX10_best_105 : decode cX10_best 105 = .ok (.getfield 73, 3) := by decide +kernel
theorem dX10_best_108 : decode cX10_best 108 = .ok (.getfield 235, 3) := by decide +kernel
theorem dX10_best_111 : decode cX10_best 111 = .ok (.ireturn, 1) := by decide +kernel
def bX10_best : ol_SE := es_seq (es_if (ec_or (ec_or (ec_z ol_ne (ei_of (ea_cs fX10_outside (ea_i (ei_v 1) (ea_i (ei_c 0) (ea_i (ei_c 3) (ea_0))))))) (ec_z ol_ne (ei_of (ea_cs fX10_outside (ea_i (ei_v 2) (ea_i (ei_c (-30)) (ea_i (ei_c 30) (ea_0)))))))) (ec_z ol_ne (ei_of (ea_cs fX10_outside (ea_i (ei_v 3) (ea_i (ei_c 0) (ea_i (ei_c 3) (ea_0)))))))) (es_ret (ei_c (-1000000))) es_skip) (es_seq (es_of (ea_cv 8 fX8_seekBest (ea_r (er_f 10 11 (er_v 0)) (ea_r (er_f 2 0 (er_f 10 3 (er_v 0))) (ea_i (ei_v 1) (ea_i (ei_v 2) (ea_r (er_f 10 2 (er_v 0)) (ea_0)))))))) (es_sw (ei_v 3) 0 [es_ret (ei_f 8 4 (er_f 10 11 (er_v 0))), es_ret (ei_f 8 5 (er_f 10 11 (er_v 0))), es_ret (ei_f 8 6 (er_f 10 11 (er_v 0)))] (es_ret (ei_f 8 7 (er_f 10 11 (er_v 0))))))
def fX10_best : ol_FE := ol_fe 4 bX10_best
set_option maxRecDepth 20000 in
theorem imX10_best (x : ol_X) (K : ol_K) : IM_S x K mX10_best 0 0 bX10_best := rs_seq (p2 := 32) (rs_if (pT := 29) (pF := 32) (pE := 32) (rc_or (p2 := 20) (pT := 29) (pF := 32) (rc_or (p2 := 9) (pT := 29) (pF := 20) (rc_zT (pT := 29) ol_j1_ne_T (ri_k (rk_s (Mc := mX10_outside) (conX10_outside _ K) (ra_i (ri_vn dX10_best_0 rfl) (ra_i (ri_ic dX10_best_1 (by unfold ol_inR; omega)) (ra_i (ri_ic dX10_best_2 (by unfold ol_inR; omega)) (ra_0)))) dX10_best_3 cwX10_98 tw_417 ⟨rfl, rfl, Nat.le_of_ble_eq_true rfl⟩ (by decide) (by decide) (al_i (al_i (al_i al_0)))) (Or.inr (Or.inl rfl))) dX10_best_6 (by decide)) (rc_zT (pT := 29) ol_j1_ne_T (ri_k (rk_s (Mc := mX10_outside) (conX10_outside _ K) (ra_i (ri_vn dX10_best_9 rfl) (ra_i (ri_bi dX10_best_10 (by unfold ol_inR; omega) (by decide)) (ra_i (ri_bi dX10_best_12 (by unfold ol_inR; omega) (by decide)) (ra_0)))) dX10_best_14 cwX10_98 tw_417 ⟨rfl, rfl, Nat.le_of_ble_eq_true rfl⟩ (by decide) (by decide) (al_i (al_i (al_i al_0)))) (Or.inr (Or.inl rfl))) dX10_best_17 (by decide))) (rc_zF (pF := 32) ol_j1_eq_F (ri_k (rk_s (Mc := mX10_outside) (conX10_outside _ K) (ra_i (ri_vn dX10_best_20 rfl) (ra_i (ri_ic dX10_best_21 (by unfold ol_inR; omega)) (ra_i (ri_ic dX10_best_22 (by unfold ol_inR; omega)) (ra_0)))) dX10_best_23 cwX10_98 tw_417 ⟨rfl, rfl, Nat.le_of_ble_eq_true rfl⟩ (by decide) (by decide) (al_i (al_i (al_i al_0)))) (Or.inr (Or.inl rfl))) dX10_best_26 (by decide))) (rs_ret (ri_ldc dX10_best_29 (by unfold ol_inR; omega) tw_615) rfl dX10_best_31) rs_skip) (rs_seq (p2 := 52) (rs_k (rk_v (Mc := mX8_seekBest) (conX8_seekBest _ K) (ra_r (rr_f (rr_vn dX10_best_32 rfl) gfX10_73 dX10_best_33) (ra_r (rr_f (rr_f (rr_vn dX10_best_36 rfl) gfX10_31 dX10_best_37) gfX10_121 dX10_best_40) (ra_i (ri_vn dX10_best_43 rfl) (ra_i (ri_vn dX10_best_44 rfl) (ra_r (rr_f (rr_vn dX10_best_45 rfl) gfX10_24 dX10_best_46) (ra_0)))))) dX10_best_49 cwX10_222 tw_679 tw_680 (by decide) rfl rfl ⟨rfl, rfl, Nat.le_of_ble_eq_true rfl⟩ (by decide) (by decide) (al_r (al_r (al_i (al_i (al_r al_0))))))) (rs_sw (pE := 0) (pD := 104) (ri_vn dX10_best_52 rfl) dX10_best_53 rfl ⟨⟨_, 80, rfl, by decide, rs_ret (ri_f (rr_f (rr_vn dX10_best_80 rfl) gfX10_73 dX10_best_81) gfX10_226 dX10_best_84) rfl dX10_best_87⟩, ⟨_, 88, rfl, by decide, rs_ret (ri_f (rr_f (rr_vn dX10_best_88 rfl) gfX10_73 dX10_best_89) gfX10_229 dX10_best_92) rfl dX10_best_95⟩, ⟨_, 96, rfl, by decide, rs_ret (ri_f (rr_f (rr_vn dX10_best_96 rfl) gfX10_73 dX10_best_97) gfX10_232 dX10_best_100) rfl dX10_best_103⟩, trivial⟩ (by decide) (rs_ret (ri_f (rr_f (rr_vn dX10_best_104 rfl) gfX10_73 dX10_best_105) gfX10_235 dX10_best_108) rfl dX10_best_111)))
theorem conX10_best (l : Launch) (K : ol_K) : ol_Con l K yX10_best mX10_best fX10_best := ol_con (M := mX10_best) (by decide) rfl rfl (imX10_best · K)
theorem dX10_would_0 : decode cX10_would 0 = .ok (.iload_n 1, 1) := by decide +kernel
theorem dX10_would_1 : decode cX10_would 1 = .ok (.iconst 1, 1) := by decide +kernel
theorem dX10_would_2 : decode cX10_would 2 = .ok (.bipush 20, 2) := by decide +kernel
theorem dX10_would_4 : decode cX10_would 4 = .ok (.invokestatic 98, 3) := by decide +kernel
theorem dX10_would_7 : decode cX10_would 7 = .ok (.ifCond .ne 20, 3) := by decide +kernel
theorem dX10_would_10 : decode cX10_would 10 = .ok (.iload_n 2, 1) := by decide +kernel
theorem dX10_would_11 : decode cX10_would 11 = .ok (.iconst (-1), 1) := by decide +kernel
theorem dX10_would_12 : decode cX10_would 12 = .ok (.aload_n 0, 1) := by decide +kernel
theorem dX10_would_13 : decode cX10_would 13 = .ok (.getfield 31, 3) := by decide +kernel
theorem dX10_would_16 : decode cX10_would 16 = .ok (.getfield 238, 3) := by decide +kernel
theorem dX10_would_19 : decode cX10_would 19 = .ok (.iconst 1, 1) := by decide +kernel
theorem dX10_would_20 : decode cX10_would 20 = .ok (.isub, 1) := by decide +kernel
theorem dX10_would_21 : decode cX10_would 21 = .ok (.invokestatic 98, 3) := by decide +kernel
theorem dX10_would_24 : decode cX10_would 24 = .ok (.ifCond .eq 5, 3) := by decide +kernel
theorem dX10_would_27 : decode cX10_would 27 = .ok (.iconst (-1), 1) := by decide +kernel
theorem dX10_would_28 : decode cX10_would 28 = .ok (.ireturn, 1) := by decide +kernel
theorem dX10_would_29 : decode cX10_would 29 = .ok (.aload_n 0, 1) := by decide +kernel
theorem dX10_would_30 : decode cX10_would 30 = .ok (.invokevirtual 267, 3) := by decide +kernel
theorem dX10_would_33 : decode cX10_would 33 = .ok (.aload_n 0, 1) := by decide +kernel
theorem dX10_would_34 : decode cX10_would 34 = .ok (.iload_n 1, 1) := by decide +kernel
theorem dX10_would_35 : decode cX10_would 35 = .ok (.invokevirtual 274, 3) := by decide +kernel
theorem dX10_would_38 : decode cX10_would 38 = .ok (.istore_n 3, 1) := by decide +kernel
theorem dX10_would_39 : decode cX10_would 39 = .ok (.iload_n 2, 1) := by decide +kernel
theorem dX10_would_40 : decode cX10_would 40 = .ok (.iconst (-1), 1) := by decide +kernel
theorem dX10_would_41 : decode cX10_would 41 = .ok (.if_icmp .ne 7, 3) := by decide +kernel
theorem dX10_would_44 : decode cX10_would 44 = .ok (.iload_n 3, 1) := by decide +kernel
theorem dX10_would_45 : decode cX10_would 45 = .ok (.goto 9, 3) := by decide +kernel
theorem dX10_would_48 : decode cX10_would 48 = .ok (.aload_n 0, 1) := by decide +kernel
theorem dX10_would_49 : decode cX10_would 49 = .ok (.getfield 84, 3) := by decide +kernel
theorem dX10_would_52 : decode cX10_would 52 = .ok (.iload_n 2, 1) := by decide +kernel
theorem dX10_would_53 : decode cX10_would 53 = .ok (.iaload, 1) := by decide +kernel
theorem dX10_would_54 : decode cX10_would 54 = .ok (.ireturn, 1) := by decide +kernel
def bX10_would : ol_SE := es_seq (es_if (ec_or (ec_z ol_ne (ei_of (ea_cs fX10_outside (ea_i (ei_v 1) (ea_i (ei_c 1) (ea_i (ei_c 20) (ea_0))))))) (ec_z ol_ne (ei_of (ea_cs fX10_outside (ea_i (ei_v 2) (ea_i (ei_c (-1)) (ea_i (ei_2 ol_sub (ei_f 2 2 (er_f 10 3 (er_v 0))) (ei_c 1)) (ea_0)))))))) (es_ret (ei_c (-1))) es_skip) (es_seq (es_of (ea_cv 10 fX10_takeFirstOrder (ea_r (er_v 0) (ea_0)))) (es_seq (es_set 3 (ei_of (ea_cv 10 fX10_tryRounds (ea_r (er_v 0) (ea_i (ei_v 1) (ea_0)))))) (es_ret (ei_if (ec_2 ol_eq (ei_v 2) (ei_c (-1))) (ei_v 3) (ei_a 100 (er_f 10 14 (er_v 0)) (ei_v 2))))))
def fX10_would : ol_FE := ol_fe 4 bX10_would
set_option maxRecDepth 20000 in
theorem imX10_would (x : ol_X) (K : ol_K) : IM_S x K mX10_would 0 0 bX10_would := rs_seq (p2 := 29) (rs_if (pT := 27) (pF := 29) (pE := 29) (rc_or (p2 := 10) (pT := 27) (pF := 29) (rc_zT (pT := 27) ol_j1_ne_T (ri_k (rk_s (Mc := mX10_outside) (conX10_outside _ K) (ra_i (ri_vn dX10_would_0 rfl) (ra_i (ri_ic dX10_would_1 (by unfold ol_inR; omega)) (ra_i (ri_bi dX10_would_2 (by unfold ol_inR; omega) (by decide)) (ra_0)))) dX10_would_4 cwX10_98 tw_417 ⟨rfl, rfl, Nat.le_of_ble_eq_true rfl⟩ (by decide) (by decide) (al_i (al_i (al_i al_0)))) (Or.inr (Or.inl rfl))) dX10_would_7 (by decide)) (rc_zF (pF := 29) ol_j1_eq_F (ri_k (rk_s (Mc := mX10_outside) (conX10_outside _ K) (ra_i (ri_vn dX10_would_10 rfl) (ra_i (ri_ic dX10_would_11 (by unfold ol_inR; omega)) (ra_i (ri_2 ol_op_sub (ri_f (rr_f (rr_vn dX10_would_12 rfl) gfX10_31 dX10_would_13) gfX10_238 dX10_would_16) (ri_ic dX10_would_19 (by unfold ol_inR; omega)) dX10_would_20) (ra_0)))) dX10_would_21 cwX10_98 tw_417 ⟨rfl, rfl, Nat.le_of_ble_eq_true rfl⟩ (by decide) (by decide) (al_i (al_i (al_i al_0)))) (Or.inr (Or.inl rfl))) dX10_would_24 (by decide))) (rs_ret (ri_ic dX10_would_27 (by unfold ol_inR; omega)) rfl dX10_would_28) rs_skip) (rs_seq (p2 := 33) (rs_k (rk_v (Mc := mX10_takeFirstOrder) (conX10_takeFirstOrder _ K) (ra_r (rr_vn dX10_would_29 rfl) (ra_0)) dX10_would_30 cwX10_267 tw_712 tw_16 (by decide) rfl rfl ⟨rfl, rfl, Nat.le_of_ble_eq_true rfl⟩ (by decide) (by decide) (al_r al_0))) (rs_seq (p2 := 39) (rs_setn (ri_k (rk_v (Mc := mX10_tryRounds) (conX10_tryRounds _ K) (ra_r (rr_vn dX10_would_33 rfl) (ra_i (ri_vn dX10_would_34 rfl) (ra_0))) dX10_would_35 cwX10_274 tw_739 tw_18 (by decide) rfl rfl ⟨rfl, rfl, Nat.le_of_ble_eq_true rfl⟩ (by decide) (by decide) (al_r (al_i al_0))) (Or.inl rfl)) dX10_would_38 rfl (ol_ltn rfl)) (rs_ret (ri_if (pT := 44) (pF := 48) (p3 := 54) (rc_2F (pF := 48) ol_j2_ne_F (ri_vn dX10_would_39 rfl) (ri_ic dX10_would_40 (by unfold ol_inR; omega)) dX10_would_41 (by decide)) (ri_vn dX10_would_44 rfl) dX10_would_45 (by decide) (ri_a (rr_f (rr_vn dX10_would_48 rfl) gfX10_84 dX10_would_49) (ri_vn dX10_would_52 rfl) rfl dX10_would_53)) rfl dX10_would_54)))
theorem conX10_would (l : Launch) (K : ol_K) : ol_Con l K yX10_would mX10_would fX10_would := ol_con (M := mX10_would) (by decide) rfl rfl (imX10_would · K)
theorem dX10_order_0 : decode cX10_order 0 = .ok (.iload_n 1, 1) := by decide +kernel
theorem dX10_order_1 : decode cX10_order 1 = .ok (.iconst 1, 1) := by decide +kernel
theorem dX10_order_2 : decode cX10_order 2 = .ok (.bipush 20, 2) := by decide +kernel
theorem dX10_order_4 : decode cX10_order 4 = .ok (.invokestatic 98, 3) := by decide +kernel
theorem dX10_order_7 : decode cX10_order 7 = .ok (.ifCond .ne 12, 3) := by decide +kernel
theorem dX10_order_10 : decode cX10_order 10 = .ok (.iload_n 2, 1) := by decide +kernel
theorem dX10_order_11 : decode cX10_order 11 = .ok (.iconst 0, 1) := by decide +kernel
theorem dX10_order_12 : decode cX10_order 12 = .ok (.iconst 1, 1) := by decide +kernel
theorem dX10_order_13 : decode cX10_order 13 = .ok (.invokestatic 98, 3) := by decide +kernel
theorem dX10_order_16 : decode cX10_order 16 = .ok (.ifCond .eq 5, 3) := by decide +kernel
theorem dX10_order_19 : decode cX10_order 19 = .ok (.iconst (-1), 1) := by decide +kernel
theorem dX10_order_20 : decode cX10_order 20 = .ok (.ireturn, 1) := by decide +kernel
theorem dX10_order_21 : decode cX10_order 21 = .ok (.iconst (-1), 1) := by decide +kernel
theorem dX10_order_22 : decode cX10_order 22 = .ok (.istore_n 3, 1) := by decide +kernel
theorem dX10_order_23 : decode cX10_order 23 = .ok (.iconst 0, 1) := by decide +kernel
theorem dX10_order_24 : decode cX10_order 24 = .ok (.istore 4, 2) := by decide +kernel
theorem dX10_order_26 : decode cX10_order 26 = .ok (.aload_n 0, 1) := by decide +kernel
theorem dX10_order_27 : decode cX10_order 27 = .ok (.invokevirtual 267, 3) := by decide +kernel
theorem dX10_order_30 : decode cX10_order 30 = .ok (.iconst 1, 1) := by decide +kernel
theorem dX10_order_31 : decode cX10_order 31 = .ok (.istore 5, 2) := by decide +kernel
theorem dX10_order_33 : decode cX10_order 33 = .ok (.iconst 0, 1) := by decide +kernel
theorem dX10_order_34 : decode cX10_order 34 = .ok (.istore 6, 2) := by decide +kernel
theorem dX10_order_36 : decode cX10_order 36 = .ok (.iload 6, 2) := by decide +kernel
theorem dX10_order_38 : decode cX10_order 38 = .ok (.bipush 24, 2) := by decide +kernel
theorem dX10_order_40 : decode cX10_order 40 = .ok (.if_icmp .ge 42, 3) := by decide +kernel
theorem dX10_order_43 : decode cX10_order 43 = .ok (.iload 5, 2) := by decide +kernel
theorem dX10_order_45 : decode cX10_order 45 = .ok (.ifCond .eq 37, 3) := by decide +kernel
theorem dX10_order_48 : decode cX10_order 48 = .ok (.aload_n 0, 1) := by decide +kernel
theorem dX10_order_49 : decode cX10_order 49 = .ok (.iload_n 1, 1) := by decide +kernel
theorem dX10_order_50 : decode cX10_order 50 = .ok (.invokevirtual 274, 3) := by decide +kernel
theorem dX10_order_53 : decode cX10_order 53 = .ok (.istore 7, 2) := by decide +kernel
theorem dX10_order_55 : decode cX10_order 55 = .ok (.iload 7, 2) := by decide +kernel
theorem dX10_order_57 : decode cX10_order 57 = .ok (.iload_n 3, 1) := by decide +kernel
theorem dX10_order_58 : decode cX10_order 58 = .ok (.if_icmp .le 12, 3) := by decide +kernel
theorem dX10_order_61 : decode cX10_order 61 = .ok (.iload 7, 2) := by decide +kernel
theorem dX10_order_63 : decode cX10_order 63 = .ok (.istore_n 3, 1) := by decide +kernel
theorem dX10_order_64 : decode cX10_order 64 = .ok (.aload_n 0, 1) := by decide +kernel
theorem dX10_order_65 : decode cX10_order 65 = .ok (.invokevirtual 278, 3) := by decide +kernel
theorem dX10_order_68 : decode cX10_order 68 = .ok (.istore 4, 2) := by decide +kernel
theorem dX10_order_70 : decode cX10_order 70 = .ok (.aload_n 0, 1) := by decide +kernel
theorem dX10_order_71 : decode cX10_order 71 = .ok (.invokevirtual 281, 3) := by decide +kernel
theorem dX10_order_74 : decode cX10_order 74 = .ok (.istore 5, 2) := by decide +kernel
theorem dX10_order_76 : decode cX10_order 76 = .ok (.iinc 6 1, 3) := by decide +kernel
theorem dX10_order_79 : decode cX10_order 79 = .ok (.goto (-43), 3) := by decide +kernel
theorem dX10_order_82 : decode cX10_order 82 = .ok (.iload_n 2, 1) := by decide +kernel
theorem dX10_order_83 : decode cX10_order 83 = .ok (.ifCond .ne 7, 3) := by decide +kernel
theorem dX10_order_86 : decode cX10_order 86 = .ok (.iload_n 3, 1) := by decide +kernel
theorem dX10_order_87 : decode cX10_order 87 = .ok (.goto 5, 3) := by decide +kernel
theorem dX10_order_90 : decode cX10_order 90 = .ok (.iload 4, 2) := by decide +kernel
theorem dX10_order_92 : decode cX10_order 92 = .ok (.ireturn, 1) := by decide +kernel
def bX10_order : ol_SE := es_seq (es_if (ec_or (ec_z ol_ne (ei_of (ea_cs fX10_outside (ea_i (ei_v 1) (ea_i (ei_c 1) (ea_i (ei_c 20) (ea_0))))))) (ec_z ol_ne (ei_of (ea_cs fX10_outside (ea_i (ei_v 2) (ea_i (ei_c 0) (ea_i (ei_c 1) (ea_0)))))))) (es_ret (ei_c (-1))) es_skip) (es_seq (es_set 3 (ei_c (-1))) (es_seq (es_set 4 (ei_c 0)) (es_seq (es_of (ea_cv 10 fX10_takeFirstOrder (ea_r (er_v 0) (ea_0)))) (es_seq (es_set 5 (ei_c 1)) (es_seq (es_seq (es_set 6 (ei_c 0)) (es_wh (ec_and (ec_2 ol_lt (ei_v 6) (ei_c 24)) (ec_z ol_ne (ei_v 5))) (es_seq (es_seq (es_set 7 (ei_of (ea_cv 10 fX10_tryRounds (ea_r (er_v 0) (ea_i (ei_v 1) (ea_0)))))) (es_seq (es_if (ec_2 ol_gt (ei_v 7) (ei_v 3)) (es_seq (es_set 3 (ei_v 7)) (es_set 4 (ei_of (ea_cv 10 fX10_orderAsFigures (ea_r (er_v 0) (ea_0)))))) es_skip) (es_set 5 (ei_of (ea_cv 10 fX10_takeNextOrder (ea_r (er_v 0) (ea_0))))))) (es_inc 6 1)))) (es_ret (ei_if (ec_z ol_eq (ei_v 2)) (ei_v 3) (ei_v 4))))))))
def fX10_order : ol_FE := ol_fe 8 bX10_order
set_option maxRecDepth 20000 in
theorem imX10_order (x : ol_X) (K : ol_K) : IM_S x K mX10_order 0 0 bX10_order := rs_seq (p2 := 21) (rs_if (pT := 19) (pF := 21) (pE := 21) (rc_or (p2 := 10) (pT := 19) (pF := 21) (rc_zT (pT := 19) ol_j1_ne_T (ri_k (rk_s (Mc := mX10_outside) (conX10_outside _ K) (ra_i (ri_vn dX10_order_0 rfl) (ra_i (ri_ic dX10_order_1 (by unfold ol_inR; omega)) (ra_i (ri_bi dX10_order_2 (by unfold ol_inR; omega) (by decide)) (ra_0)))) dX10_order_4 cwX10_98 tw_417 ⟨rfl, rfl, Nat.le_of_ble_eq_true rfl⟩ (by decide) (by decide) (al_i (al_i (al_i al_0)))) (Or.inr (Or.inl rfl))) dX10_order_7 (by decide)) (rc_zF (pF := 21) ol_j1_eq_F (ri_k (rk_s (Mc := mX10_outside) (conX10_outside _ K) (ra_i (ri_vn dX10_order_10 rfl) (ra_i (ri_ic dX10_order_11 (by unfold ol_inR; omega)) (ra_i (ri_ic dX10_order_12 (by unfold ol_inR; omega)) (ra_0)))) dX10_order_13 cwX10_98 tw_417 ⟨rfl, rfl, Nat.le_of_ble_eq_true rfl⟩ (by decide) (by decide) (al_i (al_i (al_i al_0)))) (Or.inr (Or.inl rfl))) dX10_order_16 (by decide))) (rs_ret (ri_ic dX10_order_19 (by unfold ol_inR; omega)) rfl dX10_order_20) rs_skip) (rs_seq (p2 := 23) (rs_setn (ri_ic dX10_order_21 (by unfold ol_inR; omega)) dX10_order_22 rfl (ol_ltn rfl)) (rs_seq (p2 := 26) (rs_set (ri_ic dX10_order_23 (by unfold ol_inR; omega)) dX10_order_24 (ol_ltn rfl)) (rs_seq (p2 := 30) (rs_k (rk_v (Mc := mX10_takeFirstOrder) (conX10_takeFirstOrder _ K) (ra_r (rr_vn dX10_order_26 rfl) (ra_0)) dX10_order_27 cwX10_267 tw_712 tw_16 (by decide) rfl rfl ⟨rfl, rfl, Nat.le_of_ble_eq_true rfl⟩ (by decide) (by decide) (al_r al_0))) (rs_seq (p2 := 33) (rs_set (ri_ic dX10_order_30 (by unfold ol_inR; omega)) dX10_order_31 (ol_ltn rfl)) (rs_seq (p2 := 82) (rs_seq (p2 := 36) (rs_set (ri_ic dX10_order_33 (by unfold ol_inR; omega)) dX10_order_34 (ol_ltn rfl)) (rs_wh (pH := 36) (pB := 48) (pE := 82) (pG := 79) (rc_and (p2 := 43) (pT := 48) (pF := 82) (rc_2F (pF := 82) ol_j2_ge_F (ri_vi dX10_order_36) (ri_bi dX10_order_38 (by unfold ol_inR; omega) (by decide)) dX10_order_40 (by decide)) (rc_zF (pF := 82) ol_j1_eq_F (ri_vi dX10_order_43) dX10_order_45 (by decide))) (rs_seq (p2 := 76) (rs_seq (p2 := 55) (rs_set (ri_k (rk_v (Mc := mX10_tryRounds) (conX10_tryRounds _ K) (ra_r (rr_vn dX10_order_48 rfl) (ra_i (ri_vn dX10_order_49 rfl) (ra_0))) dX10_order_50 cwX10_274 tw_739 tw_18 (by decide) rfl rfl ⟨rfl, rfl, Nat.le_of_ble_eq_true rfl⟩ (by decide) (by decide) (al_r (al_i al_0))) (Or.inl rfl)) dX10_order_53 (ol_ltn rfl)) (rs_seq (p2 := 70) (rs_if (pT := 61) (pF := 70) (pE := 70) (rc_2F (pF := 70) ol_j2_le_F (ri_vi dX10_order_55) (ri_vn dX10_order_57 rfl) dX10_order_58 (by decide)) (rs_seq (p2 := 64) (rs_setn (ri_vi dX10_order_61) dX10_order_63 rfl (ol_ltn rfl)) (rs_set (ri_k (rk_v (Mc := mX10_orderAsFigures) (conX10_orderAsFigures _ K) (ra_r (rr_vn dX10_order_64 rfl) (ra_0)) dX10_order_65 cwX10_278 tw_761 tw_19 (by decide) rfl rfl ⟨rfl, rfl, Nat.le_of_ble_eq_true rfl⟩ (by decide) (by decide) (al_r al_0)) (Or.inl rfl)) dX10_order_68 (ol_ltn rfl))) rs_skip) (rs_set (ri_k (rk_v (Mc := mX10_takeNextOrder) (conX10_takeNextOrder _ K) (ra_r (rr_vn dX10_order_70 rfl) (ra_0)) dX10_order_71 cwX10_281 tw_765 tw_20 (by decide) rfl rfl ⟨rfl, rfl, Nat.le_of_ble_eq_true rfl⟩ (by decide) (by decide) (al_r al_0)) (Or.inr (Or.inl rfl))) dX10_order_74 (ol_ltn rfl)))) (rs_inc dX10_order_76 (ol_ltn rfl))) dX10_order_79 (by decide))) (rs_ret (ri_if (pT := 86) (pF := 90) (p3 := 92) (rc_zF (pF := 90) ol_j1_ne_F (ri_vn dX10_order_82 rfl) dX10_order_83 (by decide)) (ri_vn dX10_order_86 rfl) dX10_order_87 (by decide) (ri_vi dX10_order_90)) rfl dX10_order_92))))))
theorem conX10_order (l : Launch) (K : ol_K) : ol_Con l K yX10_order mX10_order fX10_order := ol_con (M := mX10_order) (by decide) rfl rfl (imX10_order · K)
theorem dX10_trunk_0 : decode cX10_trunk 0 = .ok (.iload_n 1, 1) := by decide +kernel
theorem dX10_trunk_1 : decode cX10_trunk 1 = .ok (.iconst 1, 1) := by decide +kernel
theorem dX10_trunk_2 : decode cX10_trunk 2 = .ok (.iconst 3, 1) := by decide +kernel
theorem dX10_trunk_3 : decode cX10_trunk 3 = .ok (.invokestatic 98, 3) := by decide +kernel
theorem dX10_trunk_6 : decode cX10_trunk 6 = .ok (.ifCond .ne 23, 3) := by decide +kernel
theorem dX10_trunk_9 : decode cX10_trunk 9 = .ok (.iload_n 2, 1) := by decide +kernel
theorem dX10_trunk_10 : decode cX10_trunk 10 = .ok (.bipush (-30), 2) := by decide +kernel
theorem dX10_trunk_12 : decode cX10_trunk 12 = .ok (.bipush 30, 2) := by decide +kernel
theorem dX10_trunk_14 : decode cX10_trunk 14 = .ok (.invokestatic 98, 3) := by decide +kernel
theorem dX10_trunk_17 : decode cX10_trunk 17 = .ok (.ifCond .ne 12, 3) := by decide +kernel
theorem dX10_trunk_20 : decode cX10_trunk 20 = .ok (.iload_n 3, 1) := by decide +kernel
theorem dX10_trunk_21 : decode cX10_trunk 21 = .ok (.iconst 0, 1) := by decide +kernel
theorem dX10_trunk_22 : decode cX10_trunk 22 = .ok (.iconst 1, 1) := by decide +kernel
theorem dX10_trunk_23 : decode cX10_trunk 23 = .ok (.invokestatic 98, 3) := by decide +kernel
theorem dX10_trunk_26 : decode cX10_trunk 26 = .ok (.ifCond .eq 5, 3) := by decide +kernel
theorem dX10_trunk_29 : decode cX10_trunk 29 = .ok (.iconst (-1), 1) := by decide +kernel
theorem dX10_trunk_30 : decode cX10_trunk 30 = .ok (.ireturn, 1) := by decide +kernel
theorem dX10_trunk_31 : decode cX10_trunk 31 = .ok (.iconst 0, 1) := by decide +kernel
theorem dX10_trunk_32 : decode cX10_trunk 32 = .ok (.istore 4, 2) := by decide +kernel
theorem dX10_trunk_34 : decode cX10_trunk 34 = .ok (.iload 4, 2) := by decide +kernel
theorem dX10_trunk_36 : decode cX10_trunk 36 = .ok (.iconst 4, 1) := by decide +kernel
theorem dX10_trunk_37 : decode cX10_trunk 37 = .ok (.if_icmp .ge 106, 3) := by decide +kernel
theorem dX10_trunk_40 : decode cX10_trunk 40 = .ok (.aload_n 0, 1) := by decide +kernel
theorem dX10_trunk_41 : decode cX10_trunk 41 = .ok (.getfield 18, 3) := by decide +kernel
theorem dX10_trunk_44 : decode cX10_trunk 44 = .ok (.iload 4, 2) := by decide +kernel
theorem dX10_trunk_46 : decode cX10_trunk 46 = .ok (.aaload, 1) := by decide +kernel
theorem dX10_trunk_47 : decode cX10_trunk 47 = .ok (.getfield 114, 3) := by decide +kernel
theorem dX10_trunk_50 : decode cX10_trunk 50 = .ok (.istore 5, 2) := by decide +kernel
theorem dX10_trunk_52 : decode cX10_trunk 52 = .ok (.iload 5, 2) := by decide +kernel
theorem dX10_trunk_54 : decode cX10_trunk 54 = .ok (.ifCond .eq 20, 3) := by decide +kernel
theorem dX10_trunk_57 : decode cX10_trunk 57 = .ok (.aload_n 0, 1) := by decide +kernel
theorem dX10_trunk_58 : decode cX10_trunk 58 = .ok (.getfield 18, 3) := by decide +kernel
theorem dX10_trunk_61 : decode cX10_trunk 61 = .ok (.iload 4, 2) := by decide +kernel
theorem dX10_trunk_63 : decode cX10_trunk 63 = .ok (.aaload, 1) := by decide +kernel
theorem dX10_trunk_64 : decode cX10_trunk 64 = .ok (.aload_n 0, 1) := by decide +kernel
theorem dX10_trunk_65 : decode cX10_trunk 65 = .ok (.getfield 35, 3) := by decide +kernel
theorem dX10_trunk_68 : decode cX10_trunk 68 = .ok (.getfield 121, 3) := by decide +kernel
theorem dX10_trunk_71 : decode cX10_trunk 71 = .ok (.invokevirtual 125, 3) := by decide +kernel
theorem dX10_trunk_74 : decode cX10_trunk 74 = .ok (.iconst 0, 1) := by decide +kernel
theorem dX10_trunk_75 : decode cX10_trunk 75 = .ok (.istore 6, 2) := by decide +kernel
theorem dX10_trunk_77 : decode cX10_trunk 77 = .ok (.iload 6, 2) := by decide +kernel
theorem dX10_trunk_79 : decode cX10_trunk 79 = .ok (.bipush 6, 2) := by decide +kernel
theorem dX10_trunk_81 : decode cX10_trunk 81 = .ok (.if_icmp .ge 56, 3) := by decide +kernel
theorem dX10_trunk_84 : decode cX10_trunk 84 = .ok (.aload_n 0, 1) := by decide +kernel
theorem dX10_trunk_85 : decode cX10_trunk 85 = .ok (.getfield 73, 3) := by decide +kernel
theorem dX10_trunk_88 : decode cX10_trunk 88 = .ok (.getfield 299, 3) := by decide +kernel
theorem dX10_trunk_91 : decode cX10_trunk 91 = .ok (.iload 4, 2) := by decide +kernel
theorem dX10_trunk_93 : decode cX10_trunk 93 = .ok (.bipush 6, 2) := by decide +kernel
theorem dX10_trunk_95 : decode cX10_trunk 95 = .ok (.imul, 1) := by decide +kernel
theorem dX10_trunk_96 : decode cX10_trunk 96 = .ok (.iload 6, 2) := by decide +kernel
theorem dX10_trunk_98 : decode cX10_trunk 98 = .ok (.iadd, 1) := by decide +kernel
theorem dX10_trunk_99 : decode cX10_trunk 99 = .ok (.iload 5, 2) := by decide +kernel
theorem dX10_trunk_101 : decode cX10_trunk 101 = .ok (.ifCond .eq 28, 3) := by decide +kernel
theorem dX10_trunk_104 : decode cX10_trunk 104 = .ok (.aload_n 0, 1) := by decide +kernel
theorem dX10_trunk_105 : decode cX10_trunk 105 = .ok (.getfield 73, 3) := by decide +kernel
theorem dX10_trunk_108 : decode cX10_trunk 108 = .ok (.aload_n 0, 1) := by decide +kernel
theorem dX10_trunk_109 : decode cX10_trunk 109 = .ok (.getfield 35, 3) := by decide +kernel
theorem dX10_trunk_112 : decode cX10_trunk 112 = .ok (.getfield 121, 3) := by decide +kernel
theorem dX10_trunk_115 : decode cX10_trunk 115 = .ok (.iload_n 2, 1) := by decide +kernel
theorem dX10_trunk_116 : decode cX10_trunk 116 = .ok (.aload_n 0, 1) := by decide +kernel
theorem dX10_trunk_117 : decode cX10_trunk 117 = .ok (.getfield 24, 3) := by decide +kernel
theorem dX10_trunk_120 : decode cX10_trunk 120 = .ok (.iload 6, 2) := by decide +kernel
theorem dX10_trunk_122 : decode cX10_trunk 122 = .ok (.aaload, 1) := by decide +kernel
theorem dX10_trunk_123 : decode cX10_trunk 123 = .ok (.invokevirtual 302, 3) := by decide +kernel
theorem dX10_trunk_126 : decode cX10_trunk 126 = .ok (.goto 4, 3) := by decide +kernel
theorem dX10_trunk_129 : decode cX10_trunk 129 = .ok (.iconst 0, 1) := by decide +kernel
theorem dX10_trunk_130 : decode cX10_trunk 130 = .ok (.iastore, 1) := by decide +kernel
theorem dX10_trunk_131 : decode cX10_trunk 131 = .ok (.iinc 6 1, 3) := by decide +kernel
theorem dX10_trunk_134 : decode cX10_trunk 134 = .ok (.goto (-57), 3) := by decide +kernel
theorem dX10_trunk_137 : decode cX10_trunk 137 = .ok (.iinc 4 1, 3) := by decide +kernel
theorem dX10_trunk_140 : decode cX10_trunk 140 = .ok (.goto (-106), 3) := by decide +kernel
theorem dX10_trunk_143 : decode cX10_trunk 143 = .ok (.aload_n 0, 1) := by decide +kernel
theorem dX10_trunk_144 : decode cX10_trunk 144 = .ok (.getfield 73, 3) := by decide +kernel
theorem dX10_trunk_147 : decode cX10_trunk 147 = .ok (.iload_n 1, 1) := by decide +kernel
theorem dX10_trunk_148 : decode cX10_trunk 148 = .ok (.invokevirtual 306, 3) := by decide +kernel
theorem dX10_trunk_151 : decode cX10_trunk 151 = .ok (.istore 4, 2) := by decide +kernel
theorem dX10_trunk_153 : decode cX10_trunk 153 = .ok (.iload_n 3, 1) := by decide +kernel
theorem dX10_trunk_154 : decode cX10_trunk 154 = .ok (.ifCond .ne 8, 3) := by decide +kernel
theorem dX10_trunk_157 : decode cX10_trunk 157 = .ok (.iload 4, 2) := by decide +kernel
theorem dX10_trunk_159 : decode cX10_trunk 159 = .ok (.goto 12, 3) := by decide +kernel
theorem dX10_trunk_162 : decode cX10_trunk 162 = .ok (.aload_n 0, 1) := by decide +kernel
theorem dX10_trunk_163 : decode cX10_trunk 163 = .ok (.getfield 73, 3) := by decide +kernel
theorem dX10_trunk_166 : decode cX10_trunk 166 = .ok (.iload 4, 2) := by decide +kernel
theorem dX10_trunk_168 : decode cX10_trunk 168 = .ok (.invokevirtual 309, 3) := by decide +kernel
theorem dX10_trunk_171 : decode cX10_trunk 171 = .ok (.ireturn, 1) := by decide +kernel
def bX10_trunk : ol_SE := es_seq (es_if (ec_or (ec_or (ec_z ol_ne (ei_of (ea_cs fX10_outside (ea_i (ei_v 1) (ea_i (ei_c 1) (ea_i (ei_c 3) (ea_0))))))) (ec_z ol_ne (ei_of (ea_cs fX10_outside (ea_i (ei_v 2) (ea_i (ei_c (-30)) (ea_i (ei_c 30) (ea_0)))))))) (ec_z ol_ne (ei_of (ea_cs fX10_outside (ea_i (ei_v 3) (ea_i (ei_c 0) (ea_i (ei_c 1) (ea_0)))))))) (es_ret (ei_c (-1))) es_skip) (es_seq (es_seq (es_set 4 (ei_c 0)) (es_wh (ec_2 ol_lt (ei_v 4) (ei_c 4)) (es_seq (es_seq (es_set 5 (ei_f 5 2 (er_a 103 (er_f 10 1 (er_v 0)) (ei_v 4)))) (es_seq (es_if (ec_z ol_ne (ei_v 5)) (es_of (ea_cv 5 fX5_layOn (ea_r (er_a 103 (er_f 10 1 (er_v 0)) (ei_v 4)) (ea_r (er_f 2 0 (er_f 10 4 (er_v 0))) (ea_0))))) es_skip) (es_seq (es_set 6 (ei_c 0)) (es_wh (ec_2 ol_lt (ei_v 6) (ei_c 6)) (es_seq (es_as 100 (er_f 8 3 (er_f 10 11 (er_v 0))) (ei_2 ol_add (ei_2 ol_mul (ei_v 4) (ei_c 6)) (ei_v 6)) (ei_if (ec_z ol_ne (ei_v 5)) (ei_of (ea_cv 8 fX8_greatestMean (ea_r (er_f 10 11 (er_v 0)) (ea_r (er_f 2 0 (er_f 10 4 (er_v 0))) (ea_i (ei_v 2) (ea_r (er_a 104 (er_f 10 2 (er_v 0)) (ei_v 6)) (ea_0))))))) (ei_c 0))) (es_inc 6 1)))))) (es_inc 4 1)))) (es_seq (es_set 4 (ei_of (ea_cv 8 fX8_trunkOf (ea_r (er_f 10 11 (er_v 0)) (ea_i (ei_v 1) (ea_0)))))) (es_ret (ei_if (ec_z ol_eq (ei_v 3)) (ei_v 4) (ei_of (ea_cv 8 fX8_addedBy (ea_r (er_f 10 11 (er_v 0)) (ea_i (ei_v 4) (ea_0)))))))))
def fX10_trunk : ol_FE := ol_fe 7 bX10_trunk
set_option maxRecDepth 20000 in
theorem imX10_trunk (x : ol_X) (K : ol_K) : IM_S x K mX10_trunk 0 0 bX10_trunk := rs_seq (p2 := 31) (rs_if (pT := 29) (pF := 31) (pE := 31) (rc_or (p2 := 20) (pT := 29) (pF := 31) (rc_or (p2 := 9) (pT := 29) (pF := 20) (rc_zT (pT := 29) ol_j1_ne_T (ri_k (rk_s (Mc := mX10_outside) (conX10_outside _ K) (ra_i (ri_vn dX10_trunk_0 rfl) (ra_i (ri_ic dX10_trunk_1 (by unfold ol_inR; omega)) (ra_i (ri_ic dX10_trunk_2 (by unfold ol_inR; omega)) (ra_0)))) dX10_trunk_3 cwX10_98 tw_417 ⟨rfl, rfl, Nat.le_of_ble_eq_true rfl⟩ (by decide) (by decide) (al_i (al_i (al_i al_0)))) (Or.inr (Or.inl rfl))) dX10_trunk_6 (by decide)) (rc_zT (pT := 29) ol_j1_ne_T (ri_k (rk_s (Mc := mX10_outside) (conX10_outside _ K) (ra_i (ri_vn dX10_trunk_9 rfl) (ra_i (ri_bi dX10_trunk_10 (by unfold ol_inR; omega) (by decide)) (ra_i (ri_bi dX10_trunk_12 (by unfold ol_inR; omega) (by decide)) (ra_0)))) dX10_trunk_14 cwX10_98 tw_417 ⟨rfl, rfl, Nat.le_of_ble_eq_true rfl⟩ (by decide) (by decide) (al_i (al_i (al_i al_0)))) (Or.inr (Or.inl rfl))) dX10_trunk_17 (by decide))) (rc_zF (pF := 31) ol_j1_eq_F (ri_k (rk_s (Mc := mX10_outside) (conX10_outside _ K) (ra_i (ri_vn dX10_trunk_20 rfl) (ra_i (ri_ic dX10_trunk_21 (by unfold ol_inR; omega)) (ra_i (ri_ic dX10_trunk_22 (by unfold ol_inR; omega)) (ra_0)))) dX10_trunk_23 cwX10_98 tw_417 ⟨rfl, rfl, Nat.le_of_ble_eq_true rfl⟩ (by decide) (by decide) (al_i (al_i (al_i al_0)))) (Or.inr (Or.inl rfl))) dX10_trunk_26 (by decide))) (rs_ret (ri_ic dX10_trunk_29 (by unfold ol_inR; omega)) rfl dX10_trunk_30) rs_skip) (rs_seq (p2 := 143) (rs_seq (p2 := 34) (rs_set (ri_ic dX10_trunk_31 (by unfold ol_inR; omega)) dX10_trunk_32 (ol_ltn rfl)) (rs_wh (pH := 34) (pB := 40) (pE := 143) (pG := 140) (rc_2F (pF := 143) ol_j2_ge_F (ri_vi dX10_trunk_34) (ri_ic dX10_trunk_36 (by unfold ol_inR; omega)) dX10_trunk_37 (by decide)) (rs_seq (p2 := 137) (rs_seq (p2 := 52) (rs_set (ri_f (rr_a (t := 3) (rr_f (rr_vn dX10_trunk_40 rfl) gfX10_18 dX10_trunk_41) (ri_vi dX10_trunk_44) (by decide) rfl dX10_trunk_46) gfX10_114 dX10_trunk_47) dX10_trunk_50 (ol_ltn rfl)) (rs_seq (p2 := 74) (rs_if (pT := 57) (pF := 74) (pE := 74) (rc_zF (pF := 74) ol_j1_eq_F (ri_vi dX10_trunk_52) dX10_trunk_54 (by decide)) (rs_k (rk_v (Mc := mX5_layOn) (conX5_layOn _ K) (ra_r (rr_a (t := 3) (rr_f (rr_vn dX10_trunk_57 rfl) gfX10_18 dX10_trunk_58) (ri_vi dX10_trunk_61) (by decide) rfl dX10_trunk_63) (ra_r (rr_f (rr_f (rr_vn dX10_trunk_64 rfl) gfX10_35 dX10_trunk_65) gfX10_121 dX10_trunk_68) (ra_0))) dX10_trunk_71 cwX10_125 tw_524 tw_525 (by decide) rfl rfl ⟨rfl, rfl, Nat.le_of_ble_eq_true rfl⟩ (by decide) (by decide) (al_r (al_r al_0)))) rs_skip) (rs_seq (p2 := 77) (rs_set (ri_ic dX10_trunk_74 (by unfold ol_inR; omega)) dX10_trunk_75 (ol_ltn rfl)) (rs_wh (pH := 77) (pB := 84) (pE := 137) (pG := 134) (rc_2F (pF := 137) ol_j2_ge_F (ri_vi dX10_trunk_77) (ri_bi dX10_trunk_79 (by unfold ol_inR; omega) (by decide)) dX10_trunk_81 (by decide)) (rs_seq (p2 := 131) (rs_as (rr_f (rr_f (rr_vn dX10_trunk_84 rfl) gfX10_73 dX10_trunk_85) gfX10_299 dX10_trunk_88) (ri_2 ol_op_add (ri_2 ol_op_mul (ri_vi dX10_trunk_91) (ri_bi dX10_trunk_93 (by unfold ol_inR; omega) (by decide)) dX10_trunk_95) (ri_vi dX10_trunk_96) dX10_trunk_98) (ri_if (pT := 104) (pF := 129) (p3 := 130) (rc_zF (pF := 129) ol_j1_eq_F (ri_vi dX10_trunk_99) dX10_trunk_101 (by decide)) (ri_k (rk_v (Mc := mX8_greatestMean) (conX8_greatestMean _ K) (ra_r (rr_f (rr_vn dX10_trunk_104 rfl) gfX10_73 dX10_trunk_105) (ra_r (rr_f (rr_f (rr_vn dX10_trunk_108 rfl) gfX10_35 dX10_trunk_109) gfX10_121 dX10_trunk_112) (ra_i (ri_vn dX10_trunk_115 rfl) (ra_r (rr_a (t := 4) (rr_f (rr_vn dX10_trunk_116 rfl) gfX10_24 dX10_trunk_117) (ri_vi dX10_trunk_120) (by decide) rfl dX10_trunk_122) (ra_0))))) dX10_trunk_123 cwX10_302 tw_788 tw_789 (by decide) rfl rfl ⟨rfl, rfl, Nat.le_of_ble_eq_true rfl⟩ (by decide) (by decide) (al_r (al_r (al_i (al_r al_0))))) (Or.inl rfl)) dX10_trunk_126 (by decide) (ri_ic dX10_trunk_129 (by unfold ol_inR; omega))) dX10_trunk_130) (rs_inc dX10_trunk_131 (ol_ltn rfl))) dX10_trunk_134 (by decide))))) (rs_inc dX10_trunk_137 (ol_ltn rfl))) dX10_trunk_140 (by decide))) (rs_seq (p2 := 153) (rs_set (ri_k (rk_v (Mc := mX8_trunkOf) (conX8_trunkOf _ K) (ra_r (rr_f (rr_vn dX10_trunk_143 rfl) gfX10_73 dX10_trunk_144) (ra_i (ri_vn dX10_trunk_147 rfl) (ra_0))) dX10_trunk_148 cwX10_306 tw_794 tw_795 (by decide) rfl rfl ⟨rfl, rfl, Nat.le_of_ble_eq_true rfl⟩ (by decide) (by decide) (al_r (al_i al_0))) (Or.inl rfl)) dX10_trunk_151 (ol_ltn rfl)) (rs_ret (ri_if (pT := 157) (pF := 162) (p3 := 171) (rc_zF (pF := 162) ol_j1_ne_F (ri_vn dX10_trunk_153 rfl) dX10_trunk_154 (by decide)) (ri_vi dX10_trunk_157) dX10_trunk_159 (by decide) (ri_k (rk_v (Mc := mX8_addedBy) (conX8_addedBy _ K) (ra_r (rr_f (rr_vn dX10_trunk_162 rfl) gfX10_73 dX10_trunk_163) (ra_i (ri_vi dX10_trunk_166) (ra_0))) dX10_trunk_168 cwX10_309 tw_799 tw_800 (by decide) rfl rfl ⟨rfl, rfl, Nat.le_of_ble_eq_true rfl⟩ (by decide) (by decide) (al_r (al_i al_0))) (Or.inl rfl))) rfl dX10_trunk_171)))
theorem conX10_trunk (l : Launch) (K : ol_K) : ol_Con l K yX10_trunk mX10_trunk fX10_trunk := ol_con (M := mX10_trunk) (by decide) rfl rfl (imX10_trunk · K)
