/-! by program: what each method does, and that its code does it -/
theorem dX7_wordIs_0 : decode cX7_wordIs 0 = .ok (.aload_n 0, 1) := by decide +kernel
theorem dX7_wordIs_1 : decode cX7_wordIs 1 = .ok (.getfield 29, 3) := by decide +kernel
theorem dX7_wordIs_4 : decode cX7_wordIs 4 = .ok (.aload_n 0, 1) := by decide +kernel
theorem dX7_wordIs_5 : decode cX7_wordIs 5 = .ok (.getfield 38, 3) := by decide +kernel
theorem dX7_wordIs_8 : decode cX7_wordIs 8 = .ok (.isub, 1) := by decide +kernel
theorem dX7_wordIs_9 : decode cX7_wordIs 9 = .ok (.aload_n 1, 1) := by decide +kernel
theorem dX7_wordIs_10 : decode cX7_wordIs 10 = .ok (.invokevirtual 81, 3) := by decide +kernel
theorem dX7_wordIs_13 : decode cX7_wordIs 13 = .ok (.if_icmp .eq 5, 3) := by decide +kernel
theorem dX7_wordIs_16 : decode cX7_wordIs 16 = .ok (.iconst 0, 1) := by decide +kernel
theorem dX7_wordIs_17 : decode cX7_wordIs 17 = .ok (.ireturn, 1) := by decide +kernel
theorem dX7_wordIs_18 : decode cX7_wordIs 18 = .ok (.iconst 0, 1) := by decide +kernel
theorem dX7_wordIs_19 : decode cX7_wordIs 19 = .ok (.istore_n 2, 1) := by decide +kernel
theorem dX7_wordIs_20 : decode cX7_wordIs 20 = .ok (.iload_n 2, 1) := by decide +kernel
theorem dX7_wordIs_21 : decode cX7_wordIs 21 = .ok (.aload_n 1, 1) := by decide +kernel
theorem dX7_wordIs_22 : decode cX7_wordIs 22 = .ok (.invokevirtual 81, 3) := by decide +kernel
theorem dX7_wordIs_25 : decode cX7_wordIs 25 = .ok (.if_icmp .ge 30, 3) := by decide +kernel
theorem dX7_wordIs_28 : decode cX7_wordIs 28 = .ok (.aload_n 0, 1) := by decide +kernel
theorem dX7_wordIs_29 : decode cX7_wordIs 29 = .ok (.getfield 9, 3) := by decide +kernel
theorem dX7_wordIs_32 : decode cX7_wordIs 32 = .ok (.aload_n 0, 1) := by decide +kernel
theorem dX7_wordIs_33 : decode cX7_wordIs 33 = .ok (.getfield 38, 3) := by decide +kernel
theorem dX7_wordIs_36 : decode cX7_wordIs 36 = .ok (.iload_n 2, 1) := by decide +kernel
theorem dX7_wordIs_37 : decode cX7_wordIs 37 = .ok (.iadd, 1) := by decide +kernel
theorem dX7_wordIs_38 : decode cX7_wordIs 38 = .ok (.iaload, 1) := by decide +kernel
theorem dX7_wordIs_39 : decode cX7_wordIs 39 = .ok (.aload_n 1, 1) := by decide +kernel
theorem dX7_wordIs_40 : decode cX7_wordIs 40 = .ok (.iload_n 2, 1) := by decide +kernel
theorem dX7_wordIs_41 : decode cX7_wordIs 41 = .ok (.invokevirtual 85, 3) := by decide +kernel
theorem dX7_wordIs_44 : decode cX7_wordIs 44 = .ok (.if_icmp .eq 5, 3) := by decide +kernel
theorem dX7_wordIs_47 : decode cX7_wordIs 47 = .ok (.iconst 0, 1) := by decide +kernel
theorem dX7_wordIs_48 : decode cX7_wordIs 48 = .ok (.ireturn, 1) := by decide +kernel
theorem dX7_wordIs_49 : decode cX7_wordIs 49 = .ok (.iinc 2 1, 3) := by decide +kernel
theorem dX7_wordIs_52 : decode cX7_wordIs 52 = .ok (.goto (-32), 3) := by decide +kernel
theorem dX7_wordIs_55 : decode cX7_wordIs 55 = .ok (.iconst 1, 1) := by decide +kernel
theorem dX7_wordIs_56 : decode cX7_wordIs 56 = .ok (.ireturn, 1) := by decide +kernel
def bX7_wordIs : ol_SE := es_seq (es_if (ec_2 ol_ne (ei_2 ol_sub (ei_f 7 3 (er_v 0)) (ei_f 7 4 (er_v 0))) (ei_of (ea_cx fJ0_length_8abf5 (ea_r (er_v 1) ea_0)))) (es_retz (ei_c 0)) es_skip) (es_seq (es_seq (es_set 2 (ei_c 0)) (es_wh (ec_2 ol_lt (ei_v 2) (ei_of (ea_cx fJ0_length_8abf5 (ea_r (er_v 1) ea_0)))) (es_seq (es_if (ec_2 ol_ne (ei_a 100 (er_f 7 0 (er_v 0)) (ei_2 ol_add (ei_f 7 4 (er_v 0)) (ei_v 2))) (ei_of (ea_cx fJ0_charAt_5068e (ea_r (er_v 1) (ea_i (ei_v 2) ea_0))))) (es_retz (ei_c 0)) es_skip) (es_inc 2 1)))) (es_retz (ei_c 1)))
def fX7_wordIs : ol_FE := ol_fe 3 bX7_wordIs
set_option maxRecDepth 20000 in
theorem imX7_wordIs (x : ol_X) (K : ol_K) : IM_S x K mX7_wordIs 0 0 bX7_wordIs := rs_seq (p2 := 18) (rs_if (pT := 16) (pF := 18) (pE := 18) (rc_2F (pF := 18) ol_j2_eq_F (ri_2 ol_op_sub (ri_f (rr_vn dX7_wordIs_0 rfl) gfX7_29 dX7_wordIs_1) (ri_f (rr_vn dX7_wordIs_4 rfl) gfX7_38 dX7_wordIs_5) dX7_wordIs_8) (ri_k (rk_x (Mc := mJ0_length_8abf5) (conJ0_length_8abf5 _ K) (ra_r (rr_vn dX7_wordIs_9 rfl) ra_0) dX7_wordIs_10 cwX7_81 tw_447 tw_448 rfl ⟨rfl, rfl, Nat.le_of_ble_eq_true rfl⟩ (by decide) (by decide) (al_r al_0)) (by decide)) dX7_wordIs_13 (by decide)) (rs_retz (ri_ic dX7_wordIs_16 (by unfold ol_inR; omega)) rfl dX7_wordIs_17) rs_skip) (rs_seq (p2 := 55) (rs_seq (p2 := 20) (rs_setn (ri_ic dX7_wordIs_18 (by unfold ol_inR; omega)) dX7_wordIs_19 rfl (ol_ltn rfl)) (rs_wh (pH := 20) (pB := 28) (pE := 55) (pG := 52) (rc_2F (pF := 55) ol_j2_ge_F (ri_vn dX7_wordIs_20 rfl) (ri_k (rk_x (Mc := mJ0_length_8abf5) (conJ0_length_8abf5 _ K) (ra_r (rr_vn dX7_wordIs_21 rfl) ra_0) dX7_wordIs_22 cwX7_81 tw_447 tw_448 rfl ⟨rfl, rfl, Nat.le_of_ble_eq_true rfl⟩ (by decide) (by decide) (al_r al_0)) (by decide)) dX7_wordIs_25 (by decide)) (rs_seq (p2 := 49) (rs_if (pT := 47) (pF := 49) (pE := 49) (rc_2F (pF := 49) ol_j2_eq_F (ri_a (rr_f (rr_vn dX7_wordIs_28 rfl) gfX7_9 dX7_wordIs_29) (ri_2 ol_op_add (ri_f (rr_vn dX7_wordIs_32 rfl) gfX7_38 dX7_wordIs_33) (ri_vn dX7_wordIs_36 rfl) dX7_wordIs_37) rfl dX7_wordIs_38) (ri_k (rk_x (Mc := mJ0_charAt_5068e) (conJ0_charAt_5068e _ K) (ra_r (rr_vn dX7_wordIs_39 rfl) (ra_i (ri_vn dX7_wordIs_40 rfl) ra_0)) dX7_wordIs_41 cwX7_85 tw_457 tw_458 rfl ⟨rfl, rfl, Nat.le_of_ble_eq_true rfl⟩ (by decide) (by decide) (al_r (al_i al_0))) (by decide)) dX7_wordIs_44 (by decide)) (rs_retz (ri_ic dX7_wordIs_47 (by unfold ol_inR; omega)) rfl dX7_wordIs_48) rs_skip) (rs_inc dX7_wordIs_49 (ol_ltn rfl))) dX7_wordIs_52 (by decide))) (rs_retz (ri_ic dX7_wordIs_55 (by unfold ol_inR; omega)) rfl dX7_wordIs_56))
theorem conX7_wordIs (l : Launch) (K : ol_K) : ol_Con l K yX7_wordIs mX7_wordIs fX7_wordIs := ol_con (M := mX7_wordIs) (by decide) rfl rfl (imX7_wordIs · K)
theorem dX10_game_0 : decode cX10_game 0 = .ok (.aload_n 0, 1) := by decide +kernel
theorem dX10_game_1 : decode cX10_game 1 = .ok (.getfield 66, 3) := by decide +kernel
theorem dX10_game_4 : decode cX10_game 4 = .ok (.invokevirtual 195, 3) := by decide +kernel
theorem dX10_game_7 : decode cX10_game 7 = .ok (.iload_n 1, 1) := by decide +kernel
theorem dX10_game_8 : decode cX10_game 8 = .ok (.tableswitch 84 0 4 #[36, 44, 52, 60, 68], 36) := by decide +kernel
theorem dX10_game_44 : decode cX10_game 44 = .ok (.aload_n 0, 1) := by decide +kernel
theorem dX10_game_45 : decode cX10_game 45 = .ok (.getfield 66, 3) := by decide +kernel
theorem dX10_game_48 : decode cX10_game 48 = .ok (.getfield 205, 3) := by decide +kernel
theorem dX10_game_51 : decode cX10_game 51 = .ok (.ireturn, 1) := by decide +kernel
theorem dX10_game_52 : decode cX10_game 52 = .ok (.aload_n 0, 1) := by decide +kernel
theorem dX10_game_53 : decode cX10_game 53 = .ok (.getfield 66, 3) := by decide +kernel
theorem dX10_game_56 : decode cX10_game 56 = .ok (.getfield 206, 3) := by decide +kernel
theorem dX10_game_59 : decode cX10_game 59 = .ok (.ireturn, 1) := by decide +kernel
theorem dX10_game_60 : decode cX10_game 60 = .ok (.aload_n 0, 1) := by decide +kernel
theorem dX10_game_61 : decode cX10_game 61 = .ok (.getfield 66, 3) := by decide +kernel
theorem dX10_game_64 : decode cX10_game 64 = .ok (.getfield 209, 3) := by decide +kernel
theorem dX10_game_67 : decode cX10_game 67 = .ok (.ireturn, 1) := by decide +kernel
theorem dX10_game_68 : decode cX10_game 68 = .ok (.aload_n 0, 1) := by decide +kernel
theorem dX10_game_69 : decode cX10_game 69 = .ok (.getfield 66, 3) := by decide +kernel
theorem dX10_game_72 : decode cX10_game 72 = .ok (.invokevirtual 212, 3) := by decide +kernel
theorem dX10_game_75 : decode cX10_game 75 = .ok (.ireturn, 1) := by decide +kernel
theorem dX10_game_76 : decode cX10_game 76 = .ok (.aload_n 0, 1) := by decide +kernel
theorem dX10_game_77 : decode cX10_game 77 = .ok (.getfield 66, 3) := by decide +kernel
theorem dX10_game_80 : decode cX10_game 80 = .ok (.getfield 198, 3) := by decide +kernel
theorem dX10_game_83 : decode cX10_game 83 = .ok (.ifCond .eq 7, 3) := by decide +kernel
theorem dX10_game_86 : decode cX10_game 86 = .ok (.iconst 1, 1) := by decide +kernel
theorem dX10_game_87 : decode cX10_game 87 = .ok (.goto 4, 3) := by decide +kernel
theorem dX10_game_90 : decode cX10_game 90 = .ok (.iconst 0, 1) := by decide +kernel
theorem dX10_game_91 : decode cX10_game 91 = .ok (.ireturn, 1) := by decide +kernel
theorem dX10_game_92 : decode cX10_game 92 = .ok (.iconst (-1), 1) := by decide +kernel
theorem dX10_game_93 : decode cX10_game 93 = .ok (.ireturn, 1) := by decide +kernel
def bX10_game : ol_SE := es_seq (es_of (ea_cv 3 fX3_reckon (ea_r (er_f 10 10 (er_v 0)) (ea_0)))) (es_sw (ei_v 1) 0 [es_ret (ei_f 3 1 (er_f 10 10 (er_v 0))), es_ret (ei_f 3 2 (er_f 10 10 (er_v 0))), es_ret (ei_f 3 3 (er_f 10 10 (er_v 0))), es_ret (ei_of (ea_cv 3 fX3_mostSum (ea_r (er_f 10 10 (er_v 0)) (ea_0)))), es_ret (ei_if (ec_z ol_ne (ei_f 3 5 (er_f 10 10 (er_v 0)))) (ei_c 1) (ei_c 0))] (es_ret (ei_c (-1))))
def fX10_game : ol_FE := ol_fe 2 bX10_game
set_option maxRecDepth 20000 in
theorem imX10_game (x : ol_X) (K : ol_K) : IM_S x K mX10_game 0 0 bX10_game := rs_seq (p2 := 7) (rs_k (rk_v (Mc := mX3_reckon) (conX3_reckon _ K) (ra_r (rr_f (rr_vn dX10_game_0 rfl) gfX10_66 dX10_game_1) (ra_0)) dX10_game_4 cwX10_195 tw_631 tw_632 (by decide) rfl rfl ⟨rfl, rfl, Nat.le_of_ble_eq_true rfl⟩ (by decide) (by decide) (al_r al_0))) (rs_sw (pE := 0) (pD := 92) (ri_vn dX10_game_7 rfl) dX10_game_8 rfl ⟨⟨_, 44, rfl, by decide, rs_ret (ri_f (rr_f (rr_vn dX10_game_44 rfl) gfX10_66 dX10_game_45) gfX10_205 dX10_game_48) rfl dX10_game_51⟩, ⟨_, 52, rfl, by decide, rs_ret (ri_f (rr_f (rr_vn dX10_game_52 rfl) gfX10_66 dX10_game_53) gfX10_206 dX10_game_56) rfl dX10_game_59⟩, ⟨_, 60, rfl, by decide, rs_ret (ri_f (rr_f (rr_vn dX10_game_60 rfl) gfX10_66 dX10_game_61) gfX10_209 dX10_game_64) rfl dX10_game_67⟩, ⟨_, 68, rfl, by decide, rs_ret (ri_k (rk_v (Mc := mX3_mostSum) (conX3_mostSum _ K) (ra_r (rr_f (rr_vn dX10_game_68 rfl) gfX10_66 dX10_game_69) (ra_0)) dX10_game_72 cwX10_212 tw_651 tw_652 (by decide) rfl rfl ⟨rfl, rfl, Nat.le_of_ble_eq_true rfl⟩ (by decide) (by decide) (al_r al_0)) (Or.inl rfl)) rfl dX10_game_75⟩, ⟨_, 76, rfl, by decide, rs_ret (ri_if (pT := 86) (pF := 90) (p3 := 91) (rc_zF (pF := 90) ol_j1_eq_F (ri_f (rr_f (rr_vn dX10_game_76 rfl) gfX10_66 dX10_game_77) gfX10_198 dX10_game_80) dX10_game_83 (by decide)) (ri_ic dX10_game_86 (by unfold ol_inR; omega)) dX10_game_87 (by decide) (ri_ic dX10_game_90 (by unfold ol_inR; omega))) rfl dX10_game_91⟩, trivial⟩ (by decide) (rs_ret (ri_ic dX10_game_92 (by unfold ol_inR; omega)) rfl dX10_game_93))
theorem conX10_game (l : Launch) (K : ol_K) : ol_Con l K yX10_game mX10_game fX10_game := ol_con (M := mX10_game) (by decide) rfl rfl (imX10_game · K)
theorem dX10_mean_0 : decode cX10_mean 0 = .ok (.iload_n 1, 1) := by decide +kernel
theorem dX10_mean_1 : decode cX10_mean 1 = .ok (.iconst 0, 1) := by decide +kernel
theorem dX10_mean_2 : decode cX10_mean 2 = .ok (.iconst 3, 1) := by decide +kernel
theorem dX10_mean_3 : decode cX10_mean 3 = .ok (.invokestatic 98, 3) := by decide +kernel
theorem dX10_mean_6 : decode cX10_mean 6 = .ok (.ifCond .ne 15, 3) := by decide +kernel
theorem dX10_mean_9 : decode cX10_mean 9 = .ok (.iload_n 2, 1) := by decide +kernel
theorem dX10_mean_10 : decode cX10_mean 10 = .ok (.iload_n 3, 1) := by decide +kernel
theorem dX10_mean_11 : decode cX10_mean 11 = .ok (.iload 4, 2) := by decide +kernel
theorem dX10_mean_13 : decode cX10_mean 13 = .ok (.iload 5, 2) := by decide +kernel
theorem dX10_mean_15 : decode cX10_mean 15 = .ok (.invokestatic 151, 3) := by decide +kernel
theorem dX10_mean_18 : decode cX10_mean 18 = .ok (.ifCond .eq 5, 3) := by decide +kernel
theorem dX10_mean_21 : decode cX10_mean 21 = .ok (.iconst (-1), 1) := by decide +kernel
theorem dX10_mean_22 : decode cX10_mean 22 = .ok (.ireturn, 1) := by decide +kernel
theorem dX10_mean_23 : decode cX10_mean 23 = .ok (.aload_n 0, 1) := by decide +kernel
theorem dX10_mean_24 : decode cX10_mean 24 = .ok (.getfield 73, 3) := by decide +kernel
theorem dX10_mean_27 : decode cX10_mean 27 = .ok (.aload_n 0, 1) := by decide +kernel
theorem dX10_mean_28 : decode cX10_mean 28 = .ok (.getfield 31, 3) := by decide +kernel
theorem dX10_mean_31 : decode cX10_mean 31 = .ok (.getfield 121, 3) := by decide +kernel
theorem dX10_mean_34 : decode cX10_mean 34 = .ok (.iload_n 1, 1) := by decide +kernel
theorem dX10_mean_35 : decode cX10_mean 35 = .ok (.iload_n 2, 1) := by decide +kernel
theorem dX10_mean_36 : decode cX10_mean 36 = .ok (.iload_n 3, 1) := by decide +kernel
theorem dX10_mean_37 : decode cX10_mean 37 = .ok (.iload 4, 2) := by decide +kernel
theorem dX10_mean_39 : decode cX10_mean 39 = .ok (.aload_n 0, 1) := by decide +kernel
theorem dX10_mean_40 : decode cX10_mean 40 = .ok (.getfield 24, 3) := by decide +kernel
theorem dX10_mean_43 : decode cX10_mean 43 = .ok (.iload 5, 2) := by decide +kernel
theorem dX10_mean_45 : decode cX10_mean 45 = .ok (.aaload, 1) := by decide +kernel
theorem dX10_mean_46 : decode cX10_mean 46 = .ok (.invokevirtual 218, 3) := by decide +kernel
theorem dX10_mean_49 : decode cX10_mean 49 = .ok (.ireturn, 1) := by decide +kernel
def bX10_mean : ol_SE := es_seq (es_if (ec_or (ec_z ol_ne (ei_of (ea_cs fX10_outside (ea_i (ei_v 1) (ea_i (ei_c 0) (ea_i (ei_c 3) (ea_0))))))) (ec_z ol_ne (ei_of (ea_cs fX10_noSuchShot (ea_i (ei_v 2) (ea_i (ei_v 3) (ea_i (ei_v 4) (ea_i (ei_v 5) (ea_0))))))))) (es_ret (ei_c (-1))) es_skip) (es_ret (ei_of (ea_cv 8 fX8_meanOf (ea_r (er_f 10 11 (er_v 0)) (ea_r (er_f 2 0 (er_f 10 3 (er_v 0))) (ea_i (ei_v 1) (ea_i (ei_v 2) (ea_i (ei_v 3) (ea_i (ei_v 4) (ea_r (er_a 104 (er_f 10 2 (er_v 0)) (ei_v 5)) (ea_0)))))))))))
def fX10_mean : ol_FE := ol_fe 6 bX10_mean
set_option maxRecDepth 20000 in
theorem imX10_mean (x : ol_X) (K : ol_K) : IM_S x K mX10_mean 0 0 bX10_mean := rs_seq (p2 := 23) (rs_if (pT := 21) (pF := 23) (pE := 23) (rc_or (p2 := 9) (pT := 21) (pF := 23) (rc_zT (pT := 21) ol_j1_ne_T (ri_k (rk_s (Mc := mX10_outside) (conX10_outside _ K) (ra_i (ri_vn dX10_mean_0 rfl) (ra_i (ri_ic dX10_mean_1 (by unfold ol_inR; omega)) (ra_i (ri_ic dX10_mean_2 (by unfold ol_inR; omega)) (ra_0)))) dX10_mean_3 cwX10_98 tw_417 ⟨rfl, rfl, Nat.le_of_ble_eq_true rfl⟩ (by decide) (by decide) (al_i (al_i (al_i al_0)))) (Or.inr (Or.inl rfl))) dX10_mean_6 (by decide)) (rc_zF (pF := 23) ol_j1_eq_F (ri_k (rk_s (Mc := mX10_noSuchShot) (conX10_noSuchShot _ K) (ra_i (ri_vn dX10_mean_9 rfl) (ra_i (ri_vn dX10_mean_10 rfl) (ra_i (ri_vi dX10_mean_11) (ra_i (ri_vi dX10_mean_13) (ra_0))))) dX10_mean_15 cwX10_151 tw_569 ⟨rfl, rfl, Nat.le_of_ble_eq_true rfl⟩ (by decide) (by decide) (al_i (al_i (al_i (al_i al_0))))) (Or.inr (Or.inl rfl))) dX10_mean_18 (by decide))) (rs_ret (ri_ic dX10_mean_21 (by unfold ol_inR; omega)) rfl dX10_mean_22) rs_skip) (rs_ret (ri_k (rk_v (Mc := mX8_meanOf) (conX8_meanOf _ K) (ra_r (rr_f (rr_vn dX10_mean_23 rfl) gfX10_73 dX10_mean_24) (ra_r (rr_f (rr_f (rr_vn dX10_mean_27 rfl) gfX10_31 dX10_mean_28) gfX10_121 dX10_mean_31) (ra_i (ri_vn dX10_mean_34 rfl) (ra_i (ri_vn dX10_mean_35 rfl) (ra_i (ri_vn dX10_mean_36 rfl) (ra_i (ri_vi dX10_mean_37) (ra_r (rr_a (t := 4) (rr_f (rr_vn dX10_mean_39 rfl) gfX10_24 dX10_mean_40) (ri_vi dX10_mean_43) (by decide) rfl dX10_mean_45) (ra_0)))))))) dX10_mean_46 cwX10_218 tw_669 tw_670 (by decide) rfl rfl ⟨rfl, rfl, Nat.le_of_ble_eq_true rfl⟩ (by decide) (by decide) (al_r (al_r (al_i (al_i (al_i (al_i (al_r al_0)))))))) (Or.inl rfl)) rfl dX10_mean_49)
theorem conX10_mean (l : Launch) (K : ol_K) : ol_Con l K yX10_mean mX10_mean fX10_mean := ol_con (M := mX10_mean) (by decide) rfl rfl (imX10_mean · K)
theorem dX8_seekBest_0 : decode cX8_seekBest 0 = .ok (.aload_n 0, 1) := by decide +kernel
theorem dX8_seekBest_1 : decode cX8_seekBest 1 = .ok (.iconst (-1), 1) := by decide +kernel
theorem dX8_seekBest_2 : decode cX8_seekBest 2 = .ok (.putfield 36, 3) := by decide +kernel
theorem dX8_seekBest_5 : decode cX8_seekBest 5 = .ok (.iconst 0, 1) := by decide +kernel
theorem dX8_seekBest_6 : decode cX8_seekBest 6 = .ok (.istore 5, 2) := by decide +kernel
theorem dX8_seekBest_8 : decode cX8_seekBest 8 = .ok (.iload 5, 2) := by decide +kernel
theorem dX8_seekBest_10 : decode cX8_seekBest 10 = .ok (.bipush 6, 2) := by decide +kernel
theorem dX8_seekBest_12 : decode cX8_seekBest 12 = .ok (.if_icmp .ge 81, 3) := by decide +kernel
theorem dX8_seekBest_15 : decode cX8_seekBest 15 = .ok (.aload_n 0, 1) := by decide +kernel
theorem dX8_seekBest_16 : decode cX8_seekBest 16 = .ok (.getfield 36, 3) := by decide +kernel
theorem dX8_seekBest_19 : decode cX8_seekBest 19 = .ok (.bipush 100, 2) := by decide +kernel
theorem dX8_seekBest_21 : decode cX8_seekBest 21 = .ok (.if_icmp .ge 72, 3) := by decide +kernel
theorem dX8_seekBest_24 : decode cX8_seekBest 24 = .ok (.aload_n 0, 1) := by decide +kernel
theorem dX8_seekBest_25 : decode cX8_seekBest 25 = .ok (.aload_n 1, 1) := by decide +kernel
theorem dX8_seekBest_26 : decode cX8_seekBest 26 = .ok (.iload_n 3, 1) := by decide +kernel
theorem dX8_seekBest_27 : decode cX8_seekBest 27 = .ok (.aload 4, 2) := by decide +kernel
theorem dX8_seekBest_29 : decode cX8_seekBest 29 = .ok (.iload 5, 2) := by decide +kernel
theorem dX8_seekBest_31 : decode cX8_seekBest 31 = .ok (.aaload, 1) := by decide +kernel
theorem dX8_seekBest_32 : decode cX8_seekBest 32 = .ok (.invokevirtual 40, 3) := by decide +kernel
theorem dX8_seekBest_35 : decode cX8_seekBest 35 = .ok (.iconst 0, 1) := by decide +kernel
theorem dX8_seekBest_36 : decode cX8_seekBest 36 = .ok (.istore 6, 2) := by decide +kernel
theorem dX8_seekBest_38 : decode cX8_seekBest 38 = .ok (.iload 6, 2) := by decide +kernel
theorem dX8_seekBest_40 : decode cX8_seekBest 40 = .ok (.bipush 39, 2) := by decide +kernel
theorem dX8_seekBest_42 : decode cX8_seekBest 42 = .ok (.if_icmp .ge 45, 3) := by decide +kernel
theorem dX8_seekBest_45 : decode cX8_seekBest 45 = .ok (.bipush (-6), 2) := by decide +kernel
theorem dX8_seekBest_47 : decode cX8_seekBest 47 = .ok (.istore 7, 2) := by decide +kernel
theorem dX8_seekBest_49 : decode cX8_seekBest 49 = .ok (.iload 7, 2) := by decide +kernel
theorem dX8_seekBest_51 : decode cX8_seekBest 51 = .ok (.bipush 6, 2) := by decide +kernel
theorem dX8_seekBest_53 : decode cX8_seekBest 53 = .ok (.if_icmp .gt 28, 3) := by decide +kernel
theorem dX8_seekBest_56 : decode cX8_seekBest 56 = .ok (.aload_n 0, 1) := by decide +kernel
theorem dX8_seekBest_57 : decode cX8_seekBest 57 = .ok (.aload_n 0, 1) := by decide +kernel
theorem dX8_seekBest_58 : decode cX8_seekBest 58 = .ok (.iload_n 2, 1) := by decide +kernel
theorem dX8_seekBest_59 : decode cX8_seekBest 59 = .ok (.iload 6, 2) := by decide +kernel
theorem dX8_seekBest_61 : decode cX8_seekBest 61 = .ok (.iload 7, 2) := by decide +kernel
theorem dX8_seekBest_63 : decode cX8_seekBest 63 = .ok (.invokevirtual 44, 3) := by decide +kernel
theorem dX8_seekBest_66 : decode cX8_seekBest 66 = .ok (.iload 5, 2) := by decide +kernel
theorem dX8_seekBest_68 : decode cX8_seekBest 68 = .ok (.iload 6, 2) := by decide +kernel
theorem dX8_seekBest_70 : decode cX8_seekBest 70 = .ok (.iload 7, 2) := by decide +kernel
theorem dX8_seekBest_72 : decode cX8_seekBest 72 = .ok (.invokevirtual 48, 3) := by decide +kernel
theorem dX8_seekBest_75 : decode cX8_seekBest 75 = .ok (.iinc 7 1, 3) := by decide +kernel
theorem dX8_seekBest_78 : decode cX8_seekBest 78 = .ok (.goto (-29), 3) := by decide +kernel
theorem dX8_seekBest_81 : decode cX8_seekBest 81 = .ok (.iinc 6 1, 3) := by decide +kernel
theorem dX8_seekBest_84 : decode cX8_seekBest 84 = .ok (.goto (-46), 3) := by decide +kernel
theorem dX8_seekBest_87 : decode cX8_seekBest 87 = .ok (.iinc 5 1, 3) := by decide +kernel
theorem dX8_seekBest_90 : decode cX8_seekBest 90 = .ok (.goto (-82), 3) := by decide +kernel
theorem dX8_seekBest_93 : decode cX8_seekBest 93 = .ok (.return_, 1) := by decide +kernel
def bX8_seekBest : ol_SE := es_seq (es_pf 8 4 (er_v 0) (ei_c (-1))) (es_seq (es_seq (es_set 5 (ei_c 0)) (es_wh (ec_and (ec_2 ol_lt (ei_v 5) (ei_c 6)) (ec_2 ol_lt (ei_f 8 4 (er_v 0)) (ei_c 100))) (es_seq (es_seq (es_of (ea_cv 8 fX8_notePins (ea_r (er_v 0) (ea_r (er_v 1) (ea_i (ei_v 3) (ea_r (er_a 104 (er_v 4) (ei_v 5)) (ea_0))))))) (es_seq (es_set 6 (ei_c 0)) (es_wh (ec_2 ol_lt (ei_v 6) (ei_c 39)) (es_seq (es_seq (es_set 7 (ei_c (-6))) (es_wh (ec_2 ol_le (ei_v 7) (ei_c 6)) (es_seq (es_of (ea_cv 8 fX8_offer (ea_r (er_v 0) (ea_i (ei_of (ea_cv 8 fX8_notedMean (ea_r (er_v 0) (ea_i (ei_v 2) (ea_i (ei_v 6) (ea_i (ei_v 7) (ea_0))))))) (ea_i (ei_v 5) (ea_i (ei_v 6) (ea_i (ei_v 7) (ea_0)))))))) (es_inc 7 1)))) (es_inc 6 1))))) (es_inc 5 1)))) (es_retv))
def fX8_seekBest : ol_FE := ol_fe 8 bX8_seekBest
set_option maxRecDepth 20000 in
theorem imX8_seekBest (x : ol_X) (K : ol_K) : IM_S x K mX8_seekBest 0 0 bX8_seekBest := rs_seq (p2 := 5) (rs_pf (rr_vn dX8_seekBest_0 rfl) (ri_ic dX8_seekBest_1 (by unfold ol_inR; omega)) pfX8_36 rfl dX8_seekBest_2) (rs_seq (p2 := 93) (rs_seq (p2 := 8) (rs_set (ri_ic dX8_seekBest_5 (by unfold ol_inR; omega)) dX8_seekBest_6 (ol_ltn rfl)) (rs_wh (pH := 8) (pB := 24) (pE := 93) (pG := 90) (rc_and (p2 := 15) (pT := 24) (pF := 93) (rc_2F (pF := 93) ol_j2_ge_F (ri_vi dX8_seekBest_8) (ri_bi dX8_seekBest_10 (by unfold ol_inR; omega) (by decide)) dX8_seekBest_12 (by decide)) (rc_2F (pF := 93) ol_j2_ge_F (ri_f (rr_vn dX8_seekBest_15 rfl) gfX8_36 dX8_seekBest_16) (ri_bi dX8_seekBest_19 (by unfold ol_inR; omega) (by decide)) dX8_seekBest_21 (by decide))) (rs_seq (p2 := 87) (rs_seq (p2 := 35) (rs_k (rk_v (Mc := mX8_notePins) (conX8_notePins _ K) (ra_r (rr_vn dX8_seekBest_24 rfl) (ra_r (rr_vn dX8_seekBest_25 rfl) (ra_i (ri_vn dX8_seekBest_26 rfl) (ra_r (rr_a (t := 4) (rr_vi dX8_seekBest_27) (ri_vi dX8_seekBest_29) (by decide) rfl dX8_seekBest_31) (ra_0))))) dX8_seekBest_32 cwX8_40 tw_684 tw_13 (by decide) rfl rfl ⟨rfl, rfl, Nat.le_of_ble_eq_true rfl⟩ (by decide) (by decide) (al_r (al_r (al_i (al_r al_0)))))) (rs_seq (p2 := 38) (rs_set (ri_ic dX8_seekBest_35 (by unfold ol_inR; omega)) dX8_seekBest_36 (ol_ltn rfl)) (rs_wh (pH := 38) (pB := 45) (pE := 87) (pG := 84) (rc_2F (pF := 87) ol_j2_ge_F (ri_vi dX8_seekBest_38) (ri_bi dX8_seekBest_40 (by unfold ol_inR; omega) (by decide)) dX8_seekBest_42 (by decide)) (rs_seq (p2 := 81) (rs_seq (p2 := 49) (rs_set (ri_bi dX8_seekBest_45 (by unfold ol_inR; omega) (by decide)) dX8_seekBest_47 (ol_ltn rfl)) (rs_wh (pH := 49) (pB := 56) (pE := 81) (pG := 78) (rc_2F (pF := 81) ol_j2_gt_F (ri_vi dX8_seekBest_49) (ri_bi dX8_seekBest_51 (by unfold ol_inR; omega) (by decide)) dX8_seekBest_53 (by decide)) (rs_seq (p2 := 75) (rs_k (rk_v (Mc := mX8_offer) (conX8_offer _ K) (ra_r (rr_vn dX8_seekBest_56 rfl) (ra_i (ri_k (rk_v (Mc := mX8_notedMean) (conX8_notedMean _ K) (ra_r (rr_vn dX8_seekBest_57 rfl) (ra_i (ri_vn dX8_seekBest_58 rfl) (ra_i (ri_vi dX8_seekBest_59) (ra_i (ri_vi dX8_seekBest_61) (ra_0))))) dX8_seekBest_63 cwX8_44 tw_688 tw_14 (by decide) rfl rfl ⟨rfl, rfl, Nat.le_of_ble_eq_true rfl⟩ (by decide) (by decide) (al_r (al_i (al_i (al_i al_0))))) (Or.inl rfl)) (ra_i (ri_vi dX8_seekBest_66) (ra_i (ri_vi dX8_seekBest_68) (ra_i (ri_vi dX8_seekBest_70) (ra_0)))))) dX8_seekBest_72 cwX8_48 tw_692 tw_15 (by decide) rfl rfl ⟨rfl, rfl, Nat.le_of_ble_eq_true rfl⟩ (by decide) (by decide) (al_r (al_i (al_i (al_i (al_i al_0))))))) (rs_inc dX8_seekBest_75 (ol_ltn rfl))) dX8_seekBest_78 (by decide))) (rs_inc dX8_seekBest_81 (ol_ltn rfl))) dX8_seekBest_84 (by decide)))) (rs_inc dX8_seekBest_87 (ol_ltn rfl))) dX8_seekBest_90 (by decide))) (rs_retv rfl dX8_seekBest_93))
theorem conX8_seekBest (l : Launch) (K : ol_K) : ol_Con l K yX8_seekBest mX8_seekBest fX8_seekBest := ol_con (M := mX8_seekBest) (by decide) rfl rfl (imX8_seekBest · K)
theorem dX10_evening_0 : decode cX10_evening 0 = .ok (.iload_n 1, 1) := by decide +kernel
theorem dX10_evening_1 : decode cX10_evening 1 = .ok (.iconst 1, 1) := by decide +kernel
theorem dX10_evening_2 : decode cX10_evening 2 = .ok (.bipush 20, 2) := by decide +kernel
theorem dX10_evening_4 : decode cX10_evening 4 = .ok (.invokestatic 98, 3) := by decide +kernel
theorem dX10_evening_7 : decode cX10_evening 7 = .ok (.ifCond .eq 5, 3) := by decide +kernel
theorem dX10_evening_10 : decode cX10_evening 10 = .ok (.iconst (-1), 1) := by decide +kernel
theorem dX10_evening_11 : decode cX10_evening 11 = .ok (.ireturn, 1) := by decide +kernel
theorem dX10_evening_12 : decode cX10_evening 12 = .ok (.aload_n 0, 1) := by decide +kernel
theorem dX10_evening_13 : decode cX10_evening 13 = .ok (.invokevirtual 267, 3) := by decide +kernel
theorem dX10_evening_16 : decode cX10_evening 16 = .ok (.aload_n 0, 1) := by decide +kernel
theorem dX10_evening_17 : decode cX10_evening 17 = .ok (.getfield 31, 3) := by decide +kernel
theorem dX10_evening_20 : decode cX10_evening 20 = .ok (.getfield 238, 3) := by decide +kernel
theorem dX10_evening_23 : decode cX10_evening 23 = .ok (.ifCond .le 8, 3) := by decide +kernel
theorem dX10_evening_26 : decode cX10_evening 26 = .ok (.aload_n 0, 1) := by decide +kernel
theorem dX10_evening_27 : decode cX10_evening 27 = .ok (.iconst 1, 1) := by decide +kernel
theorem dX10_evening_28 : decode cX10_evening 28 = .ok (.putfield 159, 3) := by decide +kernel
theorem dX10_evening_31 : decode cX10_evening 31 = .ok (.aload_n 0, 1) := by decide +kernel
theorem dX10_evening_32 : decode cX10_evening 32 = .ok (.getfield 31, 3) := by decide +kernel
theorem dX10_evening_35 : decode cX10_evening 35 = .ok (.iload_n 1, 1) := by decide +kernel
theorem dX10_evening_36 : decode cX10_evening 36 = .ok (.aload_n 0, 1) := by decide +kernel
theorem dX10_evening_37 : decode cX10_evening 37 = .ok (.getfield 49, 3) := by decide +kernel
theorem dX10_evening_40 : decode cX10_evening 40 = .ok (.aload_n 0, 1) := by decide +kernel
theorem dX10_evening_41 : decode cX10_evening 41 = .ok (.getfield 24, 3) := by decide +kernel
theorem dX10_evening_44 : decode cX10_evening 44 = .ok (.aload_n 0, 1) := by decide +kernel
theorem dX10_evening_45 : decode cX10_evening 45 = .ok (.getfield 81, 3) := by decide +kernel
theorem dX10_evening_48 : decode cX10_evening 48 = .ok (.aload_n 0, 1) := by decide +kernel
theorem dX10_evening_49 : decode cX10_evening 49 = .ok (.getfield 84, 3) := by decide +kernel
theorem dX10_evening_52 : decode cX10_evening 52 = .ok (.invokevirtual 270, 3) := by decide +kernel
theorem dX10_evening_55 : decode cX10_evening 55 = .ok (.ireturn, 1) := by decide +kernel
def bX10_evening : ol_SE := es_seq (es_if (ec_z ol_ne (ei_of (ea_cs fX10_outside (ea_i (ei_v 1) (ea_i (ei_c 1) (ea_i (ei_c 20) (ea_0))))))) (es_ret (ei_c (-1))) es_skip) (es_seq (es_of (ea_cv 10 fX10_takeFirstOrder (ea_r (er_v 0) (ea_0)))) (es_seq (es_if (ec_z ol_gt (ei_f 2 2 (er_f 10 3 (er_v 0)))) (es_pz 10 16 (er_v 0) (ei_c 1)) es_skip) (es_ret (ei_of (ea_cv 2 fX2_playRounds (ea_r (er_f 10 3 (er_v 0)) (ea_i (ei_v 1) (ea_r (er_f 10 7 (er_v 0)) (ea_r (er_f 10 2 (er_v 0)) (ea_r (er_f 10 13 (er_v 0)) (ea_r (er_f 10 14 (er_v 0)) (ea_0))))))))))))
def fX10_evening : ol_FE := ol_fe 2 bX10_evening
set_option maxRecDepth 20000 in
theorem imX10_evening (x : ol_X) (K : ol_K) : IM_S x K mX10_evening 0 0 bX10_evening := rs_seq (p2 := 12) (rs_if (pT := 10) (pF := 12) (pE := 12) (rc_zF (pF := 12) ol_j1_eq_F (ri_k (rk_s (Mc := mX10_outside) (conX10_outside _ K) (ra_i (ri_vn dX10_evening_0 rfl) (ra_i (ri_ic dX10_evening_1 (by unfold ol_inR; omega)) (ra_i (ri_bi dX10_evening_2 (by unfold ol_inR; omega) (by decide)) (ra_0)))) dX10_evening_4 cwX10_98 tw_417 ⟨rfl, rfl, Nat.le_of_ble_eq_true rfl⟩ (by decide) (by decide) (al_i (al_i (al_i al_0)))) (Or.inr (Or.inl rfl))) dX10_evening_7 (by decide)) (rs_ret (ri_ic dX10_evening_10 (by unfold ol_inR; omega)) rfl dX10_evening_11) rs_skip) (rs_seq (p2 := 16) (rs_k (rk_v (Mc := mX10_takeFirstOrder) (conX10_takeFirstOrder _ K) (ra_r (rr_vn dX10_evening_12 rfl) (ra_0)) dX10_evening_13 cwX10_267 tw_712 tw_16 (by decide) rfl rfl ⟨rfl, rfl, Nat.le_of_ble_eq_true rfl⟩ (by decide) (by decide) (al_r al_0))) (rs_seq (p2 := 31) (rs_if (pT := 26) (pF := 31) (pE := 31) (rc_zF (pF := 31) ol_j1_le_F (ri_f (rr_f (rr_vn dX10_evening_16 rfl) gfX10_31 dX10_evening_17) gfX10_238 dX10_evening_20) dX10_evening_23 (by decide)) (rs_pz (rr_vn dX10_evening_26 rfl) (ri_ic dX10_evening_27 (by unfold ol_inR; omega)) pfX10_159 rfl dX10_evening_28) rs_skip) (rs_ret (ri_k (rk_v (Mc := mX2_playRounds) (conX2_playRounds _ K) (ra_r (rr_f (rr_vn dX10_evening_31 rfl) gfX10_31 dX10_evening_32) (ra_i (ri_vn dX10_evening_35 rfl) (ra_r (rr_f (rr_vn dX10_evening_36 rfl) gfX10_49 dX10_evening_37) (ra_r (rr_f (rr_vn dX10_evening_40 rfl) gfX10_24 dX10_evening_41) (ra_r (rr_f (rr_vn dX10_evening_44 rfl) gfX10_81 dX10_evening_45) (ra_r (rr_f (rr_vn dX10_evening_48 rfl) gfX10_84 dX10_evening_49) (ra_0))))))) dX10_evening_52 cwX10_270 tw_715 tw_716 (by decide) rfl rfl ⟨rfl, rfl, Nat.le_of_ble_eq_true rfl⟩ (by decide) (by decide) (al_r (al_i (al_r (al_r (al_r (al_r al_0))))))) (Or.inl rfl)) rfl dX10_evening_55)))
theorem conX10_evening (l : Launch) (K : ol_K) : ol_Con l K yX10_evening mX10_evening fX10_evening := ol_con (M := mX10_evening) (by decide) rfl rfl (imX10_evening · K)
theorem dX10_tryRounds_0 : decode cX10_tryRounds 0 = .ok (.aload_n 0, 1) := by decide +kernel
theorem dX10_tryRounds_1 : decode cX10_tryRounds 1 = .ok (.getfield 35, 3) := by decide +kernel
theorem dX10_tryRounds_4 : decode cX10_tryRounds 4 = .ok (.aload_n 0, 1) := by decide +kernel
theorem dX10_tryRounds_5 : decode cX10_tryRounds 5 = .ok (.getfield 31, 3) := by decide +kernel
theorem dX10_tryRounds_8 : decode cX10_tryRounds 8 = .ok (.invokevirtual 285, 3) := by decide +kernel
theorem dX10_tryRounds_11 : decode cX10_tryRounds 11 = .ok (.aload_n 0, 1) := by decide +kernel
theorem dX10_tryRounds_12 : decode cX10_tryRounds 12 = .ok (.getfield 35, 3) := by decide +kernel
theorem dX10_tryRounds_15 : decode cX10_tryRounds 15 = .ok (.iload_n 1, 1) := by decide +kernel
theorem dX10_tryRounds_16 : decode cX10_tryRounds 16 = .ok (.aload_n 0, 1) := by decide +kernel
theorem dX10_tryRounds_17 : decode cX10_tryRounds 17 = .ok (.getfield 53, 3) := by decide +kernel
theorem dX10_tryRounds_20 : decode cX10_tryRounds 20 = .ok (.aload_n 0, 1) := by decide +kernel
theorem dX10_tryRounds_21 : decode cX10_tryRounds 21 = .ok (.getfield 24, 3) := by decide +kernel
theorem dX10_tryRounds_24 : decode cX10_tryRounds 24 = .ok (.aload_n 0, 1) := by decide +kernel
theorem dX10_tryRounds_25 : decode cX10_tryRounds 25 = .ok (.getfield 81, 3) := by decide +kernel
theorem dX10_tryRounds_28 : decode cX10_tryRounds 28 = .ok (.aload_n 0, 1) := by decide +kernel
theorem dX10_tryRounds_29 : decode cX10_tryRounds 29 = .ok (.getfield 84, 3) := by decide +kernel
theorem dX10_tryRounds_32 : decode cX10_tryRounds 32 = .ok (.invokevirtual 270, 3) := by decide +kernel
theorem dX10_tryRounds_35 : decode cX10_tryRounds 35 = .ok (.ireturn, 1) := by decide +kernel
def bX10_tryRounds : ol_SE := es_seq (es_of (ea_cv 2 fX2_copyFrom (ea_r (er_f 10 4 (er_v 0)) (ea_r (er_f 10 3 (er_v 0)) (ea_0))))) (es_ret (ei_of (ea_cv 2 fX2_playRounds (ea_r (er_f 10 4 (er_v 0)) (ea_i (ei_v 1) (ea_r (er_f 10 8 (er_v 0)) (ea_r (er_f 10 2 (er_v 0)) (ea_r (er_f 10 13 (er_v 0)) (ea_r (er_f 10 14 (er_v 0)) (ea_0))))))))))
def fX10_tryRounds : ol_FE := ol_fe 2 bX10_tryRounds
set_option maxRecDepth 20000 in
theorem imX10_tryRounds (x : ol_X) (K : ol_K) : IM_S x K mX10_tryRounds 0 0 bX10_tryRounds := rs_seq (p2 := 11) (rs_k (rk_v (Mc := mX2_copyFrom) (conX2_copyFrom _ K) (ra_r (rr_f (rr_vn dX10_tryRounds_0 rfl) gfX10_35 dX10_tryRounds_1) (ra_r (rr_f (rr_vn dX10_tryRounds_4 rfl) gfX10_31 dX10_tryRounds_5) (ra_0))) dX10_tryRounds_8 cwX10_285 tw_742 tw_743 (by decide) rfl rfl ⟨rfl, rfl, Nat.le_of_ble_eq_true rfl⟩ (by decide) (by decide) (al_r (al_r al_0)))) (rs_ret (ri_k (rk_v (Mc := mX2_playRounds) (conX2_playRounds _ K) (ra_r (rr_f (rr_vn dX10_tryRounds_11 rfl) gfX10_35 dX10_tryRounds_12) (ra_i (ri_vn dX10_tryRounds_15 rfl) (ra_r (rr_f (rr_vn dX10_tryRounds_16 rfl) gfX10_53 dX10_tryRounds_17) (ra_r (rr_f (rr_vn dX10_tryRounds_20 rfl) gfX10_24 dX10_tryRounds_21) (ra_r (rr_f (rr_vn dX10_tryRounds_24 rfl) gfX10_81 dX10_tryRounds_25) (ra_r (rr_f (rr_vn dX10_tryRounds_28 rfl) gfX10_84 dX10_tryRounds_29) (ra_0))))))) dX10_tryRounds_32 cwX10_270 tw_715 tw_716 (by decide) rfl rfl ⟨rfl, rfl, Nat.le_of_ble_eq_true rfl⟩ (by decide) (by decide) (al_r (al_i (al_r (al_r (al_r (al_r al_0))))))) (Or.inl rfl)) rfl dX10_tryRounds_35)
theorem conX10_tryRounds (l : Launch) (K : ol_K) : ol_Con l K yX10_tryRounds mX10_tryRounds fX10_tryRounds := ol_con (M := mX10_tryRounds) (by decide) rfl rfl (imX10_tryRounds · K)
theorem dX10_fits_0 : decode cX10_fits 0 = .ok (.iconst 0, 1) := by decide +kernel
theorem dX10_fits_1 : decode cX10_fits 1 = .ok (.istore_n 1, 1) := by decide +kernel
theorem dX10_fits_2 : decode cX10_fits 2 = .ok (.iconst 0, 1) := by decide +kernel
theorem dX10_fits_3 : decode cX10_fits 3 = .ok (.istore_n 2, 1) := by decide +kernel
theorem dX10_fits_4 : decode cX10_fits 4 = .ok (.iload_n 2, 1) := by decide +kernel
theorem dX10_fits_5 : decode cX10_fits 5 = .ok (.iconst 4, 1) := by decide +kernel
theorem dX10_fits_6 : decode cX10_fits 6 = .ok (.if_icmp .ge 40, 3) := by decide +kernel
theorem dX10_fits_9 : decode cX10_fits 9 = .ok (.aload_n 0, 1) := by decide +kernel
theorem dX10_fits_10 : decode cX10_fits 10 = .ok (.getfield 18, 3) := by decide +kernel
theorem dX10_fits_13 : decode cX10_fits 13 = .ok (.iload_n 2, 1) := by decide +kernel
theorem dX10_fits_14 : decode cX10_fits 14 = .ok (.aaload, 1) := by decide +kernel
theorem dX10_fits_15 : decode cX10_fits 15 = .ok (.getfield 114, 3) := by decide +kernel
theorem dX10_fits_18 : decode cX10_fits 18 = .ok (.ifCond .eq 22, 3) := by decide +kernel
theorem dX10_fits_21 : decode cX10_fits 21 = .ok (.aload_n 0, 1) := by decide +kernel
theorem dX10_fits_22 : decode cX10_fits 22 = .ok (.aload_n 0, 1) := by decide +kernel
theorem dX10_fits_23 : decode cX10_fits 23 = .ok (.getfield 18, 3) := by decide +kernel
theorem dX10_fits_26 : decode cX10_fits 26 = .ok (.iload_n 2, 1) := by decide +kernel
theorem dX10_fits_27 : decode cX10_fits 27 = .ok (.aaload, 1) := by decide +kernel
theorem dX10_fits_28 : decode cX10_fits 28 = .ok (.invokevirtual 295, 3) := by decide +kernel
theorem dX10_fits_31 : decode cX10_fits 31 = .ok (.ifCond .eq 9, 3) := by decide +kernel
theorem dX10_fits_34 : decode cX10_fits 34 = .ok (.iload_n 1, 1) := by decide +kernel
theorem dX10_fits_35 : decode cX10_fits 35 = .ok (.iconst 1, 1) := by decide +kernel
theorem dX10_fits_36 : decode cX10_fits 36 = .ok (.iload_n 2, 1) := by decide +kernel
theorem dX10_fits_37 : decode cX10_fits 37 = .ok (.ishl, 1) := by decide +kernel
theorem dX10_fits_38 : decode cX10_fits 38 = .ok (.ior, 1) := by decide +kernel
theorem dX10_fits_39 : decode cX10_fits 39 = .ok (.istore_n 1, 1) := by decide +kernel
theorem dX10_fits_40 : decode cX10_fits 40 = .ok (.iinc 2 1, 3) := by decide +kernel
theorem dX10_fits_43 : decode cX10_fits 43 = .ok (.goto (-39), 3) := by decide +kernel
theorem dX10_fits_46 : decode cX10_fits 46 = .ok (.iload_n 1, 1) := by decide +kernel
theorem dX10_fits_47 : decode cX10_fits 47 = .ok (.ireturn, 1) := by decide +kernel
def bX10_fits : ol_SE := es_seq (es_set 1 (ei_c 0)) (es_seq (es_seq (es_set 2 (ei_c 0)) (es_wh (ec_2 ol_lt (ei_v 2) (ei_c 4)) (es_seq (es_if (ec_and (ec_z ol_ne (ei_f 5 2 (er_a 103 (er_f 10 1 (er_v 0)) (ei_v 2)))) (ec_z ol_ne (ei_of (ea_cv 10 fX10_cluesFit (ea_r (er_v 0) (ea_r (er_a 103 (er_f 10 1 (er_v 0)) (ei_v 2)) (ea_0))))))) (es_set 1 (ei_2 ol_or (ei_v 1) (ei_2 ol_shl (ei_c 1) (ei_v 2)))) es_skip) (es_inc 2 1)))) (es_ret (ei_v 1)))
def fX10_fits : ol_FE := ol_fe 3 bX10_fits
set_option maxRecDepth 20000 in
theorem imX10_fits (x : ol_X) (K : ol_K) : IM_S x K mX10_fits 0 0 bX10_fits := rs_seq (p2 := 2) (rs_setn (ri_ic dX10_fits_0 (by unfold ol_inR; omega)) dX10_fits_1 rfl (ol_ltn rfl)) (rs_seq (p2 := 46) (rs_seq (p2 := 4) (rs_setn (ri_ic dX10_fits_2 (by unfold ol_inR; omega)) dX10_fits_3 rfl (ol_ltn rfl)) (rs_wh (pH := 4) (pB := 9) (pE := 46) (pG := 43) (rc_2F (pF := 46) ol_j2_ge_F (ri_vn dX10_fits_4 rfl) (ri_ic dX10_fits_5 (by unfold ol_inR; omega)) dX10_fits_6 (by decide)) (rs_seq (p2 := 40) (rs_if (pT := 34) (pF := 40) (pE := 40) (rc_and (p2 := 21) (pT := 34) (pF := 40) (rc_zF (pF := 40) ol_j1_eq_F (ri_f (rr_a (t := 3) (rr_f (rr_vn dX10_fits_9 rfl) gfX10_18 dX10_fits_10) (ri_vn dX10_fits_13 rfl) (by decide) rfl dX10_fits_14) gfX10_114 dX10_fits_15) dX10_fits_18 (by decide)) (rc_zF (pF := 40) ol_j1_eq_F (ri_k (rk_v (Mc := mX10_cluesFit) (conX10_cluesFit _ K) (ra_r (rr_vn dX10_fits_21 rfl) (ra_r (rr_a (t := 3) (rr_f (rr_vn dX10_fits_22 rfl) gfX10_18 dX10_fits_23) (ri_vn dX10_fits_26 rfl) (by decide) rfl dX10_fits_27) (ra_0))) dX10_fits_28 cwX10_295 tw_781 tw_22 (by decide) rfl rfl ⟨rfl, rfl, Nat.le_of_ble_eq_true rfl⟩ (by decide) (by decide) (al_r (al_r al_0))) (Or.inr (Or.inl rfl))) dX10_fits_31 (by decide))) (rs_setn (ri_2 ol_op_or (ri_vn dX10_fits_34 rfl) (ri_2 ol_op_shl (ri_ic dX10_fits_35 (by unfold ol_inR; omega)) (ri_vn dX10_fits_36 rfl) dX10_fits_37) dX10_fits_38) dX10_fits_39 rfl (ol_ltn rfl)) rs_skip) (rs_inc dX10_fits_40 (ol_ltn rfl))) dX10_fits_43 (by decide))) (rs_ret (ri_vn dX10_fits_46 rfl) rfl dX10_fits_47))
theorem conX10_fits (l : Launch) (K : ol_K) : ol_Con l K yX10_fits mX10_fits fX10_fits := ol_con (M := mX10_fits) (by decide) rfl rfl (imX10_fits · K)
theorem dX8_greatestMean_0 : decode cX8_greatestMean 0 = .ok (.iconst 0, 1) := by decide +kernel
theorem dX8_greatestMean_1 : decode cX8_greatestMean 1 = .ok (.istore 4, 2) := by decide +kernel
theorem dX8_greatestMean_3 : decode cX8_greatestMean 3 = .ok (.iconst 0, 1) := by decide +kernel
theorem dX8_greatestMean_4 : decode cX8_greatestMean 4 = .ok (.istore 5, 2) := by decide +kernel
theorem dX8_greatestMean_6 : decode cX8_greatestMean 6 = .ok (.iload 5, 2) := by decide +kernel
theorem dX8_greatestMean_8 : decode cX8_greatestMean 8 = .ok (.bipush 35, 2) := by decide +kernel
theorem dX8_greatestMean_10 : decode cX8_greatestMean 10 = .ok (.if_icmp .gt 59, 3) := by decide +kernel
theorem dX8_greatestMean_13 : decode cX8_greatestMean 13 = .ok (.iload 4, 2) := by decide +kernel
theorem dX8_greatestMean_15 : decode cX8_greatestMean 15 = .ok (.bipush 100, 2) := by decide +kernel
theorem dX8_greatestMean_17 : decode cX8_greatestMean 17 = .ok (.if_icmp .ge 52, 3) := by decide +kernel
theorem dX8_greatestMean_20 : decode cX8_greatestMean 20 = .ok (.bipush (-6), 2) := by decide +kernel
theorem dX8_greatestMean_22 : decode cX8_greatestMean 22 = .ok (.istore 6, 2) := by decide +kernel
theorem dX8_greatestMean_24 : decode cX8_greatestMean 24 = .ok (.iload 6, 2) := by decide +kernel
theorem dX8_greatestMean_26 : decode cX8_greatestMean 26 = .ok (.bipush 6, 2) := by decide +kernel
theorem dX8_greatestMean_28 : decode cX8_greatestMean 28 = .ok (.if_icmp .gt 35, 3) := by decide +kernel
theorem dX8_greatestMean_31 : decode cX8_greatestMean 31 = .ok (.iload 4, 2) := by decide +kernel
theorem dX8_greatestMean_33 : decode cX8_greatestMean 33 = .ok (.bipush 100, 2) := by decide +kernel
theorem dX8_greatestMean_35 : decode cX8_greatestMean 35 = .ok (.if_icmp .ge 28, 3) := by decide +kernel
theorem dX8_greatestMean_38 : decode cX8_greatestMean 38 = .ok (.iload 4, 2) := by decide +kernel
theorem dX8_greatestMean_40 : decode cX8_greatestMean 40 = .ok (.aload_n 0, 1) := by decide +kernel
theorem dX8_greatestMean_41 : decode cX8_greatestMean 41 = .ok (.aload_n 1, 1) := by decide +kernel
theorem dX8_greatestMean_42 : decode cX8_greatestMean 42 = .ok (.iconst 0, 1) := by decide +kernel
theorem dX8_greatestMean_43 : decode cX8_greatestMean 43 = .ok (.iload 5, 2) := by decide +kernel
theorem dX8_greatestMean_45 : decode cX8_greatestMean 45 = .ok (.iload 6, 2) := by decide +kernel
theorem dX8_greatestMean_47 : decode cX8_greatestMean 47 = .ok (.iload_n 2, 1) := by decide +kernel
theorem dX8_greatestMean_48 : decode cX8_greatestMean 48 = .ok (.aload_n 3, 1) := by decide +kernel
theorem dX8_greatestMean_49 : decode cX8_greatestMean 49 = .ok (.invokevirtual 67, 3) := by decide +kernel
theorem dX8_greatestMean_52 : decode cX8_greatestMean 52 = .ok (.invokestatic 71, 3) := by decide +kernel
theorem dX8_greatestMean_55 : decode cX8_greatestMean 55 = .ok (.istore 4, 2) := by decide +kernel
theorem dX8_greatestMean_57 : decode cX8_greatestMean 57 = .ok (.iinc 6 3, 3) := by decide +kernel
theorem dX8_greatestMean_60 : decode cX8_greatestMean 60 = .ok (.goto (-36), 3) := by decide +kernel
theorem dX8_greatestMean_63 : decode cX8_greatestMean 63 = .ok (.iinc 5 5, 3) := by decide +kernel
theorem dX8_greatestMean_66 : decode cX8_greatestMean 66 = .ok (.goto (-60), 3) := by decide +kernel
theorem dX8_greatestMean_69 : decode cX8_greatestMean 69 = .ok (.iload 4, 2) := by decide +kernel
theorem dX8_greatestMean_71 : decode cX8_greatestMean 71 = .ok (.ireturn, 1) := by decide +kernel
def bX8_greatestMean : ol_SE := es_seq (es_set 4 (ei_c 0)) (es_seq (es_seq (es_set 5 (ei_c 0)) (es_wh (ec_and (ec_2 ol_le (ei_v 5) (ei_c 35)) (ec_2 ol_lt (ei_v 4) (ei_c 100))) (es_seq (es_seq (es_set 6 (ei_c (-6))) (es_wh (ec_and (ec_2 ol_le (ei_v 6) (ei_c 6)) (ec_2 ol_lt (ei_v 4) (ei_c 100))) (es_seq (es_set 4 (ei_2 ol_max (ei_v 4) (ei_of (ea_cv 8 fX8_meanOf (ea_r (er_v 0) (ea_r (er_v 1) (ea_i (ei_c 0) (ea_i (ei_v 5) (ea_i (ei_v 6) (ea_i (ei_v 2) (ea_r (er_v 3) (ea_0)))))))))))) (es_inc 6 3)))) (es_inc 5 5)))) (es_ret (ei_v 4)))
def fX8_greatestMean : ol_FE := ol_fe 7 bX8_greatestMean
set_option maxRecDepth 20000 in
theorem imX8_greatestMean (x : ol_X) (K : ol_K) : IM_S x K mX8_greatestMean 0 0 bX8_greatestMean := rs_seq (p2 := 3) (rs_set (ri_ic dX8_greatestMean_0 (by unfold ol_inR; omega)) dX8_greatestMean_1 (ol_ltn rfl)) (rs_seq (p2 := 69) (rs_seq (p2 := 6) (rs_set (ri_ic dX8_greatestMean_3 (by unfold ol_inR; omega)) dX8_greatestMean_4 (ol_ltn rfl)) (rs_wh (pH := 6) (pB := 20) (pE := 69) (pG := 66) (rc_and (p2 := 13) (pT := 20) (pF := 69) (rc_2F (pF := 69) ol_j2_gt_F (ri_vi dX8_greatestMean_6) (ri_bi dX8_greatestMean_8 (by unfold ol_inR; omega) (by decide)) dX8_greatestMean_10 (by decide)) (rc_2F (pF := 69) ol_j2_ge_F (ri_vi dX8_greatestMean_13) (ri_bi dX8_greatestMean_15 (by unfold ol_inR; omega) (by decide)) dX8_greatestMean_17 (by decide))) (rs_seq (p2 := 63) (rs_seq (p2 := 24) (rs_set (ri_bi dX8_greatestMean_20 (by unfold ol_inR; omega) (by decide)) dX8_greatestMean_22 (ol_ltn rfl)) (rs_wh (pH := 24) (pB := 38) (pE := 63) (pG := 60) (rc_and (p2 := 31) (pT := 38) (pF := 63) (rc_2F (pF := 63) ol_j2_gt_F (ri_vi dX8_greatestMean_24) (ri_bi dX8_greatestMean_26 (by unfold ol_inR; omega) (by decide)) dX8_greatestMean_28 (by decide)) (rc_2F (pF := 63) ol_j2_ge_F (ri_vi dX8_greatestMean_31) (ri_bi dX8_greatestMean_33 (by unfold ol_inR; omega) (by decide)) dX8_greatestMean_35 (by decide))) (rs_seq (p2 := 57) (rs_set (ri_mx (ri_vi dX8_greatestMean_38) (ri_k (rk_v (Mc := mX8_meanOf) (conX8_meanOf _ K) (ra_r (rr_vn dX8_greatestMean_40 rfl) (ra_r (rr_vn dX8_greatestMean_41 rfl) (ra_i (ri_ic dX8_greatestMean_42 (by unfold ol_inR; omega)) (ra_i (ri_vi dX8_greatestMean_43) (ra_i (ri_vi dX8_greatestMean_45) (ra_i (ri_vn dX8_greatestMean_47 rfl) (ra_r (rr_vn dX8_greatestMean_48 rfl) (ra_0)))))))) dX8_greatestMean_49 cwX8_67 tw_669 tw_670 (by decide) rfl rfl ⟨rfl, rfl, Nat.le_of_ble_eq_true rfl⟩ (by decide) (by decide) (al_r (al_r (al_i (al_i (al_i (al_i (al_r al_0)))))))) (Or.inl rfl)) dX8_greatestMean_52 tw_792 ⟨tw_580, tw_69, tw_581⟩ (by decide) (by decide)) dX8_greatestMean_55 (ol_ltn rfl)) (rs_inc dX8_greatestMean_57 (ol_ltn rfl))) dX8_greatestMean_60 (by decide))) (rs_inc dX8_greatestMean_63 (ol_ltn rfl))) dX8_greatestMean_66 (by decide))) (rs_ret (ri_vi dX8_greatestMean_69) rfl dX8_greatestMean_71))
theorem conX8_greatestMean (l : Launch) (K : ol_K) : ol_Con l K yX8_greatestMean mX8_greatestMean fX8_greatestMean := ol_con (M := mX8_greatestMean) (by decide) rfl rfl (imX8_greatestMean · K)
theorem dX10_spare_0 : decode cX10_spare 0 = .ok (.iload_n 1, 1) := by decide +kernel
theorem dX10_spare_1 : decode cX10_spare 1 = .ok (.iconst 0, 1) := by decide +kernel
theorem dX10_spare_2 : decode cX10_spare 2 = .ok (.sipush 1023, 3) := by decide +kernel
theorem dX10_spare_5 : decode cX10_spare 5 = .ok (.invokestatic 98, 3) := by decide +kernel
theorem dX10_spare_8 : decode cX10_spare 8 = .ok (.ifCond .ne 21, 3) := by decide +kernel
theorem dX10_spare_11 : decode cX10_spare 11 = .ok (.iload_n 2, 1) := by decide +kernel
theorem dX10_spare_12 : decode cX10_spare 12 = .ok (.iconst 0, 1) := by decide +kernel
theorem dX10_spare_13 : decode cX10_spare 13 = .ok (.iconst 5, 1) := by decide +kernel
theorem dX10_spare_14 : decode cX10_spare 14 = .ok (.invokestatic 98, 3) := by decide +kernel
theorem dX10_spare_17 : decode cX10_spare 17 = .ok (.ifCond .ne 12, 3) := by decide +kernel
theorem dX10_spare_20 : decode cX10_spare 20 = .ok (.iload_n 3, 1) := by decide +kernel
theorem dX10_spare_21 : decode cX10_spare 21 = .ok (.iconst 0, 1) := by decide +kernel
theorem dX10_spare_22 : decode cX10_spare 22 = .ok (.iconst 2, 1) := by decide +kernel
theorem dX10_spare_23 : decode cX10_spare 23 = .ok (.invokestatic 98, 3) := by decide +kernel
theorem dX10_spare_26 : decode cX10_spare 26 = .ok (.ifCond .eq 6, 3) := by decide +kernel
theorem dX10_spare_29 : decode cX10_spare 29 = .ok (.ldc 165, 2) := by decide +kernel
theorem dX10_spare_31 : decode cX10_spare 31 = .ok (.ireturn, 1) := by decide +kernel
theorem dX10_spare_32 : decode cX10_spare 32 = .ok (.aload_n 0, 1) := by decide +kernel
theorem dX10_spare_33 : decode cX10_spare 33 = .ok (.getfield 73, 3) := by decide +kernel
theorem dX10_spare_36 : decode cX10_spare 36 = .ok (.aload_n 0, 1) := by decide +kernel
theorem dX10_spare_37 : decode cX10_spare 37 = .ok (.getfield 31, 3) := by decide +kernel
theorem dX10_spare_40 : decode cX10_spare 40 = .ok (.getfield 121, 3) := by decide +kernel
theorem dX10_spare_43 : decode cX10_spare 43 = .ok (.iload_n 1, 1) := by decide +kernel
theorem dX10_spare_44 : decode cX10_spare 44 = .ok (.aload_n 0, 1) := by decide +kernel
theorem dX10_spare_45 : decode cX10_spare 45 = .ok (.getfield 24, 3) := by decide +kernel
theorem dX10_spare_48 : decode cX10_spare 48 = .ok (.iload_n 2, 1) := by decide +kernel
theorem dX10_spare_49 : decode cX10_spare 49 = .ok (.aaload, 1) := by decide +kernel
theorem dX10_spare_50 : decode cX10_spare 50 = .ok (.invokevirtual 312, 3) := by decide +kernel
theorem dX10_spare_53 : decode cX10_spare 53 = .ok (.iload_n 3, 1) := by decide +kernel
theorem dX10_spare_54 : decode cX10_spare 54 = .ok (.lookupswitch 42 #[(0, 26), (1, 34)], 26) := by decide +kernel
theorem dX10_spare_80 : decode cX10_spare 80 = .ok (.aload_n 0, 1) := by decide +kernel
theorem dX10_spare_81 : decode cX10_spare 81 = .ok (.getfield 73, 3) := by decide +kernel
theorem dX10_spare_84 : decode cX10_spare 84 = .ok (.getfield 226, 3) := by decide +kernel
theorem dX10_spare_87 : decode cX10_spare 87 = .ok (.ireturn, 1) := by decide +kernel
theorem dX10_spare_88 : decode cX10_spare 88 = .ok (.aload_n 0, 1) := by decide +kernel
theorem dX10_spare_89 : decode cX10_spare 89 = .ok (.getfield 73, 3) := by decide +kernel
theorem dX10_spare_92 : decode cX10_spare 92 = .ok (.getfield 232, 3) := by decide +kernel
theorem dX10_spare_95 : decode cX10_spare 95 = .ok (.ireturn, 1) := by decide +kernel
theorem dX10_spare_96 : decode cX10_spare 96 = .ok (.aload_n 0, 1) := by decide +kernel
theorem dX10_spare_97 : decode cX10_spare 97 = .ok (.getfield 73, 3) := by decide +kernel
theorem dX10_spare_100 : decode cX10_spare 100 = .ok (.getfield 235, 3) := by decide +kernel
theorem dX10_spare_103 : decode cX10_spare 103 = .ok (.ireturn, 1) := by decide +kernel
def bX10_spare : ol_SE := es_seq (es_if (ec_or (ec_or (ec_z ol_ne (ei_of (ea_cs fX10_outside (ea_i (ei_v 1) (ea_i (ei_c 0) (ea_i (ei_c 1023) (ea_0))))))) (ec_z ol_ne (ei_of (ea_cs fX10_outside (ea_i (ei_v 2) (ea_i (ei_c 0) (ea_i (ei_c 5) (ea_0)))))))) (ec_z ol_ne (ei_of (ea_cs fX10_outside (ea_i (ei_v 3) (ea_i (ei_c 0) (ea_i (ei_c 2) (ea_0)))))))) (es_ret (ei_c (-1000000))) es_skip) (es_seq (es_of (ea_cv 8 fX8_seekSpare (ea_r (er_f 10 11 (er_v 0)) (ea_r (er_f 2 0 (er_f 10 3 (er_v 0))) (ea_i (ei_v 1) (ea_r (er_a 104 (er_f 10 2 (er_v 0)) (ei_v 2)) (ea_0))))))) (es_sw (ei_v 3) 0 [es_ret (ei_f 8 4 (er_f 10 11 (er_v 0))), es_ret (ei_f 8 6 (er_f 10 11 (er_v 0)))] (es_ret (ei_f 8 7 (er_f 10 11 (er_v 0))))))
def fX10_spare : ol_FE := ol_fe 4 bX10_spare
set_option maxRecDepth 20000 in
theorem imX10_spare (x : ol_X) (K : ol_K) : IM_S x K mX10_spare 0 0 bX10_spare := rs_seq (p2 := 32) (rs_if (pT := 29) (pF := 32) (pE := 32) (rc_or (p2 := 20) (pT := 29) (pF := 32) (rc_or (p2 := 11) (pT := 29) (pF := 20) (rc_zT (pT := 29) ol_j1_ne_T (ri_k (rk_s (Mc := mX10_outside) (conX10_outside _ K) (ra_i (ri_vn dX10_spare_0 rfl) (ra_i (ri_ic dX10_spare_1 (by unfold ol_inR; omega)) (ra_i (ri_si dX10_spare_2 (by unfold ol_inR; omega) (by decide)) (ra_0)))) dX10_spare_5 cwX10_98 tw_417 ⟨rfl, rfl, Nat.le_of_ble_eq_true rfl⟩ (by decide) (by decide) (al_i (al_i (al_i al_0)))) (Or.inr (Or.inl rfl))) dX10_spare_8 (by decide)) (rc_zT (pT := 29) ol_j1_ne_T (ri_k (rk_s (Mc := mX10_outside) (conX10_outside _ K) (ra_i (ri_vn dX10_spare_11 rfl) (ra_i (ri_ic dX10_spare_12 (by unfold ol_inR; omega)) (ra_i (ri_ic dX10_spare_13 (by unfold ol_inR; omega)) (ra_0)))) dX10_spare_14 cwX10_98 tw_417 ⟨rfl, rfl, Nat.le_of_ble_eq_true rfl⟩ (by decide) (by decide) (al_i (al_i (al_i al_0)))) (Or.inr (Or.inl rfl))) dX10_spare_17 (by decide))) (rc_zF (pF := 32) ol_j1_eq_F (ri_k (rk_s (Mc := mX10_outside) (conX10_outside _ K) (ra_i (ri_vn dX10_spare_20 rfl) (ra_i (ri_ic dX10_spare_21 (by unfold ol_inR; omega)) (ra_i (ri_ic dX10_spare_22 (by unfold ol_inR; omega)) (ra_0)))) dX10_spare_23 cwX10_98 tw_417 ⟨rfl, rfl, Nat.le_of_ble_eq_true rfl⟩ (by decide) (by decide) (al_i (al_i (al_i al_0)))) (Or.inr (Or.inl rfl))) dX10_spare_26 (by decide))) (rs_ret (ri_ldc dX10_spare_29 (by unfold ol_inR; omega) tw_615) rfl dX10_spare_31) rs_skip) (rs_seq (p2 := 53) (rs_k (rk_v (Mc := mX8_seekSpare) (conX8_seekSpare _ K) (ra_r (rr_f (rr_vn dX10_spare_32 rfl) gfX10_73 dX10_spare_33) (ra_r (rr_f (rr_f (rr_vn dX10_spare_36 rfl) gfX10_31 dX10_spare_37) gfX10_121 dX10_spare_40) (ra_i (ri_vn dX10_spare_43 rfl) (ra_r (rr_a (t := 4) (rr_f (rr_vn dX10_spare_44 rfl) gfX10_24 dX10_spare_45) (ri_vn dX10_spare_48 rfl) (by decide) rfl dX10_spare_49) (ra_0))))) dX10_spare_50 cwX10_312 tw_808 tw_809 (by decide) rfl rfl ⟨rfl, rfl, Nat.le_of_ble_eq_true rfl⟩ (by decide) (by decide) (al_r (al_r (al_i (al_r al_0)))))) (rs_lw (pE := 0) (pD := 96) (q0 := 80) (q1 := 88) (ri_vn dX10_spare_53 rfl) dX10_spare_54 (by decide) (rs_ret (ri_f (rr_f (rr_vn dX10_spare_80 rfl) gfX10_73 dX10_spare_81) gfX10_226 dX10_spare_84) rfl dX10_spare_87) (by decide) (rs_ret (ri_f (rr_f (rr_vn dX10_spare_88 rfl) gfX10_73 dX10_spare_89) gfX10_232 dX10_spare_92) rfl dX10_spare_95) (by decide) (rs_ret (ri_f (rr_f (rr_vn dX10_spare_96 rfl) gfX10_73 dX10_spare_97) gfX10_235 dX10_spare_100) rfl dX10_spare_103)))
theorem conX10_spare (l : Launch) (K : ol_K) : ol_Con l K yX10_spare mX10_spare fX10_spare := ol_con (M := mX10_spare) (by decide) rfl rfl (imX10_spare · K)
theorem dX11_item_0 : decode cX11_item 0 = .ok (.iconst 0, 1) := by decide +kernel
theorem dX11_item_1 : decode cX11_item 1 = .ok (.istore_n 2, 1) := by decide +kernel
theorem dX11_item_2 : decode cX11_item 2 = .ok (.bipush 38, 2) := by decide +kernel
theorem dX11_item_4 : decode cX11_item 4 = .ok (.istore_n 3, 1) := by decide +kernel
theorem dX11_item_5 : decode cX11_item 5 = .ok (.iload_n 1, 1) := by decide +kernel
theorem dX11_item_6 : decode cX11_item 6 = .ok (.iconst 1, 1) := by decide +kernel
theorem dX11_item_7 : decode cX11_item 7 = .ok (.if_icmp .ne 19, 3) := by decide +kernel
theorem dX11_item_10 : decode cX11_item 10 = .ok (.aload_n 0, 1) := by decide +kernel
theorem dX11_item_11 : decode cX11_item 11 = .ok (.iconst 0, 1) := by decide +kernel
theorem dX11_item_12 : decode cX11_item 12 = .ok (.bipush 38, 2) := by decide +kernel
theorem dX11_item_14 : decode cX11_item 14 = .ok (.invokevirtual 100, 3) := by decide +kernel
theorem dX11_item_17 : decode cX11_item 17 = .ok (.istore_n 2, 1) := by decide +kernel
theorem dX11_item_18 : decode cX11_item 18 = .ok (.aload_n 0, 1) := by decide +kernel
theorem dX11_item_19 : decode cX11_item 19 = .ok (.iload_n 2, 1) := by decide +kernel
theorem dX11_item_20 : decode cX11_item 20 = .ok (.bipush 38, 2) := by decide +kernel
theorem dX11_item_22 : decode cX11_item 22 = .ok (.invokevirtual 100, 3) := by decide +kernel
theorem dX11_item_25 : decode cX11_item 25 = .ok (.istore_n 3, 1) := by decide +kernel
theorem dX11_item_26 : decode cX11_item 26 = .ok (.aload_n 0, 1) := by decide +kernel
theorem dX11_item_27 : decode cX11_item 27 = .ok (.iconst 0, 1) := by decide +kernel
theorem dX11_item_28 : decode cX11_item 28 = .ok (.bipush 19, 2) := by decide +kernel
theorem dX11_item_30 : decode cX11_item 30 = .ok (.invokevirtual 100, 3) := by decide +kernel
theorem dX11_item_33 : decode cX11_item 33 = .ok (.istore 4, 2) := by decide +kernel
theorem dX11_item_35 : decode cX11_item 35 = .ok (.aload_n 0, 1) := by decide +kernel
theorem dX11_item_36 : decode cX11_item 36 = .ok (.iload 4, 2) := by decide +kernel
theorem dX11_item_38 : decode cX11_item 38 = .ok (.bipush 19, 2) := by decide +kernel
theorem dX11_item_40 : decode cX11_item 40 = .ok (.invokevirtual 100, 3) := by decide +kernel
theorem dX11_item_43 : decode cX11_item 43 = .ok (.istore 5, 2) := by decide +kernel
theorem dX11_item_45 : decode cX11_item 45 = .ok (.iload_n 1, 1) := by decide +kernel
theorem dX11_item_46 : decode cX11_item 46 = .ok (.iconst 1, 1) := by decide +kernel
theorem dX11_item_47 : decode cX11_item 47 = .ok (.if_icmp .ne 13, 3) := by decide +kernel
theorem dX11_item_50 : decode cX11_item 50 = .ok (.aload_n 0, 1) := by decide +kernel
theorem dX11_item_51 : decode cX11_item 51 = .ok (.iconst 1, 1) := by decide +kernel
theorem dX11_item_52 : decode cX11_item 52 = .ok (.bipush 30, 2) := by decide +kernel
theorem dX11_item_54 : decode cX11_item 54 = .ok (.invokevirtual 100, 3) := by decide +kernel
theorem dX11_item_57 : decode cX11_item 57 = .ok (.goto 4, 3) := by decide +kernel
theorem dX11_item_60 : decode cX11_item 60 = .ok (.iconst 0, 1) := by decide +kernel
theorem dX11_item_61 : decode cX11_item 61 = .ok (.istore 6, 2) := by decide +kernel
theorem dX11_item_63 : decode cX11_item 63 = .ok (.aload_n 0, 1) := by decide +kernel
theorem dX11_item_64 : decode cX11_item 64 = .ok (.aload_n 0, 1) := by decide +kernel
theorem dX11_item_65 : decode cX11_item 65 = .ok (.getfield 86, 3) := by decide +kernel
theorem dX11_item_68 : decode cX11_item 68 = .ok (.iconst 4, 1) := by decide +kernel
theorem dX11_item_69 : decode cX11_item 69 = .ok (.if_icmp .ne 7, 3) := by decide +kernel
theorem dX11_item_72 : decode cX11_item 72 = .ok (.iconst 1, 1) := by decide +kernel
theorem dX11_item_73 : decode cX11_item 73 = .ok (.goto 4, 3) := by decide +kernel
theorem dX11_item_76 : decode cX11_item 76 = .ok (.iconst 0, 1) := by decide +kernel
theorem dX11_item_77 : decode cX11_item 77 = .ok (.invokevirtual 96, 3) := by decide +kernel
theorem dX11_item_80 : decode cX11_item 80 = .ok (.pop, 1) := by decide +kernel
theorem dX11_item_81 : decode cX11_item 81 = .ok (.iload 4, 2) := by decide +kernel
theorem dX11_item_83 : decode cX11_item 83 = .ok (.istore 7, 2) := by decide +kernel
theorem dX11_item_85 : decode cX11_item 85 = .ok (.iload 7, 2) := by decide +kernel
theorem dX11_item_87 : decode cX11_item 87 = .ok (.iload 5, 2) := by decide +kernel
theorem dX11_item_89 : decode cX11_item 89 = .ok (.if_icmp .gt 89, 3) := by decide +kernel
theorem dX11_item_92 : decode cX11_item 92 = .ok (.aload_n 0, 1) := by decide +kernel
theorem dX11_item_93 : decode cX11_item 93 = .ok (.getfield 90, 3) := by decide +kernel
theorem dX11_item_96 : decode cX11_item 96 = .ok (.bipush (-9), 2) := by decide +kernel
theorem dX11_item_98 : decode cX11_item 98 = .ok (.if_icmp .ne 80, 3) := by decide +kernel
theorem dX11_item_101 : decode cX11_item 101 = .ok (.iload_n 2, 1) := by decide +kernel
theorem dX11_item_102 : decode cX11_item 102 = .ok (.istore 8, 2) := by decide +kernel
theorem dX11_item_104 : decode cX11_item 104 = .ok (.iload 8, 2) := by decide +kernel
theorem dX11_item_106 : decode cX11_item 106 = .ok (.iload_n 3, 1) := by decide +kernel
theorem dX11_item_107 : decode cX11_item 107 = .ok (.if_icmp .gt 65, 3) := by decide +kernel
theorem dX11_item_110 : decode cX11_item 110 = .ok (.sipush 6240, 3) := by decide +kernel
theorem dX11_item_113 : decode cX11_item 113 = .ok (.bipush 39, 2) := by decide +kernel
theorem dX11_item_115 : decode cX11_item 115 = .ok (.iload 7, 2) := by decide +kernel
theorem dX11_item_117 : decode cX11_item 117 = .ok (.imul, 1) := by decide +kernel
theorem dX11_item_118 : decode cX11_item 118 = .ok (.iadd, 1) := by decide +kernel
theorem dX11_item_119 : decode cX11_item 119 = .ok (.iload 8, 2) := by decide +kernel
theorem dX11_item_121 : decode cX11_item 121 = .ok (.iadd, 1) := by decide +kernel
theorem dX11_item_122 : decode cX11_item 122 = .ok (.istore 9, 2) := by decide +kernel
theorem dX11_item_124 : decode cX11_item 124 = .ok (.aload_n 0, 1) := by decide +kernel
theorem dX11_item_125 : decode cX11_item 125 = .ok (.getfield 13, 3) := by decide +kernel
theorem dX11_item_128 : decode cX11_item 128 = .ok (.iload 9, 2) := by decide +kernel
theorem dX11_item_130 : decode cX11_item 130 = .ok (.iaload, 1) := by decide +kernel
theorem dX11_item_131 : decode cX11_item 131 = .ok (.iload 6, 2) := by decide +kernel
theorem dX11_item_133 : decode cX11_item 133 = .ok (.iadd, 1) := by decide +kernel
theorem dX11_item_134 : decode cX11_item 134 = .ok (.istore 10, 2) := by decide +kernel
theorem dX11_item_136 : decode cX11_item 136 = .ok (.aload_n 0, 1) := by decide +kernel
theorem dX11_item_137 : decode cX11_item 137 = .ok (.getfield 13, 3) := by decide +kernel
theorem dX11_item_140 : decode cX11_item 140 = .ok (.iload 9, 2) := by decide +kernel
theorem dX11_item_142 : decode cX11_item 142 = .ok (.iload_n 1, 1) := by decide +kernel
theorem dX11_item_143 : decode cX11_item 143 = .ok (.iconst 2, 1) := by decide +kernel
theorem dX11_item_144 : decode cX11_item 144 = .ok (.if_icmp .ne 7, 3) := by decide +kernel
theorem dX11_item_147 : decode cX11_item 147 = .ok (.iconst 0, 1) := by decide +kernel
theorem dX11_item_148 : decode cX11_item 148 = .ok (.goto 17, 3) := by decide +kernel
theorem dX11_item_151 : decode cX11_item 151 = .ok (.iload 10, 2) := by decide +kernel
theorem dX11_item_153 : decode cX11_item 153 = .ok (.bipush 99, 2) := by decide +kernel
theorem dX11_item_155 : decode cX11_item 155 = .ok (.if_icmp .le 8, 3) := by decide +kernel
theorem dX11_item_158 : decode cX11_item 158 = .ok (.bipush 99, 2) := by decide +kernel
theorem dX11_item_160 : decode cX11_item 160 = .ok (.goto 5, 3) := by decide +kernel
theorem dX11_item_163 : decode cX11_item 163 = .ok (.iload 10, 2) := by decide +kernel
theorem dX11_item_165 : decode cX11_item 165 = .ok (.iastore, 1) := by decide +kernel
theorem dX11_item_166 : decode cX11_item 166 = .ok (.iinc 8 1, 3) := by decide +kernel
theorem dX11_item_169 : decode cX11_item 169 = .ok (.goto (-65), 3) := by decide +kernel
theorem dX11_item_172 : decode cX11_item 172 = .ok (.iinc 7 1, 3) := by decide +kernel
theorem dX11_item_175 : decode cX11_item 175 = .ok (.goto (-90), 3) := by decide +kernel
theorem dX11_item_178 : decode cX11_item 178 = .ok (.return_, 1) := by decide +kernel
def bX11_item : ol_SE := es_seq (es_set 2 (ei_c 0)) (es_seq (es_set 3 (ei_c 38)) (es_seq (es_if (ec_2 ol_eq (ei_v 1) (ei_c 1)) (es_seq (es_set 2 (ei_of (ea_cv 11 fX11_number (ea_r (er_v 0) (ea_i (ei_c 0) (ea_i (ei_c 38) (ea_0))))))) (es_set 3 (ei_of (ea_cv 11 fX11_number (ea_r (er_v 0) (ea_i (ei_v 2) (ea_i (ei_c 38) (ea_0)))))))) es_skip) (es_seq (es_set 4 (ei_of (ea_cv 11 fX11_number (ea_r (er_v 0) (ea_i (ei_c 0) (ea_i (ei_c 19) (ea_0))))))) (es_seq (es_set 5 (ei_of (ea_cv 11 fX11_number (ea_r (er_v 0) (ea_i (ei_v 4) (ea_i (ei_c 19) (ea_0))))))) (es_seq (es_set 6 (ei_if (ec_2 ol_eq (ei_v 1) (ei_c 1)) (ei_of (ea_cv 11 fX11_number (ea_r (er_v 0) (ea_i (ei_c 1) (ea_i (ei_c 30) (ea_0)))))) (ei_c 0))) (es_seq (es_of (ea_cv 11 fX11_due (ea_r (er_v 0) (ea_i (ei_if (ec_2 ol_eq (ei_f 11 7 (er_v 0)) (ei_c 4)) (ei_c 1) (ei_c 0)) (ea_0))))) (es_seq (es_seq (es_set 7 (ei_v 4)) (es_wh (ec_and (ec_2 ol_le (ei_v 7) (ei_v 5)) (ec_2 ol_eq (ei_f 11 9 (er_v 0)) (ei_c (-9)))) (es_seq (es_seq (es_set 8 (ei_v 2)) (es_wh (ec_2 ol_le (ei_v 8) (ei_v 3)) (es_seq (es_seq (es_set 9 (ei_2 ol_add (ei_2 ol_add (ei_c 6240) (ei_2 ol_mul (ei_c 39) (ei_v 7))) (ei_v 8))) (es_seq (es_set 10 (ei_2 ol_add (ei_a 100 (er_f 11 3 (er_v 0)) (ei_v 9)) (ei_v 6))) (es_as 100 (er_f 11 3 (er_v 0)) (ei_v 9) (ei_if (ec_2 ol_eq (ei_v 1) (ei_c 2)) (ei_c 0) (ei_if (ec_2 ol_gt (ei_v 10) (ei_c 99)) (ei_c 99) (ei_v 10)))))) (es_inc 8 1)))) (es_inc 7 1)))) (es_retv))))))))
def fX11_item : ol_FE := ol_fe 11 bX11_item
set_option maxRecDepth 20000 in
theorem imX11_item (x : ol_X) (K : ol_K) : IM_S x K mX11_item 0 0 bX11_item := rs_seq (p2 := 2) (rs_setn (ri_ic dX11_item_0 (by unfold ol_inR; omega)) dX11_item_1 rfl (ol_ltn rfl)) (rs_seq (p2 := 5) (rs_setn (ri_bi dX11_item_2 (by unfold ol_inR; omega) (by decide)) dX11_item_4 rfl (ol_ltn rfl)) (rs_seq (p2 := 26) (rs_if (pT := 10) (pF := 26) (pE := 26) (rc_2F (pF := 26) ol_j2_ne_F (ri_vn dX11_item_5 rfl) (ri_ic dX11_item_6 (by unfold ol_inR; omega)) dX11_item_7 (by decide)) (rs_seq (p2 := 18) (rs_setn (ri_k (rk_v (Mc := mX11_number) (conX11_number _ K) (ra_r (rr_vn dX11_item_10 rfl) (ra_i (ri_ic dX11_item_11 (by unfold ol_inR; omega)) (ra_i (ri_bi dX11_item_12 (by unfold ol_inR; omega) (by decide)) (ra_0)))) dX11_item_14 cwX11_100 tw_1011 tw_29 (by decide) rfl rfl ⟨rfl, rfl, Nat.le_of_ble_eq_true rfl⟩ (by decide) (by decide) (al_r (al_i (al_i al_0)))) (Or.inl rfl)) dX11_item_17 rfl (ol_ltn rfl)) (rs_setn (ri_k (rk_v (Mc := mX11_number) (conX11_number _ K) (ra_r (rr_vn dX11_item_18 rfl) (ra_i (ri_vn dX11_item_19 rfl) (ra_i (ri_bi dX11_item_20 (by unfold ol_inR; omega) (by decide)) (ra_0)))) dX11_item_22 cwX11_100 tw_1011 tw_29 (by decide) rfl rfl ⟨rfl, rfl, Nat.le_of_ble_eq_true rfl⟩ (by decide) (by decide) (al_r (al_i (al_i al_0)))) (Or.inl rfl)) dX11_item_25 rfl (ol_ltn rfl))) rs_skip) (rs_seq (p2 := 35) (rs_set (ri_k (rk_v (Mc := mX11_number) (conX11_number _ K) (ra_r (rr_vn dX11_item_26 rfl) (ra_i (ri_ic dX11_item_27 (by unfold ol_inR; omega)) (ra_i (ri_bi dX11_item_28 (by unfold ol_inR; omega) (by decide)) (ra_0)))) dX11_item_30 cwX11_100 tw_1011 tw_29 (by decide) rfl rfl ⟨rfl, rfl, Nat.le_of_ble_eq_true rfl⟩ (by decide) (by decide) (al_r (al_i (al_i al_0)))) (Or.inl rfl)) dX11_item_33 (ol_ltn rfl)) (rs_seq (p2 := 45) (rs_set (ri_k (rk_v (Mc := mX11_number) (conX11_number _ K) (ra_r (rr_vn dX11_item_35 rfl) (ra_i (ri_vi dX11_item_36) (ra_i (ri_bi dX11_item_38 (by unfold ol_inR; omega) (by decide)) (ra_0)))) dX11_item_40 cwX11_100 tw_1011 tw_29 (by decide) rfl rfl ⟨rfl, rfl, Nat.le_of_ble_eq_true rfl⟩ (by decide) (by decide) (al_r (al_i (al_i al_0)))) (Or.inl rfl)) dX11_item_43 (ol_ltn rfl)) (rs_seq (p2 := 63) (rs_set (ri_if (pT := 50) (pF := 60) (p3 := 61) (rc_2F (pF := 60) ol_j2_ne_F (ri_vn dX11_item_45 rfl) (ri_ic dX11_item_46 (by unfold ol_inR; omega)) dX11_item_47 (by decide)) (ri_k (rk_v (Mc := mX11_number) (conX11_number _ K) (ra_r (rr_vn dX11_item_50 rfl) (ra_i (ri_ic dX11_item_51 (by unfold ol_inR; omega)) (ra_i (ri_bi dX11_item_52 (by unfold ol_inR; omega) (by decide)) (ra_0)))) dX11_item_54 cwX11_100 tw_1011 tw_29 (by decide) rfl rfl ⟨rfl, rfl, Nat.le_of_ble_eq_true rfl⟩ (by decide) (by decide) (al_r (al_i (al_i al_0)))) (Or.inl rfl)) dX11_item_57 (by decide) (ri_ic dX11_item_60 (by unfold ol_inR; omega))) dX11_item_61 (ol_ltn rfl)) (rs_seq (p2 := 81) (rs_kp (rk_v (Mc := mX11_due) (conX11_due _ K) (ra_r (rr_vn dX11_item_63 rfl) (ra_i (ri_if (pT := 72) (pF := 76) (p3 := 77) (rc_2F (pF := 76) ol_j2_ne_F (ri_f (rr_vn dX11_item_64 rfl) gfX11_86 dX11_item_65) (ri_ic dX11_item_68 (by unfold ol_inR; omega)) dX11_item_69 (by decide)) (ri_ic dX11_item_72 (by unfold ol_inR; omega)) dX11_item_73 (by decide) (ri_ic dX11_item_76 (by unfold ol_inR; omega))) (ra_0))) dX11_item_77 cwX11_96 tw_1003 tw_27 (by decide) rfl rfl ⟨rfl, rfl, Nat.le_of_ble_eq_true rfl⟩ (by decide) (by decide) (al_r (al_i al_0))) dX11_item_80) (rs_seq (p2 := 178) (rs_seq (p2 := 85) (rs_set (ri_vi dX11_item_81) dX11_item_83 (ol_ltn rfl)) (rs_wh (pH := 85) (pB := 101) (pE := 178) (pG := 175) (rc_and (p2 := 92) (pT := 101) (pF := 178) (rc_2F (pF := 178) ol_j2_gt_F (ri_vi dX11_item_85) (ri_vi dX11_item_87) dX11_item_89 (by decide)) (rc_2F (pF := 178) ol_j2_ne_F (ri_f (rr_vn dX11_item_92 rfl) gfX11_90 dX11_item_93) (ri_bi dX11_item_96 (by unfold ol_inR; omega) (by decide)) dX11_item_98 (by decide))) (rs_seq (p2 := 172) (rs_seq (p2 := 104) (rs_set (ri_vn dX11_item_101 rfl) dX11_item_102 (ol_ltn rfl)) (rs_wh (pH := 104) (pB := 110) (pE := 172) (pG := 169) (rc_2F (pF := 172) ol_j2_gt_F (ri_vi dX11_item_104) (ri_vn dX11_item_106 rfl) dX11_item_107 (by decide)) (rs_seq (p2 := 166) (rs_seq (p2 := 124) (rs_set (ri_2 ol_op_add (ri_2 ol_op_add (ri_si dX11_item_110 (by unfold ol_inR; omega) (by decide)) (ri_2 ol_op_mul (ri_bi dX11_item_113 (by unfold ol_inR; omega) (by decide)) (ri_vi dX11_item_115) dX11_item_117) dX11_item_118) (ri_vi dX11_item_119) dX11_item_121) dX11_item_122 (ol_ltn rfl)) (rs_seq (p2 := 136) (rs_set (ri_2 ol_op_add (ri_a (rr_f (rr_vn dX11_item_124 rfl) gfX11_13 dX11_item_125) (ri_vi dX11_item_128) rfl dX11_item_130) (ri_vi dX11_item_131) dX11_item_133) dX11_item_134 (ol_ltn rfl)) (rs_as (rr_f (rr_vn dX11_item_136 rfl) gfX11_13 dX11_item_137) (ri_vi dX11_item_140) (ri_if (pT := 147) (pF := 151) (p3 := 165) (rc_2F (pF := 151) ol_j2_ne_F (ri_vn dX11_item_142 rfl) (ri_ic dX11_item_143 (by unfold ol_inR; omega)) dX11_item_144 (by decide)) (ri_ic dX11_item_147 (by unfold ol_inR; omega)) dX11_item_148 (by decide) (ri_if (pT := 158) (pF := 163) (p3 := 165) (rc_2F (pF := 163) ol_j2_le_F (ri_vi dX11_item_151) (ri_bi dX11_item_153 (by unfold ol_inR; omega) (by decide)) dX11_item_155 (by decide)) (ri_bi dX11_item_158 (by unfold ol_inR; omega) (by decide)) dX11_item_160 (by decide) (ri_vi dX11_item_163))) dX11_item_165))) (rs_inc dX11_item_166 (ol_ltn rfl))) dX11_item_169 (by decide))) (rs_inc dX11_item_172 (ol_ltn rfl))) dX11_item_175 (by decide))) (rs_retv rfl dX11_item_178))))))))
theorem conX11_item (l : Launch) (K : ol_K) : ol_Con l K yX11_item mX11_item fX11_item := ol_con (M := mX11_item) (by decide) rfl rfl (imX11_item · K)
theorem dX11_shot_0 : decode cX11_shot 0 = .ok (.iload_n 1, 1) := by decide +kernel
theorem dX11_shot_1 : decode cX11_shot 1 = .ok (.iload_n 2, 1) := by decide +kernel
theorem dX11_shot_2 : decode cX11_shot 2 = .ok (.iload_n 3, 1) := by decide +kernel
theorem dX11_shot_3 : decode cX11_shot 3 = .ok (.iload 4, 2) := by decide +kernel
theorem dX11_shot_5 : decode cX11_shot 5 = .ok (.invokestatic 176, 3) := by decide +kernel
theorem dX11_shot_8 : decode cX11_shot 8 = .ok (.ifCond .eq 18, 3) := by decide +kernel
theorem dX11_shot_11 : decode cX11_shot 11 = .ok (.aload_n 0, 1) := by decide +kernel
theorem dX11_shot_12 : decode cX11_shot 12 = .ok (.iload_n 1, 1) := by decide +kernel
theorem dX11_shot_13 : decode cX11_shot 13 = .ok (.iload_n 2, 1) := by decide +kernel
theorem dX11_shot_14 : decode cX11_shot 14 = .ok (.iload_n 3, 1) := by decide +kernel
theorem dX11_shot_15 : decode cX11_shot 15 = .ok (.iload 4, 2) := by decide +kernel
theorem dX11_shot_17 : decode cX11_shot 17 = .ok (.invokevirtual 180, 3) := by decide +kernel
theorem dX11_shot_20 : decode cX11_shot 20 = .ok (.invokestatic 183, 3) := by decide +kernel
theorem dX11_shot_23 : decode cX11_shot 23 = .ok (.goto 4, 3) := by decide +kernel
theorem dX11_shot_26 : decode cX11_shot 26 = .ok (.iconst (-1), 1) := by decide +kernel
theorem dX11_shot_27 : decode cX11_shot 27 = .ok (.ireturn, 1) := by decide +kernel
def bX11_shot : ol_SE := es_ret (ei_if (ec_z ol_ne (ei_of (ea_cs fX11_isShot (ea_i (ei_v 1) (ea_i (ei_v 2) (ea_i (ei_v 3) (ea_i (ei_v 4) (ea_0)))))))) (ei_of (ea_cs fX11_bitsIn (ea_i (ei_of (ea_cv 11 fX11_throwOne (ea_r (er_v 0) (ea_i (ei_v 1) (ea_i (ei_v 2) (ea_i (ei_v 3) (ea_i (ei_v 4) (ea_0)))))))) (ea_0)))) (ei_c (-1)))
def fX11_shot : ol_FE := ol_fe 5 bX11_shot
set_option maxRecDepth 20000 in
theorem imX11_shot (x : ol_X) (K : ol_K) : IM_S x K mX11_shot 0 0 bX11_shot := rs_ret (ri_if (pT := 11) (pF := 26) (p3 := 27) (rc_zF (pF := 26) ol_j1_eq_F (ri_k (rk_s (Mc := mX11_isShot) (conX11_isShot _ K) (ra_i (ri_vn dX11_shot_0 rfl) (ra_i (ri_vn dX11_shot_1 rfl) (ra_i (ri_vn dX11_shot_2 rfl) (ra_i (ri_vi dX11_shot_3) (ra_0))))) dX11_shot_5 cwX11_176 tw_1061 ⟨rfl, rfl, Nat.le_of_ble_eq_true rfl⟩ (by decide) (by decide) (al_i (al_i (al_i (al_i al_0))))) (Or.inr (Or.inl rfl))) dX11_shot_8 (by decide)) (ri_k (rk_s (Mc := mX11_bitsIn) (conX11_bitsIn _ K) (ra_i (ri_k (rk_v (Mc := mX11_throwOne) (conX11_throwOne _ K) (ra_r (rr_vn dX11_shot_11 rfl) (ra_i (ri_vn dX11_shot_12 rfl) (ra_i (ri_vn dX11_shot_13 rfl) (ra_i (ri_vn dX11_shot_14 rfl) (ra_i (ri_vi dX11_shot_15) (ra_0)))))) dX11_shot_17 cwX11_180 tw_1065 tw_35 (by decide) rfl rfl ⟨rfl, rfl, Nat.le_of_ble_eq_true rfl⟩ (by decide) (by decide) (al_r (al_i (al_i (al_i (al_i al_0)))))) (Or.inl rfl)) (ra_0)) dX11_shot_20 cwX11_183 tw_1080 ⟨rfl, rfl, Nat.le_of_ble_eq_true rfl⟩ (by decide) (by decide) (al_i al_0)) (Or.inl rfl)) dX11_shot_23 (by decide) (ri_ic dX11_shot_26 (by unfold ol_inR; omega))) rfl dX11_shot_27
theorem conX11_shot (l : Launch) (K : ol_K) : ol_Con l K yX11_shot mX11_shot fX11_shot := ol_con (M := mX11_shot) (by decide) rfl rfl (imX11_shot · K)
theorem dX11_tried_0 : decode cX11_tried 0 = .ok (.iload_n 1, 1) := by decide +kernel
theorem dX11_tried_1 : decode cX11_tried 1 = .ok (.iload_n 2, 1) := by decide +kernel
theorem dX11_tried_2 : decode cX11_tried 2 = .ok (.iload_n 3, 1) := by decide +kernel
theorem dX11_tried_3 : decode cX11_tried 3 = .ok (.iload 4, 2) := by decide +kernel
theorem dX11_tried_5 : decode cX11_tried 5 = .ok (.invokestatic 176, 3) := by decide +kernel
theorem dX11_tried_8 : decode cX11_tried 8 = .ok (.ifCond .ne 6, 3) := by decide +kernel
theorem dX11_tried_11 : decode cX11_tried 11 = .ok (.ldc 187, 2) := by decide +kernel
theorem dX11_tried_13 : decode cX11_tried 13 = .ok (.ireturn, 1) := by decide +kernel
theorem dX11_tried_14 : decode cX11_tried 14 = .ok (.aload_n 0, 1) := by decide +kernel
theorem dX11_tried_15 : decode cX11_tried 15 = .ok (.iconst 0, 1) := by decide +kernel
theorem dX11_tried_16 : decode cX11_tried 16 = .ok (.iload_n 1, 1) := by decide +kernel
theorem dX11_tried_17 : decode cX11_tried 17 = .ok (.iload_n 2, 1) := by decide +kernel
theorem dX11_tried_18 : decode cX11_tried 18 = .ok (.iload_n 3, 1) := by decide +kernel
theorem dX11_tried_19 : decode cX11_tried 19 = .ok (.iload 4, 2) := by decide +kernel
theorem dX11_tried_21 : decode cX11_tried 21 = .ok (.invokevirtual 188, 3) := by decide +kernel
theorem dX11_tried_24 : decode cX11_tried 24 = .ok (.aload_n 0, 1) := by decide +kernel
theorem dX11_tried_25 : decode cX11_tried 25 = .ok (.getfield 147, 3) := by decide +kernel
theorem dX11_tried_28 : decode cX11_tried 28 = .ok (.ifCond .eq 7, 3) := by decide +kernel
theorem dX11_tried_31 : decode cX11_tried 31 = .ok (.iconst (-1), 1) := by decide +kernel
theorem dX11_tried_32 : decode cX11_tried 32 = .ok (.goto 7, 3) := by decide +kernel
theorem dX11_tried_35 : decode cX11_tried 35 = .ok (.aload_n 0, 1) := by decide +kernel
theorem dX11_tried_36 : decode cX11_tried 36 = .ok (.getfield 144, 3) := by decide +kernel
theorem dX11_tried_39 : decode cX11_tried 39 = .ok (.ireturn, 1) := by decide +kernel
def bX11_tried : ol_SE := es_seq (es_if (ec_not (ec_z ol_ne (ei_of (ea_cs fX11_isShot (ea_i (ei_v 1) (ea_i (ei_v 2) (ea_i (ei_v 3) (ea_i (ei_v 4) (ea_0))))))))) (es_ret (ei_c (-1000000))) es_skip) (es_seq (es_of (ea_cv 11 fX11_goTried (ea_r (er_v 0) (ea_i (ei_c 0) (ea_i (ei_v 1) (ea_i (ei_v 2) (ea_i (ei_v 3) (ea_i (ei_v 4) (ea_0))))))))) (es_ret (ei_if (ec_z ol_ne (ei_f 11 18 (er_v 0))) (ei_c (-1)) (ei_f 11 12 (er_v 0)))))
def fX11_tried : ol_FE := ol_fe 5 bX11_tried
set_option maxRecDepth 20000 in
theorem imX11_tried (x : ol_X) (K : ol_K) : IM_S x K mX11_tried 0 0 bX11_tried := rs_seq (p2 := 14) (rs_if (pT := 11) (pF := 14) (pE := 14) (rc_not (rc_zT (pT := 14) ol_j1_ne_T (ri_k (rk_s (Mc := mX11_isShot) (conX11_isShot _ K) (ra_i (ri_vn dX11_tried_0 rfl) (ra_i (ri_vn dX11_tried_1 rfl) (ra_i (ri_vn dX11_tried_2 rfl) (ra_i (ri_vi dX11_tried_3) (ra_0))))) dX11_tried_5 cwX11_176 tw_1061 ⟨rfl, rfl, Nat.le_of_ble_eq_true rfl⟩ (by decide) (by decide) (al_i (al_i (al_i (al_i al_0))))) (Or.inr (Or.inl rfl))) dX11_tried_8 (by decide))) (rs_ret (ri_ldc dX11_tried_11 (by unfold ol_inR; omega) tw_1086) rfl dX11_tried_13) rs_skip) (rs_seq (p2 := 24) (rs_k (rk_v (Mc := mX11_goTried) (conX11_goTried _ K) (ra_r (rr_vn dX11_tried_14 rfl) (ra_i (ri_ic dX11_tried_15 (by unfold ol_inR; omega)) (ra_i (ri_vn dX11_tried_16 rfl) (ra_i (ri_vn dX11_tried_17 rfl) (ra_i (ri_vn dX11_tried_18 rfl) (ra_i (ri_vi dX11_tried_19) (ra_0))))))) dX11_tried_21 cwX11_188 tw_1093 tw_39 (by decide) rfl rfl ⟨rfl, rfl, Nat.le_of_ble_eq_true rfl⟩ (by decide) (by decide) (al_r (al_i (al_i (al_i (al_i (al_i al_0)))))))) (rs_ret (ri_if (pT := 31) (pF := 35) (p3 := 39) (rc_zF (pF := 35) ol_j1_eq_F (ri_f (rr_vn dX11_tried_24 rfl) gfX11_147 dX11_tried_25) dX11_tried_28 (by decide)) (ri_ic dX11_tried_31 (by unfold ol_inR; omega)) dX11_tried_32 (by decide) (ri_f (rr_vn dX11_tried_35 rfl) gfX11_144 dX11_tried_36)) rfl dX11_tried_39))
theorem conX11_tried (l : Launch) (K : ol_K) : ol_Con l K yX11_tried mX11_tried fX11_tried := ol_con (M := mX11_tried) (by decide) rfl rfl (imX11_tried · K)
theorem dX11_findFells_0 : decode cX11_findFells 0 = .ok (.iconst 0, 1) := by decide +kernel
theorem dX11_findFells_1 : decode cX11_findFells 1 = .ok (.istore 5, 2) := by decide +kernel
theorem dX11_findFells_3 : decode cX11_findFells 3 = .ok (.iload 5, 2) := by decide +kernel
theorem dX11_findFells_5 : decode cX11_findFells 5 = .ok (.bipush 39, 2) := by decide +kernel
theorem dX11_findFells_7 : decode cX11_findFells 7 = .ok (.if_icmp .ge 39, 3) := by decide +kernel
theorem dX11_findFells_10 : decode cX11_findFells 10 = .ok (.aload_n 0, 1) := by decide +kernel
theorem dX11_findFells_11 : decode cX11_findFells 11 = .ok (.iload_n 1, 1) := by decide +kernel
theorem dX11_findFells_12 : decode cX11_findFells 12 = .ok (.iload 5, 2) := by decide +kernel
theorem dX11_findFells_14 : decode cX11_findFells 14 = .ok (.iload_n 2, 1) := by decide +kernel
theorem dX11_findFells_15 : decode cX11_findFells 15 = .ok (.iload_n 3, 1) := by decide +kernel
theorem dX11_findFells_16 : decode cX11_findFells 16 = .ok (.iload 4, 2) := by decide +kernel
theorem dX11_findFells_18 : decode cX11_findFells 18 = .ok (.invokevirtual 188, 3) := by decide +kernel
theorem dX11_findFells_21 : decode cX11_findFells 21 = .ok (.aload_n 0, 1) := by decide +kernel
theorem dX11_findFells_22 : decode cX11_findFells 22 = .ok (.getfield 41, 3) := by decide +kernel
theorem dX11_findFells_25 : decode cX11_findFells 25 = .ok (.iload 5, 2) := by decide +kernel
theorem dX11_findFells_27 : decode cX11_findFells 27 = .ok (.aload_n 0, 1) := by decide +kernel
theorem dX11_findFells_28 : decode cX11_findFells 28 = .ok (.iload 4, 2) := by decide +kernel
theorem dX11_findFells_30 : decode cX11_findFells 30 = .ok (.sipush 1023, 3) := by decide +kernel
theorem dX11_findFells_33 : decode cX11_findFells 33 = .ok (.invokevirtual 170, 3) := by decide +kernel
theorem dX11_findFells_36 : decode cX11_findFells 36 = .ok (.invokestatic 183, 3) := by decide +kernel
theorem dX11_findFells_39 : decode cX11_findFells 39 = .ok (.iastore, 1) := by decide +kernel
theorem dX11_findFells_40 : decode cX11_findFells 40 = .ok (.iinc 5 1, 3) := by decide +kernel
theorem dX11_findFells_43 : decode cX11_findFells 43 = .ok (.goto (-40), 3) := by decide +kernel
theorem dX11_findFells_46 : decode cX11_findFells 46 = .ok (.return_, 1) := by decide +kernel
def bX11_findFells : ol_SE := es_seq (es_seq (es_set 5 (ei_c 0)) (es_wh (ec_2 ol_lt (ei_v 5) (ei_c 39)) (es_seq (es_seq (es_of (ea_cv 11 fX11_goTried (ea_r (er_v 0) (ea_i (ei_v 1) (ea_i (ei_v 5) (ea_i (ei_v 2) (ea_i (ei_v 3) (ea_i (ei_v 4) (ea_0))))))))) (es_as 100 (er_f 11 33 (er_v 0)) (ei_v 5) (ei_of (ea_cs fX11_bitsIn (ea_i (ei_of (ea_cv 11 fX11_pinsOf (ea_r (er_v 0) (ea_i (ei_v 4) (ea_i (ei_c 1023) (ea_0)))))) (ea_0)))))) (es_inc 5 1)))) (es_retv)
def fX11_findFells : ol_FE := ol_fe 6 bX11_findFells
set_option maxRecDepth 20000 in
theorem imX11_findFells (x : ol_X) (K : ol_K) : IM_S x K mX11_findFells 0 0 bX11_findFells := rs_seq (p2 := 46) (rs_seq (p2 := 3) (rs_set (ri_ic dX11_findFells_0 (by unfold ol_inR; omega)) dX11_findFells_1 (ol_ltn rfl)) (rs_wh (pH := 3) (pB := 10) (pE := 46) (pG := 43) (rc_2F (pF := 46) ol_j2_ge_F (ri_vi dX11_findFells_3) (ri_bi dX11_findFells_5 (by unfold ol_inR; omega) (by decide)) dX11_findFells_7 (by decide)) (rs_seq (p2 := 40) (rs_seq (p2 := 21) (rs_k (rk_v (Mc := mX11_goTried) (conX11_goTried _ K) (ra_r (rr_vn dX11_findFells_10 rfl) (ra_i (ri_vn dX11_findFells_11 rfl) (ra_i (ri_vi dX11_findFells_12) (ra_i (ri_vn dX11_findFells_14 rfl) (ra_i (ri_vn dX11_findFells_15 rfl) (ra_i (ri_vi dX11_findFells_16) (ra_0))))))) dX11_findFells_18 cwX11_188 tw_1093 tw_39 (by decide) rfl rfl ⟨rfl, rfl, Nat.le_of_ble_eq_true rfl⟩ (by decide) (by decide) (al_r (al_i (al_i (al_i (al_i (al_i al_0)))))))) (rs_as (rr_f (rr_vn dX11_findFells_21 rfl) gfX11_41 dX11_findFells_22) (ri_vi dX11_findFells_25) (ri_k (rk_s (Mc := mX11_bitsIn) (conX11_bitsIn _ K) (ra_i (ri_k (rk_v (Mc := mX11_pinsOf) (conX11_pinsOf _ K) (ra_r (rr_vn dX11_findFells_27 rfl) (ra_i (ri_vi dX11_findFells_28) (ra_i (ri_si dX11_findFells_30 (by unfold ol_inR; omega) (by decide)) (ra_0)))) dX11_findFells_33 cwX11_170 tw_1077 tw_38 (by decide) rfl rfl ⟨rfl, rfl, Nat.le_of_ble_eq_true rfl⟩ (by decide) (by decide) (al_r (al_i (al_i al_0)))) (Or.inl rfl)) (ra_0)) dX11_findFells_36 cwX11_183 tw_1080 ⟨rfl, rfl, Nat.le_of_ble_eq_true rfl⟩ (by decide) (by decide) (al_i al_0)) (Or.inl rfl)) dX11_findFells_39)) (rs_inc dX11_findFells_40 (ol_ltn rfl))) dX11_findFells_43 (by decide))) (rs_retv rfl dX11_findFells_46)
theorem conX11_findFells (l : Launch) (K : ol_K) : ol_Con l K yX11_findFells mX11_findFells fX11_findFells := ol_con (M := mX11_findFells) (by decide) rfl rfl (imX11_findFells · K)
