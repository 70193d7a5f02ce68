/-! by program: what each method does, and that its code does it -/
theorem dX10_init_0 : decode cX10_init 0 = .ok (.aload_n 0, 1) := by decide +kernel
theorem dX10_init_1 : decode cX10_init 1 = .ok (.invokespecial 1, 3) := by decide +kernel
theorem dX10_init_4 : decode cX10_init 4 = .ok (.aload_n 0, 1) := by decide +kernel
theorem dX10_init_5 : decode cX10_init 5 = .ok (.new 7, 3) := by decide +kernel
theorem dX10_init_8 : decode cX10_init 8 = .ok (.dup, 1) := by decide +kernel
theorem dX10_init_9 : decode cX10_init 9 = .ok (.invokespecial 9, 3) := by decide +kernel
theorem dX10_init_12 : decode cX10_init 12 = .ok (.putfield 10, 3) := by decide +kernel
theorem dX10_init_15 : decode cX10_init 15 = .ok (.aload_n 0, 1) := by decide +kernel
theorem dX10_init_16 : decode cX10_init 16 = .ok (.iconst 4, 1) := by decide +kernel
theorem dX10_init_17 : decode cX10_init 17 = .ok (.anewarray 16, 3) := by decide +kernel
theorem dX10_init_20 : decode cX10_init 20 = .ok (.putfield 18, 3) := by decide +kernel
theorem dX10_init_23 : decode cX10_init 23 = .ok (.aload_n 0, 1) := by decide +kernel
theorem dX10_init_24 : decode cX10_init 24 = .ok (.bipush 6, 2) := by decide +kernel
theorem dX10_init_26 : decode cX10_init 26 = .ok (.anewarray 22, 3) := by decide +kernel
theorem dX10_init_29 : decode cX10_init 29 = .ok (.putfield 24, 3) := by decide +kernel
theorem dX10_init_32 : decode cX10_init 32 = .ok (.aload_n 0, 1) := by decide +kernel
theorem dX10_init_33 : decode cX10_init 33 = .ok (.new 28, 3) := by decide +kernel
theorem dX10_init_36 : decode cX10_init 36 = .ok (.dup, 1) := by decide +kernel
theorem dX10_init_37 : decode cX10_init 37 = .ok (.invokespecial 30, 3) := by decide +kernel
theorem dX10_init_40 : decode cX10_init 40 = .ok (.putfield 31, 3) := by decide +kernel
theorem dX10_init_43 : decode cX10_init 43 = .ok (.aload_n 0, 1) := by decide +kernel
theorem dX10_init_44 : decode cX10_init 44 = .ok (.new 28, 3) := by decide +kernel
theorem dX10_init_47 : decode cX10_init 47 = .ok (.dup, 1) := by decide +kernel
theorem dX10_init_48 : decode cX10_init 48 = .ok (.invokespecial 30, 3) := by decide +kernel
theorem dX10_init_51 : decode cX10_init 51 = .ok (.putfield 35, 3) := by decide +kernel
theorem dX10_init_54 : decode cX10_init 54 = .ok (.aload_n 0, 1) := by decide +kernel
theorem dX10_init_55 : decode cX10_init 55 = .ok (.iconst 2, 1) := by decide +kernel
theorem dX10_init_56 : decode cX10_init 56 = .ok (.anewarray 28, 3) := by decide +kernel
theorem dX10_init_59 : decode cX10_init 59 = .ok (.putfield 38, 3) := by decide +kernel
theorem dX10_init_62 : decode cX10_init 62 = .ok (.aload_n 0, 1) := by decide +kernel
theorem dX10_init_63 : decode cX10_init 63 = .ok (.iconst 2, 1) := by decide +kernel
theorem dX10_init_64 : decode cX10_init 64 = .ok (.newarray .boolean, 2) := by decide +kernel
theorem dX10_init_66 : decode cX10_init 66 = .ok (.putfield 42, 3) := by decide +kernel
theorem dX10_init_69 : decode cX10_init 69 = .ok (.aload_n 0, 1) := by decide +kernel
theorem dX10_init_70 : decode cX10_init 70 = .ok (.new 46, 3) := by decide +kernel
theorem dX10_init_73 : decode cX10_init 73 = .ok (.dup, 1) := by decide +kernel
theorem dX10_init_74 : decode cX10_init 74 = .ok (.invokespecial 48, 3) := by decide +kernel
theorem dX10_init_77 : decode cX10_init 77 = .ok (.putfield 49, 3) := by decide +kernel
theorem dX10_init_80 : decode cX10_init 80 = .ok (.aload_n 0, 1) := by decide +kernel
theorem dX10_init_81 : decode cX10_init 81 = .ok (.new 46, 3) := by decide +kernel
theorem dX10_init_84 : decode cX10_init 84 = .ok (.dup, 1) := by decide +kernel
theorem dX10_init_85 : decode cX10_init 85 = .ok (.invokespecial 48, 3) := by decide +kernel
theorem dX10_init_88 : decode cX10_init 88 = .ok (.putfield 53, 3) := by decide +kernel
theorem dX10_init_91 : decode cX10_init 91 = .ok (.aload_n 0, 1) := by decide +kernel
theorem dX10_init_92 : decode cX10_init 92 = .ok (.new 56, 3) := by decide +kernel
theorem dX10_init_95 : decode cX10_init 95 = .ok (.dup, 1) := by decide +kernel
theorem dX10_init_96 : decode cX10_init 96 = .ok (.invokespecial 58, 3) := by decide +kernel
theorem dX10_init_99 : decode cX10_init 99 = .ok (.putfield 59, 3) := by decide +kernel
theorem dX10_init_102 : decode cX10_init 102 = .ok (.aload_n 0, 1) := by decide +kernel
theorem dX10_init_103 : decode cX10_init 103 = .ok (.new 63, 3) := by decide +kernel
theorem dX10_init_106 : decode cX10_init 106 = .ok (.dup, 1) := by decide +kernel
theorem dX10_init_107 : decode cX10_init 107 = .ok (.invokespecial 65, 3) := by decide +kernel
theorem dX10_init_110 : decode cX10_init 110 = .ok (.putfield 66, 3) := by decide +kernel
theorem dX10_init_113 : decode cX10_init 113 = .ok (.aload_n 0, 1) := by decide +kernel
theorem dX10_init_114 : decode cX10_init 114 = .ok (.new 70, 3) := by decide +kernel
theorem dX10_init_117 : decode cX10_init 117 = .ok (.dup, 1) := by decide +kernel
theorem dX10_init_118 : decode cX10_init 118 = .ok (.invokespecial 72, 3) := by decide +kernel
theorem dX10_init_121 : decode cX10_init 121 = .ok (.putfield 73, 3) := by decide +kernel
theorem dX10_init_124 : decode cX10_init 124 = .ok (.aload_n 0, 1) := by decide +kernel
theorem dX10_init_125 : decode cX10_init 125 = .ok (.bipush 30, 2) := by decide +kernel
theorem dX10_init_127 : decode cX10_init 127 = .ok (.newarray .int, 2) := by decide +kernel
theorem dX10_init_129 : decode cX10_init 129 = .ok (.putfield 77, 3) := by decide +kernel
theorem dX10_init_132 : decode cX10_init 132 = .ok (.aload_n 0, 1) := by decide +kernel
theorem dX10_init_133 : decode cX10_init 133 = .ok (.iconst 4, 1) := by decide +kernel
theorem dX10_init_134 : decode cX10_init 134 = .ok (.newarray .int, 2) := by decide +kernel
theorem dX10_init_136 : decode cX10_init 136 = .ok (.putfield 81, 3) := by decide +kernel
theorem dX10_init_139 : decode cX10_init 139 = .ok (.aload_n 0, 1) := by decide +kernel
theorem dX10_init_140 : decode cX10_init 140 = .ok (.iconst 4, 1) := by decide +kernel
theorem dX10_init_141 : decode cX10_init 141 = .ok (.newarray .int, 2) := by decide +kernel
theorem dX10_init_143 : decode cX10_init 143 = .ok (.putfield 84, 3) := by decide +kernel
theorem dX10_init_146 : decode cX10_init 146 = .ok (.iconst 0, 1) := by decide +kernel
theorem dX10_init_147 : decode cX10_init 147 = .ok (.istore_n 1, 1) := by decide +kernel
theorem dX10_init_148 : decode cX10_init 148 = .ok (.iload_n 1, 1) := by decide +kernel
theorem dX10_init_149 : decode cX10_init 149 = .ok (.iconst 4, 1) := by decide +kernel
theorem dX10_init_150 : decode cX10_init 150 = .ok (.if_icmp .ge 22, 3) := by decide +kernel
theorem dX10_init_153 : decode cX10_init 153 = .ok (.aload_n 0, 1) := by decide +kernel
theorem dX10_init_154 : decode cX10_init 154 = .ok (.getfield 18, 3) := by decide +kernel
theorem dX10_init_157 : decode cX10_init 157 = .ok (.iload_n 1, 1) := by decide +kernel
theorem dX10_init_158 : decode cX10_init 158 = .ok (.new 16, 3) := by decide +kernel
theorem dX10_init_161 : decode cX10_init 161 = .ok (.dup, 1) := by decide +kernel
theorem dX10_init_162 : decode cX10_init 162 = .ok (.invokespecial 87, 3) := by decide +kernel
theorem dX10_init_165 : decode cX10_init 165 = .ok (.aastore, 1) := by decide +kernel
theorem dX10_init_166 : decode cX10_init 166 = .ok (.iinc 1 1, 3) := by decide +kernel
theorem dX10_init_169 : decode cX10_init 169 = .ok (.goto (-21), 3) := by decide +kernel
theorem dX10_init_172 : decode cX10_init 172 = .ok (.iconst 0, 1) := by decide +kernel
theorem dX10_init_173 : decode cX10_init 173 = .ok (.istore_n 1, 1) := by decide +kernel
theorem dX10_init_174 : decode cX10_init 174 = .ok (.iload_n 1, 1) := by decide +kernel
theorem dX10_init_175 : decode cX10_init 175 = .ok (.bipush 6, 2) := by decide +kernel
theorem dX10_init_177 : decode cX10_init 177 = .ok (.if_icmp .ge 25, 3) := by decide +kernel
theorem dX10_init_180 : decode cX10_init 180 = .ok (.aload_n 0, 1) := by decide +kernel
theorem dX10_init_181 : decode cX10_init 181 = .ok (.getfield 24, 3) := by decide +kernel
theorem dX10_init_184 : decode cX10_init 184 = .ok (.iload_n 1, 1) := by decide +kernel
theorem dX10_init_185 : decode cX10_init 185 = .ok (.new 22, 3) := by decide +kernel
theorem dX10_init_188 : decode cX10_init 188 = .ok (.dup, 1) := by decide +kernel
theorem dX10_init_189 : decode cX10_init 189 = .ok (.iload_n 1, 1) := by decide +kernel
theorem dX10_init_190 : decode cX10_init 190 = .ok (.iconst 2, 1) := by decide +kernel
theorem dX10_init_191 : decode cX10_init 191 = .ok (.iadd, 1) := by decide +kernel
theorem dX10_init_192 : decode cX10_init 192 = .ok (.invokespecial 88, 3) := by decide +kernel
theorem dX10_init_195 : decode cX10_init 195 = .ok (.aastore, 1) := by decide +kernel
theorem dX10_init_196 : decode cX10_init 196 = .ok (.iinc 1 1, 3) := by decide +kernel
theorem dX10_init_199 : decode cX10_init 199 = .ok (.goto (-25), 3) := by decide +kernel
theorem dX10_init_202 : decode cX10_init 202 = .ok (.iconst 0, 1) := by decide +kernel
theorem dX10_init_203 : decode cX10_init 203 = .ok (.istore_n 1, 1) := by decide +kernel
theorem dX10_init_204 : decode cX10_init 204 = .ok (.iload_n 1, 1) := by decide +kernel
theorem dX10_init_205 : decode cX10_init 205 = .ok (.iconst 2, 1) := by decide +kernel
theorem dX10_init_206 : decode cX10_init 206 = .ok (.if_icmp .ge 22, 3) := by decide +kernel
theorem dX10_init_209 : decode cX10_init 209 = .ok (.aload_n 0, 1) := by decide +kernel
theorem dX10_init_210 : decode cX10_init 210 = .ok (.getfield 38, 3) := by decide +kernel
theorem dX10_init_213 : decode cX10_init 213 = .ok (.iload_n 1, 1) := by decide +kernel
theorem dX10_init_214 : decode cX10_init 214 = .ok (.new 28, 3) := by decide +kernel
theorem dX10_init_217 : decode cX10_init 217 = .ok (.dup, 1) := by decide +kernel
theorem dX10_init_218 : decode cX10_init 218 = .ok (.invokespecial 30, 3) := by decide +kernel
theorem dX10_init_221 : decode cX10_init 221 = .ok (.aastore, 1) := by decide +kernel
theorem dX10_init_222 : decode cX10_init 222 = .ok (.iinc 1 1, 3) := by decide +kernel
theorem dX10_init_225 : decode cX10_init 225 = .ok (.goto (-21), 3) := by decide +kernel
theorem dX10_init_228 : decode cX10_init 228 = .ok (.return_, 1) := by decide +kernel
def bX10_init : ol_SE := es_seq (fun L h => (er_v 0 L h).bind fun q => some (none, L, q.2)) (es_seq (es_pr 10 0 (er_v 0) (er_n 7 tyX7 7 74 4596 fX7_init (mc mX7_init) (ms mX7_init) (ea_0))) (es_seq (es_pr 10 1 (er_v 0) (er_nr 103 74 4596 4)) (es_seq (es_pr 10 2 (er_v 0) (er_nr 104 74 4596 6)) (es_seq (es_pr 10 3 (er_v 0) (er_n 2 tyX2 3 74 4596 fX2_init (mc mX2_init) (ms mX2_init) (ea_0))) (es_seq (es_pr 10 4 (er_v 0) (er_n 2 tyX2 3 74 4596 fX2_init (mc mX2_init) (ms mX2_init) (ea_0))) (es_seq (es_pr 10 5 (er_v 0) (er_nr 105 74 4596 2)) (es_seq (es_pr 10 6 (er_v 0) (er_na 102 74 4596 2)) (es_seq (es_pr 10 7 (er_v 0) (er_n 1 tyX1 8 74 4596 fX1_init (mc mX1_init) (ms mX1_init) (ea_0))) (es_seq (es_pr 10 8 (er_v 0) (er_n 1 tyX1 8 74 4596 fX1_init (mc mX1_init) (ms mX1_init) (ea_0))) (es_seq (es_pr 10 9 (er_v 0) (er_n 6 tyX6 3 74 4596 fX6_init (mc mX6_init) (ms mX6_init) (ea_0))) (es_seq (es_pr 10 10 (er_v 0) (er_n 3 tyX3 6 74 4596 fX3_init (mc mX3_init) (ms mX3_init) (ea_0))) (es_seq (es_pr 10 11 (er_v 0) (er_n 8 tyX8 8 74 4596 fX8_init (mc mX8_init) (ms mX8_init) (ea_0))) (es_seq (es_pr 10 12 (er_v 0) (er_na 100 74 4596 30)) (es_seq (es_pr 10 13 (er_v 0) (er_na 100 74 4596 4)) (es_seq (es_pr 10 14 (er_v 0) (er_na 100 74 4596 4)) (es_seq (es_seq (es_set 1 (ei_c 0)) (es_wh (ec_2 ol_lt (ei_v 1) (ei_c 4)) (es_seq (es_rs 103 5 (er_f 10 1 (er_v 0)) (ei_v 1) (er_n 5 tyX5 3 74 4596 fX5_init (mc mX5_init) (ms mX5_init) (ea_0))) (es_inc 1 1)))) (es_seq (es_seq (es_set 1 (ei_c 0)) (es_wh (ec_2 ol_lt (ei_v 1) (ei_c 6)) (es_seq (es_rs 104 0 (er_f 10 2 (er_v 0)) (ei_v 1) (er_n 0 tyX0 2 74 4596 fX0_init (mc mX0_init) (ms mX0_init) (ea_i (ei_2 ol_add (ei_v 1) (ei_c 2)) (ea_0)))) (es_inc 1 1)))) (es_seq (es_seq (es_set 1 (ei_c 0)) (es_wh (ec_2 ol_lt (ei_v 1) (ei_c 2)) (es_seq (es_rs 105 2 (er_f 10 5 (er_v 0)) (ei_v 1) (er_n 2 tyX2 3 74 4596 fX2_init (mc mX2_init) (ms mX2_init) (ea_0))) (es_inc 1 1)))) (es_retv)))))))))))))))))))
def fX10_init : ol_FE := ol_fe 2 bX10_init
set_option maxRecDepth 20000 in
theorem imX10_init (x : ol_X) (K : ol_K) : IM_S x K mX10_init 0 0 bX10_init := rs_seq (p2 := 4) (rs_obj (rr_vn dX10_init_0 rfl) dX10_init_1 ⟨tw_76, tw_77, tw_78⟩ (by decide)) (rs_seq (p2 := 15) (rs_pr (rr_vn dX10_init_4 rfl) (rr_n (T := TX7) (conX7_init _ K) dX10_init_5 dX10_init_8 (ra_0) dX10_init_9 rfl (by decide) inX7 tyX7_ok (by decide +kernel) ⟨tw_79, tw_80, tw_53⟩ (Or.inr ⟨_, List.mem_of_getElem? (i := 0) rfl⟩) hyX7_init rfl (by decide) (by decide) (by decide) (al_0)) pfX10_10 rfl rfl (Or.inl ⟨_, rfl⟩) dX10_init_12) (rs_seq (p2 := 23) (rs_pr (rr_vn dX10_init_15 rfl) (rr_nr (t := 3) (n := 4) (ri_ic dX10_init_16 (by unfold ol_inR; omega)) (by decide) rfl (by decide) tw_128 (by decide) dX10_init_17) pfX10_18 rfl rfl (Or.inr ⟨_, rfl⟩) dX10_init_20) (rs_seq (p2 := 32) (rs_pr (rr_vn dX10_init_23 rfl) (rr_nr (t := 4) (n := 6) (ri_bi dX10_init_24 (by unfold ol_inR; omega) (by decide)) (by decide) rfl (by decide) tw_130 (by decide) dX10_init_26) pfX10_24 rfl rfl (Or.inr ⟨_, rfl⟩) dX10_init_29) (rs_seq (p2 := 43) (rs_pr (rr_vn dX10_init_32 rfl) (rr_n (T := TX2) (conX2_init _ K) dX10_init_33 dX10_init_36 (ra_0) dX10_init_37 rfl (by decide) inX2 tyX2_ok (by decide +kernel) ⟨tw_132, tw_133, tw_55⟩ (Or.inl tw_134) hyX2_init rfl (by decide) (by decide) (by decide) (al_0)) pfX10_31 rfl rfl (Or.inl ⟨_, rfl⟩) dX10_init_40) (rs_seq (p2 := 54) (rs_pr (rr_vn dX10_init_43 rfl) (rr_n (T := TX2) (conX2_init _ K) dX10_init_44 dX10_init_47 (ra_0) dX10_init_48 rfl (by decide) inX2 tyX2_ok (by decide +kernel) ⟨tw_132, tw_133, tw_55⟩ (Or.inl tw_134) hyX2_init rfl (by decide) (by decide) (by decide) (al_0)) pfX10_35 rfl rfl (Or.inl ⟨_, rfl⟩) dX10_init_51) (rs_seq (p2 := 62) (rs_pr (rr_vn dX10_init_54 rfl) (rr_nr (t := 5) (n := 2) (ri_ic dX10_init_55 (by unfold ol_inR; omega)) (by decide) rfl (by decide) tw_132 (by decide) dX10_init_56) pfX10_38 rfl rfl (Or.inr ⟨_, rfl⟩) dX10_init_59) (rs_seq (p2 := 69) (rs_pr (rr_vn dX10_init_62 rfl) (rr_na (t := 2) (n := 2) (ri_ic dX10_init_63 (by unfold ol_inR; omega)) (by decide) rfl rfl rfl (fun _ _ => rfl) tw_222 (by decide) dX10_init_64) pfX10_42 rfl rfl (Or.inr ⟨_, rfl⟩) dX10_init_66) (rs_seq (p2 := 80) (rs_pr (rr_vn dX10_init_69 rfl) (rr_n (T := TX1) (conX1_init _ K) dX10_init_70 dX10_init_73 (ra_0) dX10_init_74 rfl (by decide) inX1 tyX1_ok (by decide +kernel) ⟨tw_200, tw_201, tw_58⟩ (Or.inr ⟨_, List.mem_of_getElem? (i := 4) rfl⟩) hyX1_init rfl (by decide) (by decide) (by decide) (al_0)) pfX10_49 rfl rfl (Or.inl ⟨_, rfl⟩) dX10_init_77) (rs_seq (p2 := 91) (rs_pr (rr_vn dX10_init_80 rfl) (rr_n (T := TX1) (conX1_init _ K) dX10_init_81 dX10_init_84 (ra_0) dX10_init_85 rfl (by decide) inX1 tyX1_ok (by decide +kernel) ⟨tw_200, tw_201, tw_58⟩ (Or.inr ⟨_, List.mem_of_getElem? (i := 4) rfl⟩) hyX1_init rfl (by decide) (by decide) (by decide) (al_0)) pfX10_53 rfl rfl (Or.inl ⟨_, rfl⟩) dX10_init_88) (rs_seq (p2 := 102) (rs_pr (rr_vn dX10_init_91 rfl) (rr_n (T := TX6) (conX6_init _ K) dX10_init_92 dX10_init_95 (ra_0) dX10_init_96 rfl (by decide) inX6 tyX6_ok (by decide +kernel) ⟨tw_257, tw_207, tw_59⟩ (Or.inr ⟨_, List.mem_of_getElem? (i := 6) rfl⟩) hyX6_init rfl (by decide) (by decide) (by decide) (al_0)) pfX10_59 rfl rfl (Or.inl ⟨_, rfl⟩) dX10_init_99) (rs_seq (p2 := 113) (rs_pr (rr_vn dX10_init_102 rfl) (rr_n (T := TX3) (conX3_init _ K) dX10_init_103 dX10_init_106 (ra_0) dX10_init_107 rfl (by decide) inX3 tyX3_ok (by decide +kernel) ⟨tw_259, tw_260, tw_60⟩ (Or.inr ⟨_, List.mem_of_getElem? (i := 7) rfl⟩) hyX3_init rfl (by decide) (by decide) (by decide) (al_0)) pfX10_66 rfl rfl (Or.inl ⟨_, rfl⟩) dX10_init_110) (rs_seq (p2 := 124) (rs_pr (rr_vn dX10_init_113 rfl) (rr_n (T := TX8) (conX8_init _ K) dX10_init_114 dX10_init_117 (ra_0) dX10_init_118 rfl (by decide) inX8 tyX8_ok (by decide +kernel) ⟨tw_289, tw_290, tw_61⟩ (Or.inr ⟨_, List.mem_of_getElem? (i := 8) rfl⟩) hyX8_init rfl (by decide) (by decide) (by decide) (al_0)) pfX10_73 rfl rfl (Or.inl ⟨_, rfl⟩) dX10_init_121) (rs_seq (p2 := 132) (rs_pr (rr_vn dX10_init_124 rfl) (rr_na (t := 0) (n := 30) (ri_bi dX10_init_125 (by unfold ol_inR; omega) (by decide)) (by decide) rfl rfl rfl (fun _ _ => rfl) tw_103 (by decide) dX10_init_127) pfX10_77 rfl rfl (Or.inr ⟨_, rfl⟩) dX10_init_129) (rs_seq (p2 := 139) (rs_pr (rr_vn dX10_init_132 rfl) (rr_na (t := 0) (n := 4) (ri_ic dX10_init_133 (by unfold ol_inR; omega)) (by decide) rfl rfl rfl (fun _ _ => rfl) tw_103 (by decide) dX10_init_134) pfX10_81 rfl rfl (Or.inr ⟨_, rfl⟩) dX10_init_136) (rs_seq (p2 := 146) (rs_pr (rr_vn dX10_init_139 rfl) (rr_na (t := 0) (n := 4) (ri_ic dX10_init_140 (by unfold ol_inR; omega)) (by decide) rfl rfl rfl (fun _ _ => rfl) tw_103 (by decide) dX10_init_141) pfX10_84 rfl rfl (Or.inr ⟨_, rfl⟩) dX10_init_143) (rs_seq (p2 := 172) (rs_seq (p2 := 148) (rs_setn (ri_ic dX10_init_146 (by unfold ol_inR; omega)) dX10_init_147 rfl (ol_ltn rfl)) (rs_wh (pH := 148) (pB := 153) (pE := 172) (pG := 169) (rc_2F (pF := 172) ol_j2_ge_F (ri_vn dX10_init_148 rfl) (ri_ic dX10_init_149 (by unfold ol_inR; omega)) dX10_init_150 (by decide)) (rs_seq (p2 := 166) (rs_rs (t := 3) (rr_f (rr_vn dX10_init_153 rfl) gfX10_18 dX10_init_154) (ri_vn dX10_init_157 rfl) (rr_n (T := TX5) (conX5_init _ K) dX10_init_158 dX10_init_161 (ra_0) dX10_init_162 rfl (by decide) inX5 tyX5_ok (by decide +kernel) ⟨tw_128, tw_86, tw_54⟩ (Or.inr ⟨_, List.mem_of_getElem? (i := 10) rfl⟩) hyX5_init rfl (by decide) (by decide) (by decide) (al_0)) (by decide) (by decide) rfl rfl dX10_init_165) (rs_inc dX10_init_166 (ol_ltn rfl))) dX10_init_169 (by decide))) (rs_seq (p2 := 202) (rs_seq (p2 := 174) (rs_setn (ri_ic dX10_init_172 (by unfold ol_inR; omega)) dX10_init_173 rfl (ol_ltn rfl)) (rs_wh (pH := 174) (pB := 180) (pE := 202) (pG := 199) (rc_2F (pF := 202) ol_j2_ge_F (ri_vn dX10_init_174 rfl) (ri_bi dX10_init_175 (by unfold ol_inR; omega) (by decide)) dX10_init_177 (by decide)) (rs_seq (p2 := 196) (rs_rs (t := 4) (rr_f (rr_vn dX10_init_180 rfl) gfX10_24 dX10_init_181) (ri_vn dX10_init_184 rfl) (rr_n (T := TX0) (conX0_init _ K) dX10_init_185 dX10_init_188 (ra_i (ri_2 ol_op_add (ri_vn dX10_init_189 rfl) (ri_ic dX10_init_190 (by unfold ol_inR; omega)) dX10_init_191) (ra_0)) dX10_init_192 rfl (by decide) inX0 tyX0_ok (by decide +kernel) ⟨tw_130, tw_329, tw_62⟩ (Or.inl tw_330) hyX0_init rfl (by decide) (by decide) (by decide) (al_i al_0)) (by decide) (by decide) rfl rfl dX10_init_195) (rs_inc dX10_init_196 (ol_ltn rfl))) dX10_init_199 (by decide))) (rs_seq (p2 := 228) (rs_seq (p2 := 204) (rs_setn (ri_ic dX10_init_202 (by unfold ol_inR; omega)) dX10_init_203 rfl (ol_ltn rfl)) (rs_wh (pH := 204) (pB := 209) (pE := 228) (pG := 225) (rc_2F (pF := 228) ol_j2_ge_F (ri_vn dX10_init_204 rfl) (ri_ic dX10_init_205 (by unfold ol_inR; omega)) dX10_init_206 (by decide)) (rs_seq (p2 := 222) (rs_rs (t := 5) (rr_f (rr_vn dX10_init_209 rfl) gfX10_38 dX10_init_210) (ri_vn dX10_init_213 rfl) (rr_n (T := TX2) (conX2_init _ K) dX10_init_214 dX10_init_217 (ra_0) dX10_init_218 rfl (by decide) inX2 tyX2_ok (by decide +kernel) ⟨tw_132, tw_133, tw_55⟩ (Or.inl tw_134) hyX2_init rfl (by decide) (by decide) (by decide) (al_0)) (by decide) (by decide) rfl rfl dX10_init_221) (rs_inc dX10_init_222 (ol_ltn rfl))) dX10_init_225 (by decide))) (rs_retv rfl dX10_init_228)))))))))))))))))))
theorem conX10_init (l : Launch) (K : ol_K) : ol_Con l K yX10_init mX10_init fX10_init := ol_con (M := mX10_init) (by decide) rfl rfl (imX10_init · K)
theorem dX10_lay_0 : decode cX10_lay 0 = .ok (.iload_n 1, 1) := by decide +kernel
theorem dX10_lay_1 : decode cX10_lay 1 = .ok (.iconst 0, 1) := by decide +kernel
theorem dX10_lay_2 : decode cX10_lay 2 = .ok (.iconst 3, 1) := by decide +kernel
theorem dX10_lay_3 : decode cX10_lay 3 = .ok (.invokestatic 98, 3) := by decide +kernel
theorem dX10_lay_6 : decode cX10_lay 6 = .ok (.ifCond .eq 5, 3) := by decide +kernel
theorem dX10_lay_9 : decode cX10_lay 9 = .ok (.iconst (-1), 1) := by decide +kernel
theorem dX10_lay_10 : decode cX10_lay 10 = .ok (.ireturn, 1) := by decide +kernel
theorem dX10_lay_11 : decode cX10_lay 11 = .ok (.aload_n 0, 1) := by decide +kernel
theorem dX10_lay_12 : decode cX10_lay 12 = .ok (.getfield 18, 3) := by decide +kernel
theorem dX10_lay_15 : decode cX10_lay 15 = .ok (.iload_n 1, 1) := by decide +kernel
theorem dX10_lay_16 : decode cX10_lay 16 = .ok (.aaload, 1) := by decide +kernel
theorem dX10_lay_17 : decode cX10_lay 17 = .ok (.getfield 114, 3) := by decide +kernel
theorem dX10_lay_20 : decode cX10_lay 20 = .ok (.ifCond .ne 6, 3) := by decide +kernel
theorem dX10_lay_23 : decode cX10_lay 23 = .ok (.bipush (-2), 2) := by decide +kernel
theorem dX10_lay_25 : decode cX10_lay 25 = .ok (.ireturn, 1) := by decide +kernel
theorem dX10_lay_26 : decode cX10_lay 26 = .ok (.aload_n 0, 1) := by decide +kernel
theorem dX10_lay_27 : decode cX10_lay 27 = .ok (.getfield 18, 3) := by decide +kernel
theorem dX10_lay_30 : decode cX10_lay 30 = .ok (.iload_n 1, 1) := by decide +kernel
theorem dX10_lay_31 : decode cX10_lay 31 = .ok (.aaload, 1) := by decide +kernel
theorem dX10_lay_32 : decode cX10_lay 32 = .ok (.aload_n 0, 1) := by decide +kernel
theorem dX10_lay_33 : decode cX10_lay 33 = .ok (.getfield 31, 3) := by decide +kernel
theorem dX10_lay_36 : decode cX10_lay 36 = .ok (.getfield 121, 3) := by decide +kernel
theorem dX10_lay_39 : decode cX10_lay 39 = .ok (.invokevirtual 125, 3) := by decide +kernel
theorem dX10_lay_42 : decode cX10_lay 42 = .ok (.aload_n 0, 1) := by decide +kernel
theorem dX10_lay_43 : decode cX10_lay 43 = .ok (.getfield 31, 3) := by decide +kernel
theorem dX10_lay_46 : decode cX10_lay 46 = .ok (.getfield 121, 3) := by decide +kernel
theorem dX10_lay_49 : decode cX10_lay 49 = .ok (.iconst 0, 1) := by decide +kernel
theorem dX10_lay_50 : decode cX10_lay 50 = .ok (.bipush 19, 2) := by decide +kernel
theorem dX10_lay_52 : decode cX10_lay 52 = .ok (.invokevirtual 129, 3) := by decide +kernel
theorem dX10_lay_55 : decode cX10_lay 55 = .ok (.ireturn, 1) := by decide +kernel
def bX10_lay : ol_SE := es_seq (es_if (ec_z ol_ne (ei_of (ea_cs fX10_outside (ea_i (ei_v 1) (ea_i (ei_c 0) (ea_i (ei_c 3) (ea_0))))))) (es_ret (ei_c (-1))) es_skip) (es_seq (es_if (ec_not (ec_z ol_ne (ei_f 5 2 (er_a 103 (er_f 10 1 (er_v 0)) (ei_v 1))))) (es_ret (ei_c (-2))) es_skip) (es_seq (es_of (ea_cv 5 fX5_layOn (ea_r (er_a 103 (er_f 10 1 (er_v 0)) (ei_v 1)) (ea_r (er_f 2 0 (er_f 10 3 (er_v 0))) (ea_0))))) (es_ret (ei_of (ea_cv 4 fX4_total (ea_r (er_f 2 0 (er_f 10 3 (er_v 0))) (ea_i (ei_c 0) (ea_i (ei_c 19) (ea_0)))))))))
def fX10_lay : ol_FE := ol_fe 2 bX10_lay
set_option maxRecDepth 20000 in
theorem imX10_lay (x : ol_X) (K : ol_K) : IM_S x K mX10_lay 0 0 bX10_lay := rs_seq (p2 := 11) (rs_if (pT := 9) (pF := 11) (pE := 11) (rc_zF (pF := 11) ol_j1_eq_F (ri_k (rk_s (Mc := mX10_outside) (conX10_outside _ K) (ra_i (ri_vn dX10_lay_0 rfl) (ra_i (ri_ic dX10_lay_1 (by unfold ol_inR; omega)) (ra_i (ri_ic dX10_lay_2 (by unfold ol_inR; omega)) (ra_0)))) dX10_lay_3 cwX10_98 tw_417 ⟨rfl, rfl, Nat.le_of_ble_eq_true rfl⟩ (by decide) (by decide) (al_i (al_i (al_i al_0)))) (Or.inr (Or.inl rfl))) dX10_lay_6 (by decide)) (rs_ret (ri_ic dX10_lay_9 (by unfold ol_inR; omega)) rfl dX10_lay_10) rs_skip) (rs_seq (p2 := 26) (rs_if (pT := 23) (pF := 26) (pE := 26) (rc_not (rc_zT (pT := 26) ol_j1_ne_T (ri_f (rr_a (t := 3) (rr_f (rr_vn dX10_lay_11 rfl) gfX10_18 dX10_lay_12) (ri_vn dX10_lay_15 rfl) (by decide) rfl dX10_lay_16) gfX10_114 dX10_lay_17) dX10_lay_20 (by decide))) (rs_ret (ri_bi dX10_lay_23 (by unfold ol_inR; omega) (by decide)) rfl dX10_lay_25) rs_skip) (rs_seq (p2 := 42) (rs_k (rk_v (Mc := mX5_layOn) (conX5_layOn _ K) (ra_r (rr_a (t := 3) (rr_f (rr_vn dX10_lay_26 rfl) gfX10_18 dX10_lay_27) (ri_vn dX10_lay_30 rfl) (by decide) rfl dX10_lay_31) (ra_r (rr_f (rr_f (rr_vn dX10_lay_32 rfl) gfX10_31 dX10_lay_33) gfX10_121 dX10_lay_36) (ra_0))) dX10_lay_39 cwX10_125 tw_524 tw_525 (by decide) rfl rfl ⟨rfl, rfl, Nat.le_of_ble_eq_true rfl⟩ (by decide) (by decide) (al_r (al_r al_0)))) (rs_ret (ri_k (rk_v (Mc := mX4_total) (conX4_total _ K) (ra_r (rr_f (rr_f (rr_vn dX10_lay_42 rfl) gfX10_31 dX10_lay_43) gfX10_121 dX10_lay_46) (ra_i (ri_ic dX10_lay_49 (by unfold ol_inR; omega)) (ra_i (ri_bi dX10_lay_50 (by unfold ol_inR; omega) (by decide)) (ra_0)))) dX10_lay_52 cwX10_129 tw_543 tw_544 (by decide) rfl rfl ⟨rfl, rfl, Nat.le_of_ble_eq_true rfl⟩ (by decide) (by decide) (al_r (al_i (al_i al_0)))) (Or.inl rfl)) rfl dX10_lay_55)))
theorem conX10_lay (l : Launch) (K : ol_K) : ol_Con l K yX10_lay mX10_lay fX10_lay := ol_con (M := mX10_lay) (by decide) rfl rfl (imX10_lay · K)
theorem dX10_shot_0 : decode cX10_shot 0 = .ok (.iload_n 1, 1) := by decide +kernel
theorem dX10_shot_1 : decode cX10_shot 1 = .ok (.iload_n 2, 1) := by decide +kernel
theorem dX10_shot_2 : decode cX10_shot 2 = .ok (.iload_n 3, 1) := by decide +kernel
theorem dX10_shot_3 : decode cX10_shot 3 = .ok (.iload 4, 2) := by decide +kernel
theorem dX10_shot_5 : decode cX10_shot 5 = .ok (.invokestatic 151, 3) := by decide +kernel
theorem dX10_shot_8 : decode cX10_shot 8 = .ok (.ifCond .eq 5, 3) := by decide +kernel
theorem dX10_shot_11 : decode cX10_shot 11 = .ok (.iconst (-1), 1) := by decide +kernel
theorem dX10_shot_12 : decode cX10_shot 12 = .ok (.ireturn, 1) := by decide +kernel
theorem dX10_shot_13 : decode cX10_shot 13 = .ok (.aload_n 0, 1) := by decide +kernel
theorem dX10_shot_14 : decode cX10_shot 14 = .ok (.getfield 49, 3) := by decide +kernel
theorem dX10_shot_17 : decode cX10_shot 17 = .ok (.aload_n 0, 1) := by decide +kernel
theorem dX10_shot_18 : decode cX10_shot 18 = .ok (.getfield 31, 3) := by decide +kernel
theorem dX10_shot_21 : decode cX10_shot 21 = .ok (.getfield 121, 3) := by decide +kernel
theorem dX10_shot_24 : decode cX10_shot 24 = .ok (.iload_n 1, 1) := by decide +kernel
theorem dX10_shot_25 : decode cX10_shot 25 = .ok (.iload_n 2, 1) := by decide +kernel
theorem dX10_shot_26 : decode cX10_shot 26 = .ok (.iload_n 3, 1) := by decide +kernel
theorem dX10_shot_27 : decode cX10_shot 27 = .ok (.aload_n 0, 1) := by decide +kernel
theorem dX10_shot_28 : decode cX10_shot 28 = .ok (.getfield 24, 3) := by decide +kernel
theorem dX10_shot_31 : decode cX10_shot 31 = .ok (.iload 4, 2) := by decide +kernel
theorem dX10_shot_33 : decode cX10_shot 33 = .ok (.aaload, 1) := by decide +kernel
theorem dX10_shot_34 : decode cX10_shot 34 = .ok (.sipush 1023, 3) := by decide +kernel
theorem dX10_shot_37 : decode cX10_shot 37 = .ok (.iconst 1, 1) := by decide +kernel
theorem dX10_shot_38 : decode cX10_shot 38 = .ok (.invokevirtual 155, 3) := by decide +kernel
theorem dX10_shot_41 : decode cX10_shot 41 = .ok (.aload_n 0, 1) := by decide +kernel
theorem dX10_shot_42 : decode cX10_shot 42 = .ok (.iconst 1, 1) := by decide +kernel
theorem dX10_shot_43 : decode cX10_shot 43 = .ok (.putfield 159, 3) := by decide +kernel
theorem dX10_shot_46 : decode cX10_shot 46 = .ok (.aload_n 0, 1) := by decide +kernel
theorem dX10_shot_47 : decode cX10_shot 47 = .ok (.getfield 49, 3) := by decide +kernel
theorem dX10_shot_50 : decode cX10_shot 50 = .ok (.invokevirtual 162, 3) := by decide +kernel
theorem dX10_shot_53 : decode cX10_shot 53 = .ok (.ireturn, 1) := by decide +kernel
def bX10_shot : ol_SE := es_seq (es_if (ec_z ol_ne (ei_of (ea_cs fX10_noSuchShot (ea_i (ei_v 1) (ea_i (ei_v 2) (ea_i (ei_v 3) (ea_i (ei_v 4) (ea_0)))))))) (es_ret (ei_c (-1))) es_skip) (es_seq (es_of (ea_cv 1 fX1_send (ea_r (er_f 10 7 (er_v 0)) (ea_r (er_f 2 0 (er_f 10 3 (er_v 0))) (ea_i (ei_v 1) (ea_i (ei_v 2) (ea_i (ei_v 3) (ea_r (er_a 104 (er_f 10 2 (er_v 0)) (ei_v 4)) (ea_i (ei_c 1023) (ea_i (ei_c 1) (ea_0))))))))))) (es_seq (es_pz 10 16 (er_v 0) (ei_c 1)) (es_ret (ei_of (ea_cv 1 fX1_pins (ea_r (er_f 10 7 (er_v 0)) (ea_0)))))))
def fX10_shot : ol_FE := ol_fe 5 bX10_shot
set_option maxRecDepth 20000 in
theorem imX10_shot (x : ol_X) (K : ol_K) : IM_S x K mX10_shot 0 0 bX10_shot := rs_seq (p2 := 13) (rs_if (pT := 11) (pF := 13) (pE := 13) (rc_zF (pF := 13) ol_j1_eq_F (ri_k (rk_s (Mc := mX10_noSuchShot) (conX10_noSuchShot _ K) (ra_i (ri_vn dX10_shot_0 rfl) (ra_i (ri_vn dX10_shot_1 rfl) (ra_i (ri_vn dX10_shot_2 rfl) (ra_i (ri_vi dX10_shot_3) (ra_0))))) dX10_shot_5 cwX10_151 tw_569 ⟨rfl, rfl, Nat.le_of_ble_eq_true rfl⟩ (by decide) (by decide) (al_i (al_i (al_i (al_i al_0))))) (Or.inr (Or.inl rfl))) dX10_shot_8 (by decide)) (rs_ret (ri_ic dX10_shot_11 (by unfold ol_inR; omega)) rfl dX10_shot_12) rs_skip) (rs_seq (p2 := 41) (rs_k (rk_v (Mc := mX1_send) (conX1_send _ K) (ra_r (rr_f (rr_vn dX10_shot_13 rfl) gfX10_49 dX10_shot_14) (ra_r (rr_f (rr_f (rr_vn dX10_shot_17 rfl) gfX10_31 dX10_shot_18) gfX10_121 dX10_shot_21) (ra_i (ri_vn dX10_shot_24 rfl) (ra_i (ri_vn dX10_shot_25 rfl) (ra_i (ri_vn dX10_shot_26 rfl) (ra_r (rr_a (t := 4) (rr_f (rr_vn dX10_shot_27 rfl) gfX10_24 dX10_shot_28) (ri_vi dX10_shot_31) (by decide) rfl dX10_shot_33) (ra_i (ri_si dX10_shot_34 (by unfold ol_inR; omega) (by decide)) (ra_i (ri_ic dX10_shot_37 (by unfold ol_inR; omega)) (ra_0))))))))) dX10_shot_38 cwX10_155 tw_572 tw_573 (by decide) rfl rfl ⟨rfl, rfl, Nat.le_of_ble_eq_true rfl⟩ (by decide) (by decide) (al_r (al_r (al_i (al_i (al_i (al_r (al_i (al_i al_0)))))))))) (rs_seq (p2 := 46) (rs_pz (rr_vn dX10_shot_41 rfl) (ri_ic dX10_shot_42 (by unfold ol_inR; omega)) pfX10_159 rfl dX10_shot_43) (rs_ret (ri_k (rk_v (Mc := mX1_pins) (conX1_pins _ K) (ra_r (rr_f (rr_vn dX10_shot_46 rfl) gfX10_49 dX10_shot_47) (ra_0)) dX10_shot_50 cwX10_162 tw_602 tw_603 (by decide) rfl rfl ⟨rfl, rfl, Nat.le_of_ble_eq_true rfl⟩ (by decide) (by decide) (al_r al_0)) (Or.inl rfl)) rfl dX10_shot_53)))
theorem conX10_shot (l : Launch) (K : ol_K) : ol_Con l K yX10_shot mX10_shot fX10_shot := ol_con (M := mX10_shot) (by decide) rfl rfl (imX10_shot · K)
theorem dX10_roll_0 : decode cX10_roll 0 = .ok (.iload_n 1, 1) := by decide +kernel
theorem dX10_roll_1 : decode cX10_roll 1 = .ok (.iconst 0, 1) := by decide +kernel
theorem dX10_roll_2 : decode cX10_roll 2 = .ok (.bipush 10, 2) := by decide +kernel
theorem dX10_roll_4 : decode cX10_roll 4 = .ok (.invokestatic 98, 3) := by decide +kernel
theorem dX10_roll_7 : decode cX10_roll 7 = .ok (.ifCond .eq 5, 3) := by decide +kernel
theorem dX10_roll_10 : decode cX10_roll 10 = .ok (.iconst (-1), 1) := by decide +kernel
theorem dX10_roll_11 : decode cX10_roll 11 = .ok (.ireturn, 1) := by decide +kernel
theorem dX10_roll_12 : decode cX10_roll 12 = .ok (.aload_n 0, 1) := by decide +kernel
theorem dX10_roll_13 : decode cX10_roll 13 = .ok (.getfield 66, 3) := by decide +kernel
theorem dX10_roll_16 : decode cX10_roll 16 = .ok (.invokevirtual 195, 3) := by decide +kernel
theorem dX10_roll_19 : decode cX10_roll 19 = .ok (.aload_n 0, 1) := by decide +kernel
theorem dX10_roll_20 : decode cX10_roll 20 = .ok (.getfield 66, 3) := by decide +kernel
theorem dX10_roll_23 : decode cX10_roll 23 = .ok (.getfield 198, 3) := by decide +kernel
theorem dX10_roll_26 : decode cX10_roll 26 = .ok (.ifCond .eq 6, 3) := by decide +kernel
theorem dX10_roll_29 : decode cX10_roll 29 = .ok (.bipush (-2), 2) := by decide +kernel
theorem dX10_roll_31 : decode cX10_roll 31 = .ok (.ireturn, 1) := by decide +kernel
theorem dX10_roll_32 : decode cX10_roll 32 = .ok (.iload_n 1, 1) := by decide +kernel
theorem dX10_roll_33 : decode cX10_roll 33 = .ok (.aload_n 0, 1) := by decide +kernel
theorem dX10_roll_34 : decode cX10_roll 34 = .ok (.getfield 66, 3) := by decide +kernel
theorem dX10_roll_37 : decode cX10_roll 37 = .ok (.getfield 201, 3) := by decide +kernel
theorem dX10_roll_40 : decode cX10_roll 40 = .ok (.if_icmp .le 5, 3) := by decide +kernel
theorem dX10_roll_43 : decode cX10_roll 43 = .ok (.iconst (-1), 1) := by decide +kernel
theorem dX10_roll_44 : decode cX10_roll 44 = .ok (.ireturn, 1) := by decide +kernel
theorem dX10_roll_45 : decode cX10_roll 45 = .ok (.aload_n 0, 1) := by decide +kernel
theorem dX10_roll_46 : decode cX10_roll 46 = .ok (.getfield 66, 3) := by decide +kernel
theorem dX10_roll_49 : decode cX10_roll 49 = .ok (.iload_n 1, 1) := by decide +kernel
theorem dX10_roll_50 : decode cX10_roll 50 = .ok (.invokevirtual 204, 3) := by decide +kernel
theorem dX10_roll_53 : decode cX10_roll 53 = .ok (.aload_n 0, 1) := by decide +kernel
theorem dX10_roll_54 : decode cX10_roll 54 = .ok (.getfield 66, 3) := by decide +kernel
theorem dX10_roll_57 : decode cX10_roll 57 = .ok (.getfield 205, 3) := by decide +kernel
theorem dX10_roll_60 : decode cX10_roll 60 = .ok (.ireturn, 1) := by decide +kernel
def bX10_roll : ol_SE := es_seq (es_if (ec_z ol_ne (ei_of (ea_cs fX10_outside (ea_i (ei_v 1) (ea_i (ei_c 0) (ea_i (ei_c 10) (ea_0))))))) (es_ret (ei_c (-1))) es_skip) (es_seq (es_of (ea_cv 3 fX3_reckon (ea_r (er_f 10 10 (er_v 0)) (ea_0)))) (es_seq (es_if (ec_z ol_ne (ei_f 3 5 (er_f 10 10 (er_v 0)))) (es_ret (ei_c (-2))) es_skip) (es_seq (es_if (ec_2 ol_gt (ei_v 1) (ei_f 3 4 (er_f 10 10 (er_v 0)))) (es_ret (ei_c (-1))) es_skip) (es_seq (es_of (ea_cv 3 fX3_append (ea_r (er_f 10 10 (er_v 0)) (ea_i (ei_v 1) (ea_0))))) (es_ret (ei_f 3 1 (er_f 10 10 (er_v 0))))))))
def fX10_roll : ol_FE := ol_fe 2 bX10_roll
set_option maxRecDepth 20000 in
theorem imX10_roll (x : ol_X) (K : ol_K) : IM_S x K mX10_roll 0 0 bX10_roll := rs_seq (p2 := 12) (rs_if (pT := 10) (pF := 12) (pE := 12) (rc_zF (pF := 12) ol_j1_eq_F (ri_k (rk_s (Mc := mX10_outside) (conX10_outside _ K) (ra_i (ri_vn dX10_roll_0 rfl) (ra_i (ri_ic dX10_roll_1 (by unfold ol_inR; omega)) (ra_i (ri_bi dX10_roll_2 (by unfold ol_inR; omega) (by decide)) (ra_0)))) dX10_roll_4 cwX10_98 tw_417 ⟨rfl, rfl, Nat.le_of_ble_eq_true rfl⟩ (by decide) (by decide) (al_i (al_i (al_i al_0)))) (Or.inr (Or.inl rfl))) dX10_roll_7 (by decide)) (rs_ret (ri_ic dX10_roll_10 (by unfold ol_inR; omega)) rfl dX10_roll_11) rs_skip) (rs_seq (p2 := 19) (rs_k (rk_v (Mc := mX3_reckon) (conX3_reckon _ K) (ra_r (rr_f (rr_vn dX10_roll_12 rfl) gfX10_66 dX10_roll_13) (ra_0)) dX10_roll_16 cwX10_195 tw_631 tw_632 (by decide) rfl rfl ⟨rfl, rfl, Nat.le_of_ble_eq_true rfl⟩ (by decide) (by decide) (al_r al_0))) (rs_seq (p2 := 32) (rs_if (pT := 29) (pF := 32) (pE := 32) (rc_zF (pF := 32) ol_j1_eq_F (ri_f (rr_f (rr_vn dX10_roll_19 rfl) gfX10_66 dX10_roll_20) gfX10_198 dX10_roll_23) dX10_roll_26 (by decide)) (rs_ret (ri_bi dX10_roll_29 (by unfold ol_inR; omega) (by decide)) rfl dX10_roll_31) rs_skip) (rs_seq (p2 := 45) (rs_if (pT := 43) (pF := 45) (pE := 45) (rc_2F (pF := 45) ol_j2_le_F (ri_vn dX10_roll_32 rfl) (ri_f (rr_f (rr_vn dX10_roll_33 rfl) gfX10_66 dX10_roll_34) gfX10_201 dX10_roll_37) dX10_roll_40 (by decide)) (rs_ret (ri_ic dX10_roll_43 (by unfold ol_inR; omega)) rfl dX10_roll_44) rs_skip) (rs_seq (p2 := 53) (rs_k (rk_v (Mc := mX3_append) (conX3_append _ K) (ra_r (rr_f (rr_vn dX10_roll_45 rfl) gfX10_66 dX10_roll_46) (ra_i (ri_vn dX10_roll_49 rfl) (ra_0))) dX10_roll_50 cwX10_204 tw_643 tw_644 (by decide) rfl rfl ⟨rfl, rfl, Nat.le_of_ble_eq_true rfl⟩ (by decide) (by decide) (al_r (al_i al_0)))) (rs_ret (ri_f (rr_f (rr_vn dX10_roll_53 rfl) gfX10_66 dX10_roll_54) gfX10_205 dX10_roll_57) rfl dX10_roll_60)))))
theorem conX10_roll (l : Launch) (K : ol_K) : ol_Con l K yX10_roll mX10_roll fX10_roll := ol_con (M := mX10_roll) (by decide) rfl rfl (imX10_roll · K)
theorem dX3_mostSum_0 : decode cX3_mostSum 0 = .ok (.aload_n 0, 1) := by decide +kernel
theorem dX3_mostSum_1 : decode cX3_mostSum 1 = .ok (.getfield 15, 3) := by decide +kernel
theorem dX3_mostSum_4 : decode cX3_mostSum 4 = .ok (.istore_n 1, 1) := by decide +kernel
theorem dX3_mostSum_5 : decode cX3_mostSum 5 = .ok (.aload_n 0, 1) := by decide +kernel
theorem dX3_mostSum_6 : decode cX3_mostSum 6 = .ok (.invokevirtual 40, 3) := by decide +kernel
theorem dX3_mostSum_9 : decode cX3_mostSum 9 = .ok (.iconst 0, 1) := by decide +kernel
theorem dX3_mostSum_10 : decode cX3_mostSum 10 = .ok (.istore_n 2, 1) := by decide +kernel
theorem dX3_mostSum_11 : decode cX3_mostSum 11 = .ok (.iload_n 2, 1) := by decide +kernel
theorem dX3_mostSum_12 : decode cX3_mostSum 12 = .ok (.bipush 21, 2) := by decide +kernel
theorem dX3_mostSum_14 : decode cX3_mostSum 14 = .ok (.if_icmp .ge 28, 3) := by decide +kernel
theorem dX3_mostSum_17 : decode cX3_mostSum 17 = .ok (.aload_n 0, 1) := by decide +kernel
theorem dX3_mostSum_18 : decode cX3_mostSum 18 = .ok (.getfield 28, 3) := by decide +kernel
theorem dX3_mostSum_21 : decode cX3_mostSum 21 = .ok (.ifCond .ne 21, 3) := by decide +kernel
theorem dX3_mostSum_24 : decode cX3_mostSum 24 = .ok (.aload_n 0, 1) := by decide +kernel
theorem dX3_mostSum_25 : decode cX3_mostSum 25 = .ok (.aload_n 0, 1) := by decide +kernel
theorem dX3_mostSum_26 : decode cX3_mostSum 26 = .ok (.getfield 25, 3) := by decide +kernel
theorem dX3_mostSum_29 : decode cX3_mostSum 29 = .ok (.invokevirtual 43, 3) := by decide +kernel
theorem dX3_mostSum_32 : decode cX3_mostSum 32 = .ok (.aload_n 0, 1) := by decide +kernel
theorem dX3_mostSum_33 : decode cX3_mostSum 33 = .ok (.invokevirtual 40, 3) := by decide +kernel
theorem dX3_mostSum_36 : decode cX3_mostSum 36 = .ok (.iinc 2 1, 3) := by decide +kernel
theorem dX3_mostSum_39 : decode cX3_mostSum 39 = .ok (.goto (-28), 3) := by decide +kernel
theorem dX3_mostSum_42 : decode cX3_mostSum 42 = .ok (.aload_n 0, 1) := by decide +kernel
theorem dX3_mostSum_43 : decode cX3_mostSum 43 = .ok (.getfield 19, 3) := by decide +kernel
theorem dX3_mostSum_46 : decode cX3_mostSum 46 = .ok (.istore_n 2, 1) := by decide +kernel
theorem dX3_mostSum_47 : decode cX3_mostSum 47 = .ok (.aload_n 0, 1) := by decide +kernel
theorem dX3_mostSum_48 : decode cX3_mostSum 48 = .ok (.iload_n 1, 1) := by decide +kernel
theorem dX3_mostSum_49 : decode cX3_mostSum 49 = .ok (.putfield 15, 3) := by decide +kernel
theorem dX3_mostSum_52 : decode cX3_mostSum 52 = .ok (.aload_n 0, 1) := by decide +kernel
theorem dX3_mostSum_53 : decode cX3_mostSum 53 = .ok (.invokevirtual 40, 3) := by decide +kernel
theorem dX3_mostSum_56 : decode cX3_mostSum 56 = .ok (.iload_n 2, 1) := by decide +kernel
theorem dX3_mostSum_57 : decode cX3_mostSum 57 = .ok (.ireturn, 1) := by decide +kernel
def bX3_mostSum : ol_SE := es_seq (es_set 1 (ei_f 3 1 (er_v 0))) (es_seq (es_of (ea_cv 3 fX3_reckon (ea_r (er_v 0) (ea_0)))) (es_seq (es_seq (es_set 2 (ei_c 0)) (es_wh (ec_and (ec_2 ol_lt (ei_v 2) (ei_c 21)) (ec_not (ec_z ol_ne (ei_f 3 5 (er_v 0))))) (es_seq (es_seq (es_of (ea_cv 3 fX3_append (ea_r (er_v 0) (ea_i (ei_f 3 4 (er_v 0)) (ea_0))))) (es_of (ea_cv 3 fX3_reckon (ea_r (er_v 0) (ea_0))))) (es_inc 2 1)))) (es_seq (es_set 2 (ei_f 3 2 (er_v 0))) (es_seq (es_pf 3 1 (er_v 0) (ei_v 1)) (es_seq (es_of (ea_cv 3 fX3_reckon (ea_r (er_v 0) (ea_0)))) (es_ret (ei_v 2)))))))
def fX3_mostSum : ol_FE := ol_fe 3 bX3_mostSum
set_option maxRecDepth 20000 in
theorem imX3_mostSum (x : ol_X) (K : ol_K) : IM_S x K mX3_mostSum 0 0 bX3_mostSum := rs_seq (p2 := 5) (rs_setn (ri_f (rr_vn dX3_mostSum_0 rfl) gfX3_15 dX3_mostSum_1) dX3_mostSum_4 rfl (ol_ltn rfl)) (rs_seq (p2 := 9) (rs_k (rk_v (Mc := mX3_reckon) (conX3_reckon _ K) (ra_r (rr_vn dX3_mostSum_5 rfl) (ra_0)) dX3_mostSum_6 cwX3_40 tw_631 tw_632 (by decide) rfl rfl ⟨rfl, rfl, Nat.le_of_ble_eq_true rfl⟩ (by decide) (by decide) (al_r al_0))) (rs_seq (p2 := 42) (rs_seq (p2 := 11) (rs_setn (ri_ic dX3_mostSum_9 (by unfold ol_inR; omega)) dX3_mostSum_10 rfl (ol_ltn rfl)) (rs_wh (pH := 11) (pB := 24) (pE := 42) (pG := 39) (rc_and (p2 := 17) (pT := 24) (pF := 42) (rc_2F (pF := 42) ol_j2_ge_F (ri_vn dX3_mostSum_11 rfl) (ri_bi dX3_mostSum_12 (by unfold ol_inR; omega) (by decide)) dX3_mostSum_14 (by decide)) (rc_not (rc_zT (pT := 42) ol_j1_ne_T (ri_f (rr_vn dX3_mostSum_17 rfl) gfX3_28 dX3_mostSum_18) dX3_mostSum_21 (by decide)))) (rs_seq (p2 := 36) (rs_seq (p2 := 32) (rs_k (rk_v (Mc := mX3_append) (conX3_append _ K) (ra_r (rr_vn dX3_mostSum_24 rfl) (ra_i (ri_f (rr_vn dX3_mostSum_25 rfl) gfX3_25 dX3_mostSum_26) (ra_0))) dX3_mostSum_29 cwX3_43 tw_643 tw_644 (by decide) rfl rfl ⟨rfl, rfl, Nat.le_of_ble_eq_true rfl⟩ (by decide) (by decide) (al_r (al_i al_0)))) (rs_k (rk_v (Mc := mX3_reckon) (conX3_reckon _ K) (ra_r (rr_vn dX3_mostSum_32 rfl) (ra_0)) dX3_mostSum_33 cwX3_40 tw_631 tw_632 (by decide) rfl rfl ⟨rfl, rfl, Nat.le_of_ble_eq_true rfl⟩ (by decide) (by decide) (al_r al_0)))) (rs_inc dX3_mostSum_36 (ol_ltn rfl))) dX3_mostSum_39 (by decide))) (rs_seq (p2 := 47) (rs_setn (ri_f (rr_vn dX3_mostSum_42 rfl) gfX3_19 dX3_mostSum_43) dX3_mostSum_46 rfl (ol_ltn rfl)) (rs_seq (p2 := 52) (rs_pf (rr_vn dX3_mostSum_47 rfl) (ri_vn dX3_mostSum_48 rfl) pfX3_15 rfl dX3_mostSum_49) (rs_seq (p2 := 56) (rs_k (rk_v (Mc := mX3_reckon) (conX3_reckon _ K) (ra_r (rr_vn dX3_mostSum_52 rfl) (ra_0)) dX3_mostSum_53 cwX3_40 tw_631 tw_632 (by decide) rfl rfl ⟨rfl, rfl, Nat.le_of_ble_eq_true rfl⟩ (by decide) (by decide) (al_r al_0))) (rs_ret (ri_vn dX3_mostSum_56 rfl) rfl dX3_mostSum_57))))))
theorem conX3_mostSum (l : Launch) (K : ol_K) : ol_Con l K yX3_mostSum mX3_mostSum fX3_mostSum := ol_con (M := mX3_mostSum) (by decide) rfl rfl (imX3_mostSum · K)
theorem dX8_meanOf_0 : decode cX8_meanOf 0 = .ok (.iconst 0, 1) := by decide +kernel
theorem dX8_meanOf_1 : decode cX8_meanOf 1 = .ok (.istore 7, 2) := by decide +kernel
theorem dX8_meanOf_3 : decode cX8_meanOf 3 = .ok (.iconst 0, 1) := by decide +kernel
theorem dX8_meanOf_4 : decode cX8_meanOf 4 = .ok (.istore 8, 2) := by decide +kernel
theorem dX8_meanOf_6 : decode cX8_meanOf 6 = .ok (.iload 8, 2) := by decide +kernel
theorem dX8_meanOf_8 : decode cX8_meanOf 8 = .ok (.iconst 5, 1) := by decide +kernel
theorem dX8_meanOf_9 : decode cX8_meanOf 9 = .ok (.if_icmp .ge 82, 3) := by decide +kernel
theorem dX8_meanOf_12 : decode cX8_meanOf 12 = .ok (.aload_n 0, 1) := by decide +kernel
theorem dX8_meanOf_13 : decode cX8_meanOf 13 = .ok (.getfield 9, 3) := by decide +kernel
theorem dX8_meanOf_16 : decode cX8_meanOf 16 = .ok (.iload_n 2, 1) := by decide +kernel
theorem dX8_meanOf_17 : decode cX8_meanOf 17 = .ok (.iconst 5, 1) := by decide +kernel
theorem dX8_meanOf_18 : decode cX8_meanOf 18 = .ok (.imul, 1) := by decide +kernel
theorem dX8_meanOf_19 : decode cX8_meanOf 19 = .ok (.iload 8, 2) := by decide +kernel
theorem dX8_meanOf_21 : decode cX8_meanOf 21 = .ok (.iadd, 1) := by decide +kernel
theorem dX8_meanOf_22 : decode cX8_meanOf 22 = .ok (.iaload, 1) := by decide +kernel
theorem dX8_meanOf_23 : decode cX8_meanOf 23 = .ok (.istore 9, 2) := by decide +kernel
theorem dX8_meanOf_25 : decode cX8_meanOf 25 = .ok (.iload_n 3, 1) := by decide +kernel
theorem dX8_meanOf_26 : decode cX8_meanOf 26 = .ok (.iload 8, 2) := by decide +kernel
theorem dX8_meanOf_28 : decode cX8_meanOf 28 = .ok (.iadd, 1) := by decide +kernel
theorem dX8_meanOf_29 : decode cX8_meanOf 29 = .ok (.iconst 2, 1) := by decide +kernel
theorem dX8_meanOf_30 : decode cX8_meanOf 30 = .ok (.isub, 1) := by decide +kernel
theorem dX8_meanOf_31 : decode cX8_meanOf 31 = .ok (.istore 10, 2) := by decide +kernel
theorem dX8_meanOf_33 : decode cX8_meanOf 33 = .ok (.iload 9, 2) := by decide +kernel
theorem dX8_meanOf_35 : decode cX8_meanOf 35 = .ok (.ifCond .le 50, 3) := by decide +kernel
theorem dX8_meanOf_38 : decode cX8_meanOf 38 = .ok (.iload 10, 2) := by decide +kernel
theorem dX8_meanOf_40 : decode cX8_meanOf 40 = .ok (.ifCond .lt 45, 3) := by decide +kernel
theorem dX8_meanOf_43 : decode cX8_meanOf 43 = .ok (.iload 10, 2) := by decide +kernel
theorem dX8_meanOf_45 : decode cX8_meanOf 45 = .ok (.bipush 39, 2) := by decide +kernel
theorem dX8_meanOf_47 : decode cX8_meanOf 47 = .ok (.if_icmp .ge 38, 3) := by decide +kernel
theorem dX8_meanOf_50 : decode cX8_meanOf 50 = .ok (.aload_n 0, 1) := by decide +kernel
theorem dX8_meanOf_51 : decode cX8_meanOf 51 = .ok (.getfield 18, 3) := by decide +kernel
theorem dX8_meanOf_54 : decode cX8_meanOf 54 = .ok (.aload_n 1, 1) := by decide +kernel
theorem dX8_meanOf_55 : decode cX8_meanOf 55 = .ok (.iload 10, 2) := by decide +kernel
theorem dX8_meanOf_57 : decode cX8_meanOf 57 = .ok (.iload 4, 2) := by decide +kernel
theorem dX8_meanOf_59 : decode cX8_meanOf 59 = .ok (.iload 5, 2) := by decide +kernel
theorem dX8_meanOf_61 : decode cX8_meanOf 61 = .ok (.aload 6, 2) := by decide +kernel
theorem dX8_meanOf_63 : decode cX8_meanOf 63 = .ok (.sipush 1023, 3) := by decide +kernel
theorem dX8_meanOf_66 : decode cX8_meanOf 66 = .ok (.iconst 0, 1) := by decide +kernel
theorem dX8_meanOf_67 : decode cX8_meanOf 67 = .ok (.invokevirtual 28, 3) := by decide +kernel
theorem dX8_meanOf_70 : decode cX8_meanOf 70 = .ok (.iload 7, 2) := by decide +kernel
theorem dX8_meanOf_72 : decode cX8_meanOf 72 = .ok (.iload 9, 2) := by decide +kernel
theorem dX8_meanOf_74 : decode cX8_meanOf 74 = .ok (.aload_n 0, 1) := by decide +kernel
theorem dX8_meanOf_75 : decode cX8_meanOf 75 = .ok (.getfield 18, 3) := by decide +kernel
theorem dX8_meanOf_78 : decode cX8_meanOf 78 = .ok (.invokevirtual 32, 3) := by decide +kernel
theorem dX8_meanOf_81 : decode cX8_meanOf 81 = .ok (.imul, 1) := by decide +kernel
theorem dX8_meanOf_82 : decode cX8_meanOf 82 = .ok (.iadd, 1) := by decide +kernel
theorem dX8_meanOf_83 : decode cX8_meanOf 83 = .ok (.istore 7, 2) := by decide +kernel
theorem dX8_meanOf_85 : decode cX8_meanOf 85 = .ok (.iinc 8 1, 3) := by decide +kernel
theorem dX8_meanOf_88 : decode cX8_meanOf 88 = .ok (.goto (-82), 3) := by decide +kernel
theorem dX8_meanOf_91 : decode cX8_meanOf 91 = .ok (.iload 7, 2) := by decide +kernel
theorem dX8_meanOf_93 : decode cX8_meanOf 93 = .ok (.ireturn, 1) := by decide +kernel
def bX8_meanOf : ol_SE := es_seq (es_set 7 (ei_c 0)) (es_seq (es_seq (es_set 8 (ei_c 0)) (es_wh (ec_2 ol_lt (ei_v 8) (ei_c 5)) (es_seq (es_seq (es_set 9 (ei_a 100 (er_f 8 0 (er_v 0)) (ei_2 ol_add (ei_2 ol_mul (ei_v 2) (ei_c 5)) (ei_v 8)))) (es_seq (es_set 10 (ei_2 ol_sub (ei_2 ol_add (ei_v 3) (ei_v 8)) (ei_c 2))) (es_if (ec_and (ec_and (ec_z ol_gt (ei_v 9)) (ec_z ol_ge (ei_v 10))) (ec_2 ol_lt (ei_v 10) (ei_c 39))) (es_seq (es_of (ea_cv 1 fX1_send (ea_r (er_f 8 1 (er_v 0)) (ea_r (er_v 1) (ea_i (ei_v 10) (ea_i (ei_v 4) (ea_i (ei_v 5) (ea_r (er_v 6) (ea_i (ei_c 1023) (ea_i (ei_c 0) (ea_0))))))))))) (es_set 7 (ei_2 ol_add (ei_v 7) (ei_2 ol_mul (ei_v 9) (ei_of (ea_cv 1 fX1_pins (ea_r (er_f 8 1 (er_v 0)) (ea_0)))))))) es_skip))) (es_inc 8 1)))) (es_ret (ei_v 7)))
def fX8_meanOf : ol_FE := ol_fe 11 bX8_meanOf
set_option maxRecDepth 20000 in
theorem imX8_meanOf (x : ol_X) (K : ol_K) : IM_S x K mX8_meanOf 0 0 bX8_meanOf := rs_seq (p2 := 3) (rs_set (ri_ic dX8_meanOf_0 (by unfold ol_inR; omega)) dX8_meanOf_1 (ol_ltn rfl)) (rs_seq (p2 := 91) (rs_seq (p2 := 6) (rs_set (ri_ic dX8_meanOf_3 (by unfold ol_inR; omega)) dX8_meanOf_4 (ol_ltn rfl)) (rs_wh (pH := 6) (pB := 12) (pE := 91) (pG := 88) (rc_2F (pF := 91) ol_j2_ge_F (ri_vi dX8_meanOf_6) (ri_ic dX8_meanOf_8 (by unfold ol_inR; omega)) dX8_meanOf_9 (by decide)) (rs_seq (p2 := 85) (rs_seq (p2 := 25) (rs_set (ri_a (rr_f (rr_vn dX8_meanOf_12 rfl) gfX8_9 dX8_meanOf_13) (ri_2 ol_op_add (ri_2 ol_op_mul (ri_vn dX8_meanOf_16 rfl) (ri_ic dX8_meanOf_17 (by unfold ol_inR; omega)) dX8_meanOf_18) (ri_vi dX8_meanOf_19) dX8_meanOf_21) rfl dX8_meanOf_22) dX8_meanOf_23 (ol_ltn rfl)) (rs_seq (p2 := 33) (rs_set (ri_2 ol_op_sub (ri_2 ol_op_add (ri_vn dX8_meanOf_25 rfl) (ri_vi dX8_meanOf_26) dX8_meanOf_28) (ri_ic dX8_meanOf_29 (by unfold ol_inR; omega)) dX8_meanOf_30) dX8_meanOf_31 (ol_ltn rfl)) (rs_if (pT := 50) (pF := 85) (pE := 85) (rc_and (p2 := 43) (pT := 50) (pF := 85) (rc_and (p2 := 38) (pT := 43) (pF := 85) (rc_zF (pF := 85) ol_j1_le_F (ri_vi dX8_meanOf_33) dX8_meanOf_35 (by decide)) (rc_zF (pF := 85) ol_j1_lt_F (ri_vi dX8_meanOf_38) dX8_meanOf_40 (by decide))) (rc_2F (pF := 85) ol_j2_ge_F (ri_vi dX8_meanOf_43) (ri_bi dX8_meanOf_45 (by unfold ol_inR; omega) (by decide)) dX8_meanOf_47 (by decide))) (rs_seq (p2 := 70) (rs_k (rk_v (Mc := mX1_send) (conX1_send _ K) (ra_r (rr_f (rr_vn dX8_meanOf_50 rfl) gfX8_18 dX8_meanOf_51) (ra_r (rr_vn dX8_meanOf_54 rfl) (ra_i (ri_vi dX8_meanOf_55) (ra_i (ri_vi dX8_meanOf_57) (ra_i (ri_vi dX8_meanOf_59) (ra_r (rr_vi dX8_meanOf_61) (ra_i (ri_si dX8_meanOf_63 (by unfold ol_inR; omega) (by decide)) (ra_i (ri_ic dX8_meanOf_66 (by unfold ol_inR; omega)) (ra_0))))))))) dX8_meanOf_67 cwX8_28 tw_572 tw_573 (by decide) rfl rfl ⟨rfl, rfl, Nat.le_of_ble_eq_true rfl⟩ (by decide) (by decide) (al_r (al_r (al_i (al_i (al_i (al_r (al_i (al_i al_0)))))))))) (rs_set (ri_2 ol_op_add (ri_vi dX8_meanOf_70) (ri_2 ol_op_mul (ri_vi dX8_meanOf_72) (ri_k (rk_v (Mc := mX1_pins) (conX1_pins _ K) (ra_r (rr_f (rr_vn dX8_meanOf_74 rfl) gfX8_18 dX8_meanOf_75) (ra_0)) dX8_meanOf_78 cwX8_32 tw_602 tw_603 (by decide) rfl rfl ⟨rfl, rfl, Nat.le_of_ble_eq_true rfl⟩ (by decide) (by decide) (al_r al_0)) (Or.inl rfl)) dX8_meanOf_81) dX8_meanOf_82) dX8_meanOf_83 (ol_ltn rfl))) rs_skip))) (rs_inc dX8_meanOf_85 (ol_ltn rfl))) dX8_meanOf_88 (by decide))) (rs_ret (ri_vi dX8_meanOf_91) rfl dX8_meanOf_93))
theorem conX8_meanOf (l : Launch) (K : ol_K) : ol_Con l K yX8_meanOf mX8_meanOf fX8_meanOf := ol_con (M := mX8_meanOf) (by decide) rfl rfl (imX8_meanOf · K)
theorem dX8_notePins_0 : decode cX8_notePins 0 = .ok (.iconst 0, 1) := by decide +kernel
theorem dX8_notePins_1 : decode cX8_notePins 1 = .ok (.istore 4, 2) := by decide +kernel
theorem dX8_notePins_3 : decode cX8_notePins 3 = .ok (.iload 4, 2) := by decide +kernel
theorem dX8_notePins_5 : decode cX8_notePins 5 = .ok (.bipush 39, 2) := by decide +kernel
theorem dX8_notePins_7 : decode cX8_notePins 7 = .ok (.if_icmp .ge 67, 3) := by decide +kernel
theorem dX8_notePins_10 : decode cX8_notePins 10 = .ok (.bipush (-6), 2) := by decide +kernel
theorem dX8_notePins_12 : decode cX8_notePins 12 = .ok (.istore 5, 2) := by decide +kernel
theorem dX8_notePins_14 : decode cX8_notePins 14 = .ok (.iload 5, 2) := by decide +kernel
theorem dX8_notePins_16 : decode cX8_notePins 16 = .ok (.bipush 6, 2) := by decide +kernel
theorem dX8_notePins_18 : decode cX8_notePins 18 = .ok (.if_icmp .gt 50, 3) := by decide +kernel
theorem dX8_notePins_21 : decode cX8_notePins 21 = .ok (.aload_n 0, 1) := by decide +kernel
theorem dX8_notePins_22 : decode cX8_notePins 22 = .ok (.getfield 18, 3) := by decide +kernel
theorem dX8_notePins_25 : decode cX8_notePins 25 = .ok (.aload_n 1, 1) := by decide +kernel
theorem dX8_notePins_26 : decode cX8_notePins 26 = .ok (.iload 4, 2) := by decide +kernel
theorem dX8_notePins_28 : decode cX8_notePins 28 = .ok (.iload 5, 2) := by decide +kernel
theorem dX8_notePins_30 : decode cX8_notePins 30 = .ok (.iload_n 2, 1) := by decide +kernel
theorem dX8_notePins_31 : decode cX8_notePins 31 = .ok (.aload_n 3, 1) := by decide +kernel
theorem dX8_notePins_32 : decode cX8_notePins 32 = .ok (.sipush 1023, 3) := by decide +kernel
theorem dX8_notePins_35 : decode cX8_notePins 35 = .ok (.iconst 0, 1) := by decide +kernel
theorem dX8_notePins_36 : decode cX8_notePins 36 = .ok (.invokevirtual 28, 3) := by decide +kernel
theorem dX8_notePins_39 : decode cX8_notePins 39 = .ok (.aload_n 0, 1) := by decide +kernel
theorem dX8_notePins_40 : decode cX8_notePins 40 = .ok (.getfield 22, 3) := by decide +kernel
theorem dX8_notePins_43 : decode cX8_notePins 43 = .ok (.iload 4, 2) := by decide +kernel
theorem dX8_notePins_45 : decode cX8_notePins 45 = .ok (.bipush 13, 2) := by decide +kernel
theorem dX8_notePins_47 : decode cX8_notePins 47 = .ok (.imul, 1) := by decide +kernel
theorem dX8_notePins_48 : decode cX8_notePins 48 = .ok (.iload 5, 2) := by decide +kernel
theorem dX8_notePins_50 : decode cX8_notePins 50 = .ok (.iadd, 1) := by decide +kernel
theorem dX8_notePins_51 : decode cX8_notePins 51 = .ok (.bipush 6, 2) := by decide +kernel
theorem dX8_notePins_53 : decode cX8_notePins 53 = .ok (.iadd, 1) := by decide +kernel
theorem dX8_notePins_54 : decode cX8_notePins 54 = .ok (.aload_n 0, 1) := by decide +kernel
theorem dX8_notePins_55 : decode cX8_notePins 55 = .ok (.getfield 18, 3) := by decide +kernel
theorem dX8_notePins_58 : decode cX8_notePins 58 = .ok (.invokevirtual 32, 3) := by decide +kernel
theorem dX8_notePins_61 : decode cX8_notePins 61 = .ok (.iastore, 1) := by decide +kernel
theorem dX8_notePins_62 : decode cX8_notePins 62 = .ok (.iinc 5 1, 3) := by decide +kernel
theorem dX8_notePins_65 : decode cX8_notePins 65 = .ok (.goto (-51), 3) := by decide +kernel
theorem dX8_notePins_68 : decode cX8_notePins 68 = .ok (.iinc 4 1, 3) := by decide +kernel
theorem dX8_notePins_71 : decode cX8_notePins 71 = .ok (.goto (-68), 3) := by decide +kernel
theorem dX8_notePins_74 : decode cX8_notePins 74 = .ok (.return_, 1) := by decide +kernel
def bX8_notePins : ol_SE := es_seq (es_seq (es_set 4 (ei_c 0)) (es_wh (ec_2 ol_lt (ei_v 4) (ei_c 39)) (es_seq (es_seq (es_set 5 (ei_c (-6))) (es_wh (ec_2 ol_le (ei_v 5) (ei_c 6)) (es_seq (es_seq (es_of (ea_cv 1 fX1_send (ea_r (er_f 8 1 (er_v 0)) (ea_r (er_v 1) (ea_i (ei_v 4) (ea_i (ei_v 5) (ea_i (ei_v 2) (ea_r (er_v 3) (ea_i (ei_c 1023) (ea_i (ei_c 0) (ea_0))))))))))) (es_as 100 (er_f 8 2 (er_v 0)) (ei_2 ol_add (ei_2 ol_add (ei_2 ol_mul (ei_v 4) (ei_c 13)) (ei_v 5)) (ei_c 6)) (ei_of (ea_cv 1 fX1_pins (ea_r (er_f 8 1 (er_v 0)) (ea_0)))))) (es_inc 5 1)))) (es_inc 4 1)))) (es_retv)
def fX8_notePins : ol_FE := ol_fe 6 bX8_notePins
set_option maxRecDepth 20000 in
theorem imX8_notePins (x : ol_X) (K : ol_K) : IM_S x K mX8_notePins 0 0 bX8_notePins := rs_seq (p2 := 74) (rs_seq (p2 := 3) (rs_set (ri_ic dX8_notePins_0 (by unfold ol_inR; omega)) dX8_notePins_1 (ol_ltn rfl)) (rs_wh (pH := 3) (pB := 10) (pE := 74) (pG := 71) (rc_2F (pF := 74) ol_j2_ge_F (ri_vi dX8_notePins_3) (ri_bi dX8_notePins_5 (by unfold ol_inR; omega) (by decide)) dX8_notePins_7 (by decide)) (rs_seq (p2 := 68) (rs_seq (p2 := 14) (rs_set (ri_bi dX8_notePins_10 (by unfold ol_inR; omega) (by decide)) dX8_notePins_12 (ol_ltn rfl)) (rs_wh (pH := 14) (pB := 21) (pE := 68) (pG := 65) (rc_2F (pF := 68) ol_j2_gt_F (ri_vi dX8_notePins_14) (ri_bi dX8_notePins_16 (by unfold ol_inR; omega) (by decide)) dX8_notePins_18 (by decide)) (rs_seq (p2 := 62) (rs_seq (p2 := 39) (rs_k (rk_v (Mc := mX1_send) (conX1_send _ K) (ra_r (rr_f (rr_vn dX8_notePins_21 rfl) gfX8_18 dX8_notePins_22) (ra_r (rr_vn dX8_notePins_25 rfl) (ra_i (ri_vi dX8_notePins_26) (ra_i (ri_vi dX8_notePins_28) (ra_i (ri_vn dX8_notePins_30 rfl) (ra_r (rr_vn dX8_notePins_31 rfl) (ra_i (ri_si dX8_notePins_32 (by unfold ol_inR; omega) (by decide)) (ra_i (ri_ic dX8_notePins_35 (by unfold ol_inR; omega)) (ra_0))))))))) dX8_notePins_36 cwX8_28 tw_572 tw_573 (by decide) rfl rfl ⟨rfl, rfl, Nat.le_of_ble_eq_true rfl⟩ (by decide) (by decide) (al_r (al_r (al_i (al_i (al_i (al_r (al_i (al_i al_0)))))))))) (rs_as (rr_f (rr_vn dX8_notePins_39 rfl) gfX8_22 dX8_notePins_40) (ri_2 ol_op_add (ri_2 ol_op_add (ri_2 ol_op_mul (ri_vi dX8_notePins_43) (ri_bi dX8_notePins_45 (by unfold ol_inR; omega) (by decide)) dX8_notePins_47) (ri_vi dX8_notePins_48) dX8_notePins_50) (ri_bi dX8_notePins_51 (by unfold ol_inR; omega) (by decide)) dX8_notePins_53) (ri_k (rk_v (Mc := mX1_pins) (conX1_pins _ K) (ra_r (rr_f (rr_vn dX8_notePins_54 rfl) gfX8_18 dX8_notePins_55) (ra_0)) dX8_notePins_58 cwX8_32 tw_602 tw_603 (by decide) rfl rfl ⟨rfl, rfl, Nat.le_of_ble_eq_true rfl⟩ (by decide) (by decide) (al_r al_0)) (Or.inl rfl)) dX8_notePins_61)) (rs_inc dX8_notePins_62 (ol_ltn rfl))) dX8_notePins_65 (by decide))) (rs_inc dX8_notePins_68 (ol_ltn rfl))) dX8_notePins_71 (by decide))) (rs_retv rfl dX8_notePins_74)
theorem conX8_notePins (l : Launch) (K : ol_K) : ol_Con l K yX8_notePins mX8_notePins fX8_notePins := ol_con (M := mX8_notePins) (by decide) rfl rfl (imX8_notePins · K)
theorem dX2_playRounds_0 : decode cX2_playRounds 0 = .ok (.iconst 0, 1) := by decide +kernel
theorem dX2_playRounds_1 : decode cX2_playRounds 1 = .ok (.istore 6, 2) := by decide +kernel
theorem dX2_playRounds_3 : decode cX2_playRounds 3 = .ok (.iconst 0, 1) := by decide +kernel
theorem dX2_playRounds_4 : decode cX2_playRounds 4 = .ok (.istore 7, 2) := by decide +kernel
theorem dX2_playRounds_6 : decode cX2_playRounds 6 = .ok (.iload 7, 2) := by decide +kernel
theorem dX2_playRounds_8 : decode cX2_playRounds 8 = .ok (.iconst 4, 1) := by decide +kernel
theorem dX2_playRounds_9 : decode cX2_playRounds 9 = .ok (.if_icmp .ge 15, 3) := by decide +kernel
theorem dX2_playRounds_12 : decode cX2_playRounds 12 = .ok (.aload 5, 2) := by decide +kernel
theorem dX2_playRounds_14 : decode cX2_playRounds 14 = .ok (.iload 7, 2) := by decide +kernel
theorem dX2_playRounds_16 : decode cX2_playRounds 16 = .ok (.iconst 0, 1) := by decide +kernel
theorem dX2_playRounds_17 : decode cX2_playRounds 17 = .ok (.iastore, 1) := by decide +kernel
theorem dX2_playRounds_18 : decode cX2_playRounds 18 = .ok (.iinc 7 1, 3) := by decide +kernel
theorem dX2_playRounds_21 : decode cX2_playRounds 21 = .ok (.goto (-15), 3) := by decide +kernel
theorem dX2_playRounds_24 : decode cX2_playRounds 24 = .ok (.iconst 0, 1) := by decide +kernel
theorem dX2_playRounds_25 : decode cX2_playRounds 25 = .ok (.istore 7, 2) := by decide +kernel
theorem dX2_playRounds_27 : decode cX2_playRounds 27 = .ok (.iload 7, 2) := by decide +kernel
theorem dX2_playRounds_29 : decode cX2_playRounds 29 = .ok (.iload_n 1, 1) := by decide +kernel
theorem dX2_playRounds_30 : decode cX2_playRounds 30 = .ok (.if_icmp .ge 103, 3) := by decide +kernel
theorem dX2_playRounds_33 : decode cX2_playRounds 33 = .ok (.iconst 0, 1) := by decide +kernel
theorem dX2_playRounds_34 : decode cX2_playRounds 34 = .ok (.istore 8, 2) := by decide +kernel
theorem dX2_playRounds_36 : decode cX2_playRounds 36 = .ok (.iload 8, 2) := by decide +kernel
theorem dX2_playRounds_38 : decode cX2_playRounds 38 = .ok (.aload_n 0, 1) := by decide +kernel
theorem dX2_playRounds_39 : decode cX2_playRounds 39 = .ok (.getfield 32, 3) := by decide +kernel
theorem dX2_playRounds_42 : decode cX2_playRounds 42 = .ok (.if_icmp .ge 85, 3) := by decide +kernel
theorem dX2_playRounds_45 : decode cX2_playRounds 45 = .ok (.aload_n 0, 1) := by decide +kernel
theorem dX2_playRounds_46 : decode cX2_playRounds 46 = .ok (.getfield 20, 3) := by decide +kernel
theorem dX2_playRounds_49 : decode cX2_playRounds 49 = .ok (.aload 4, 2) := by decide +kernel
theorem dX2_playRounds_51 : decode cX2_playRounds 51 = .ok (.iload 8, 2) := by decide +kernel
theorem dX2_playRounds_53 : decode cX2_playRounds 53 = .ok (.iaload, 1) := by decide +kernel
theorem dX2_playRounds_54 : decode cX2_playRounds 54 = .ok (.aaload, 1) := by decide +kernel
theorem dX2_playRounds_55 : decode cX2_playRounds 55 = .ok (.astore 9, 2) := by decide +kernel
theorem dX2_playRounds_57 : decode cX2_playRounds 57 = .ok (.aload_n 2, 1) := by decide +kernel
theorem dX2_playRounds_58 : decode cX2_playRounds 58 = .ok (.aload_n 0, 1) := by decide +kernel
theorem dX2_playRounds_59 : decode cX2_playRounds 59 = .ok (.getfield 12, 3) := by decide +kernel
theorem dX2_playRounds_62 : decode cX2_playRounds 62 = .ok (.aload 9, 2) := by decide +kernel
theorem dX2_playRounds_64 : decode cX2_playRounds 64 = .ok (.getfield 36, 3) := by decide +kernel
theorem dX2_playRounds_67 : decode cX2_playRounds 67 = .ok (.aload 9, 2) := by decide +kernel
theorem dX2_playRounds_69 : decode cX2_playRounds 69 = .ok (.getfield 39, 3) := by decide +kernel
theorem dX2_playRounds_72 : decode cX2_playRounds 72 = .ok (.aload 9, 2) := by decide +kernel
theorem dX2_playRounds_74 : decode cX2_playRounds 74 = .ok (.getfield 42, 3) := by decide +kernel
theorem dX2_playRounds_77 : decode cX2_playRounds 77 = .ok (.aload_n 3, 1) := by decide +kernel
theorem dX2_playRounds_78 : decode cX2_playRounds 78 = .ok (.aload 9, 2) := by decide +kernel
theorem dX2_playRounds_80 : decode cX2_playRounds 80 = .ok (.getfield 45, 3) := by decide +kernel
theorem dX2_playRounds_83 : decode cX2_playRounds 83 = .ok (.aaload, 1) := by decide +kernel
theorem dX2_playRounds_84 : decode cX2_playRounds 84 = .ok (.sipush 1023, 3) := by decide +kernel
theorem dX2_playRounds_87 : decode cX2_playRounds 87 = .ok (.iconst 1, 1) := by decide +kernel
theorem dX2_playRounds_88 : decode cX2_playRounds 88 = .ok (.invokevirtual 48, 3) := by decide +kernel
theorem dX2_playRounds_91 : decode cX2_playRounds 91 = .ok (.aload 9, 2) := by decide +kernel
theorem dX2_playRounds_93 : decode cX2_playRounds 93 = .ok (.aload_n 2, 1) := by decide +kernel
theorem dX2_playRounds_94 : decode cX2_playRounds 94 = .ok (.invokevirtual 54, 3) := by decide +kernel
theorem dX2_playRounds_97 : decode cX2_playRounds 97 = .ok (.aload 5, 2) := by decide +kernel
theorem dX2_playRounds_99 : decode cX2_playRounds 99 = .ok (.aload 4, 2) := by decide +kernel
theorem dX2_playRounds_101 : decode cX2_playRounds 101 = .ok (.iload 8, 2) := by decide +kernel
theorem dX2_playRounds_103 : decode cX2_playRounds 103 = .ok (.iaload, 1) := by decide +kernel
theorem dX2_playRounds_104 : decode cX2_playRounds 104 = .ok (.dup2, 1) := by decide +kernel
theorem dX2_playRounds_105 : decode cX2_playRounds 105 = .ok (.iaload, 1) := by decide +kernel
theorem dX2_playRounds_106 : decode cX2_playRounds 106 = .ok (.aload_n 2, 1) := by decide +kernel
theorem dX2_playRounds_107 : decode cX2_playRounds 107 = .ok (.invokevirtual 58, 3) := by decide +kernel
theorem dX2_playRounds_110 : decode cX2_playRounds 110 = .ok (.iadd, 1) := by decide +kernel
theorem dX2_playRounds_111 : decode cX2_playRounds 111 = .ok (.iastore, 1) := by decide +kernel
theorem dX2_playRounds_112 : decode cX2_playRounds 112 = .ok (.iload 6, 2) := by decide +kernel
theorem dX2_playRounds_114 : decode cX2_playRounds 114 = .ok (.aload_n 2, 1) := by decide +kernel
theorem dX2_playRounds_115 : decode cX2_playRounds 115 = .ok (.invokevirtual 58, 3) := by decide +kernel
theorem dX2_playRounds_118 : decode cX2_playRounds 118 = .ok (.iadd, 1) := by decide +kernel
theorem dX2_playRounds_119 : decode cX2_playRounds 119 = .ok (.istore 6, 2) := by decide +kernel
theorem dX2_playRounds_121 : decode cX2_playRounds 121 = .ok (.iinc 8 1, 3) := by decide +kernel
theorem dX2_playRounds_124 : decode cX2_playRounds 124 = .ok (.goto (-88), 3) := by decide +kernel
theorem dX2_playRounds_127 : decode cX2_playRounds 127 = .ok (.iinc 7 1, 3) := by decide +kernel
theorem dX2_playRounds_130 : decode cX2_playRounds 130 = .ok (.goto (-103), 3) := by decide +kernel
theorem dX2_playRounds_133 : decode cX2_playRounds 133 = .ok (.iload 6, 2) := by decide +kernel
theorem dX2_playRounds_135 : decode cX2_playRounds 135 = .ok (.ireturn, 1) := by decide +kernel
def bX2_playRounds : ol_SE := es_seq (es_set 6 (ei_c 0)) (es_seq (es_seq (es_set 7 (ei_c 0)) (es_wh (ec_2 ol_lt (ei_v 7) (ei_c 4)) (es_seq (es_as 100 (er_v 5) (ei_v 7) (ei_c 0)) (es_inc 7 1)))) (es_seq (es_seq (es_set 7 (ei_c 0)) (es_wh (ec_2 ol_lt (ei_v 7) (ei_v 1)) (es_seq (es_seq (es_set 8 (ei_c 0)) (es_wh (ec_2 ol_lt (ei_v 8) (ei_f 2 2 (er_v 0))) (es_seq (es_seq (es_setr 9 (er_a 106 (er_f 2 1 (er_v 0)) (ei_a 100 (er_v 4) (ei_v 8)))) (es_seq (es_of (ea_cv 1 fX1_send (ea_r (er_v 2) (ea_r (er_f 2 0 (er_v 0)) (ea_i (ei_f 9 0 (er_v 9)) (ea_i (ei_f 9 1 (er_v 9)) (ea_i (ei_f 9 2 (er_v 9)) (ea_r (er_a 104 (er_v 3) (ei_f 9 3 (er_v 9))) (ea_i (ei_c 1023) (ea_i (ei_c 1) (ea_0))))))))))) (es_seq (es_of (ea_cv 9 fX9_learnFrom (ea_r (er_v 9) (ea_r (er_v 2) (ea_0))))) (es_seq (es_ua 100 (er_v 5) (ei_a 100 (er_v 4) (ei_v 8)) ol_add (ei_of (ea_cv 1 fX1_pins (ea_r (er_v 2) (ea_0))))) (es_set 6 (ei_2 ol_add (ei_v 6) (ei_of (ea_cv 1 fX1_pins (ea_r (er_v 2) (ea_0)))))))))) (es_inc 8 1)))) (es_inc 7 1)))) (es_ret (ei_v 6))))
def fX2_playRounds : ol_FE := ol_fe 10 bX2_playRounds
set_option maxRecDepth 20000 in
theorem imX2_playRounds (x : ol_X) (K : ol_K) : IM_S x K mX2_playRounds 0 0 bX2_playRounds := rs_seq (p2 := 3) (rs_set (ri_ic dX2_playRounds_0 (by unfold ol_inR; omega)) dX2_playRounds_1 (ol_ltn rfl)) (rs_seq (p2 := 24) (rs_seq (p2 := 6) (rs_set (ri_ic dX2_playRounds_3 (by unfold ol_inR; omega)) dX2_playRounds_4 (ol_ltn rfl)) (rs_wh (pH := 6) (pB := 12) (pE := 24) (pG := 21) (rc_2F (pF := 24) ol_j2_ge_F (ri_vi dX2_playRounds_6) (ri_ic dX2_playRounds_8 (by unfold ol_inR; omega)) dX2_playRounds_9 (by decide)) (rs_seq (p2 := 18) (rs_as (rr_vi dX2_playRounds_12) (ri_vi dX2_playRounds_14) (ri_ic dX2_playRounds_16 (by unfold ol_inR; omega)) dX2_playRounds_17) (rs_inc dX2_playRounds_18 (ol_ltn rfl))) dX2_playRounds_21 (by decide))) (rs_seq (p2 := 133) (rs_seq (p2 := 27) (rs_set (ri_ic dX2_playRounds_24 (by unfold ol_inR; omega)) dX2_playRounds_25 (ol_ltn rfl)) (rs_wh (pH := 27) (pB := 33) (pE := 133) (pG := 130) (rc_2F (pF := 133) ol_j2_ge_F (ri_vi dX2_playRounds_27) (ri_vn dX2_playRounds_29 rfl) dX2_playRounds_30 (by decide)) (rs_seq (p2 := 127) (rs_seq (p2 := 36) (rs_set (ri_ic dX2_playRounds_33 (by unfold ol_inR; omega)) dX2_playRounds_34 (ol_ltn rfl)) (rs_wh (pH := 36) (pB := 45) (pE := 127) (pG := 124) (rc_2F (pF := 127) ol_j2_ge_F (ri_vi dX2_playRounds_36) (ri_f (rr_vn dX2_playRounds_38 rfl) gfX2_32 dX2_playRounds_39) dX2_playRounds_42 (by decide)) (rs_seq (p2 := 121) (rs_seq (p2 := 57) (rs_setr (rr_a (t := 6) (rr_f (rr_vn dX2_playRounds_45 rfl) gfX2_20 dX2_playRounds_46) (ri_a (rr_vi dX2_playRounds_49) (ri_vi dX2_playRounds_51) rfl dX2_playRounds_53) (by decide) rfl dX2_playRounds_54) dX2_playRounds_55 (ol_ltn rfl)) (rs_seq (p2 := 91) (rs_k (rk_v (Mc := mX1_send) (conX1_send _ K) (ra_r (rr_vn dX2_playRounds_57 rfl) (ra_r (rr_f (rr_vn dX2_playRounds_58 rfl) gfX2_12 dX2_playRounds_59) (ra_i (ri_f (rr_vi dX2_playRounds_62) gfX2_36 dX2_playRounds_64) (ra_i (ri_f (rr_vi dX2_playRounds_67) gfX2_39 dX2_playRounds_69) (ra_i (ri_f (rr_vi dX2_playRounds_72) gfX2_42 dX2_playRounds_74) (ra_r (rr_a (t := 4) (rr_vn dX2_playRounds_77 rfl) (ri_f (rr_vi dX2_playRounds_78) gfX2_45 dX2_playRounds_80) (by decide) rfl dX2_playRounds_83) (ra_i (ri_si dX2_playRounds_84 (by unfold ol_inR; omega) (by decide)) (ra_i (ri_ic dX2_playRounds_87 (by unfold ol_inR; omega)) (ra_0))))))))) dX2_playRounds_88 cwX2_48 tw_572 tw_573 (by decide) rfl rfl ⟨rfl, rfl, Nat.le_of_ble_eq_true rfl⟩ (by decide) (by decide) (al_r (al_r (al_i (al_i (al_i (al_r (al_i (al_i al_0)))))))))) (rs_seq (p2 := 97) (rs_k (rk_v (Mc := mX9_learnFrom) (conX9_learnFrom _ K) (ra_r (rr_vi dX2_playRounds_91) (ra_r (rr_vn dX2_playRounds_93 rfl) (ra_0))) dX2_playRounds_94 cwX2_54 tw_720 tw_721 (by decide) rfl rfl ⟨rfl, rfl, Nat.le_of_ble_eq_true rfl⟩ (by decide) (by decide) (al_r (al_r al_0)))) (rs_seq (p2 := 112) (rs_ua ol_op_add (rr_vi dX2_playRounds_97) (ri_a (rr_vi dX2_playRounds_99) (ri_vi dX2_playRounds_101) rfl dX2_playRounds_103) dX2_playRounds_104 dX2_playRounds_105 (ri_k (rk_v (Mc := mX1_pins) (conX1_pins _ K) (ra_r (rr_vn dX2_playRounds_106 rfl) (ra_0)) dX2_playRounds_107 cwX2_58 tw_602 tw_603 (by decide) rfl rfl ⟨rfl, rfl, Nat.le_of_ble_eq_true rfl⟩ (by decide) (by decide) (al_r al_0)) (Or.inl rfl)) dX2_playRounds_110 dX2_playRounds_111) (rs_set (ri_2 ol_op_add (ri_vi dX2_playRounds_112) (ri_k (rk_v (Mc := mX1_pins) (conX1_pins _ K) (ra_r (rr_vn dX2_playRounds_114 rfl) (ra_0)) dX2_playRounds_115 cwX2_58 tw_602 tw_603 (by decide) rfl rfl ⟨rfl, rfl, Nat.le_of_ble_eq_true rfl⟩ (by decide) (by decide) (al_r al_0)) (Or.inl rfl)) dX2_playRounds_118) dX2_playRounds_119 (ol_ltn rfl)))))) (rs_inc dX2_playRounds_121 (ol_ltn rfl))) dX2_playRounds_124 (by decide))) (rs_inc dX2_playRounds_127 (ol_ltn rfl))) dX2_playRounds_130 (by decide))) (rs_ret (ri_vi dX2_playRounds_133) rfl dX2_playRounds_135)))
theorem conX2_playRounds (l : Launch) (K : ol_K) : ol_Con l K yX2_playRounds mX2_playRounds fX2_playRounds := ol_con (M := mX2_playRounds) (by decide) rfl rfl (imX2_playRounds · K)
theorem dX10_cluesFit_0 : decode cX10_cluesFit 0 = .ok (.aload_n 0, 1) := by decide +kernel
theorem dX10_cluesFit_1 : decode cX10_cluesFit 1 = .ok (.getfield 35, 3) := by decide +kernel
theorem dX10_cluesFit_4 : decode cX10_cluesFit 4 = .ok (.getfield 121, 3) := by decide +kernel
theorem dX10_cluesFit_7 : decode cX10_cluesFit 7 = .ok (.astore_n 2, 1) := by decide +kernel
theorem dX10_cluesFit_8 : decode cX10_cluesFit 8 = .ok (.aload_n 1, 1) := by decide +kernel
theorem dX10_cluesFit_9 : decode cX10_cluesFit 9 = .ok (.aload_n 2, 1) := by decide +kernel
theorem dX10_cluesFit_10 : decode cX10_cluesFit 10 = .ok (.invokevirtual 125, 3) := by decide +kernel
theorem dX10_cluesFit_13 : decode cX10_cluesFit 13 = .ok (.iconst 0, 1) := by decide +kernel
theorem dX10_cluesFit_14 : decode cX10_cluesFit 14 = .ok (.istore_n 3, 1) := by decide +kernel
theorem dX10_cluesFit_15 : decode cX10_cluesFit 15 = .ok (.iload_n 3, 1) := by decide +kernel
theorem dX10_cluesFit_16 : decode cX10_cluesFit 16 = .ok (.aload_n 0, 1) := by decide +kernel
theorem dX10_cluesFit_17 : decode cX10_cluesFit 17 = .ok (.getfield 292, 3) := by decide +kernel
theorem dX10_cluesFit_20 : decode cX10_cluesFit 20 = .ok (.if_icmp .ge 87, 3) := by decide +kernel
theorem dX10_cluesFit_23 : decode cX10_cluesFit 23 = .ok (.iload_n 3, 1) := by decide +kernel
theorem dX10_cluesFit_24 : decode cX10_cluesFit 24 = .ok (.iconst 5, 1) := by decide +kernel
theorem dX10_cluesFit_25 : decode cX10_cluesFit 25 = .ok (.imul, 1) := by decide +kernel
theorem dX10_cluesFit_26 : decode cX10_cluesFit 26 = .ok (.istore 4, 2) := by decide +kernel
theorem dX10_cluesFit_28 : decode cX10_cluesFit 28 = .ok (.aload_n 0, 1) := by decide +kernel
theorem dX10_cluesFit_29 : decode cX10_cluesFit 29 = .ok (.getfield 24, 3) := by decide +kernel
theorem dX10_cluesFit_32 : decode cX10_cluesFit 32 = .ok (.aload_n 0, 1) := by decide +kernel
theorem dX10_cluesFit_33 : decode cX10_cluesFit 33 = .ok (.getfield 77, 3) := by decide +kernel
theorem dX10_cluesFit_36 : decode cX10_cluesFit 36 = .ok (.iload 4, 2) := by decide +kernel
theorem dX10_cluesFit_38 : decode cX10_cluesFit 38 = .ok (.iconst 3, 1) := by decide +kernel
theorem dX10_cluesFit_39 : decode cX10_cluesFit 39 = .ok (.iadd, 1) := by decide +kernel
theorem dX10_cluesFit_40 : decode cX10_cluesFit 40 = .ok (.iaload, 1) := by decide +kernel
theorem dX10_cluesFit_41 : decode cX10_cluesFit 41 = .ok (.aaload, 1) := by decide +kernel
theorem dX10_cluesFit_42 : decode cX10_cluesFit 42 = .ok (.astore 5, 2) := by decide +kernel
theorem dX10_cluesFit_44 : decode cX10_cluesFit 44 = .ok (.aload_n 0, 1) := by decide +kernel
theorem dX10_cluesFit_45 : decode cX10_cluesFit 45 = .ok (.getfield 53, 3) := by decide +kernel
theorem dX10_cluesFit_48 : decode cX10_cluesFit 48 = .ok (.aload_n 2, 1) := by decide +kernel
theorem dX10_cluesFit_49 : decode cX10_cluesFit 49 = .ok (.aload_n 0, 1) := by decide +kernel
theorem dX10_cluesFit_50 : decode cX10_cluesFit 50 = .ok (.getfield 77, 3) := by decide +kernel
theorem dX10_cluesFit_53 : decode cX10_cluesFit 53 = .ok (.iload 4, 2) := by decide +kernel
theorem dX10_cluesFit_55 : decode cX10_cluesFit 55 = .ok (.iaload, 1) := by decide +kernel
theorem dX10_cluesFit_56 : decode cX10_cluesFit 56 = .ok (.aload_n 0, 1) := by decide +kernel
theorem dX10_cluesFit_57 : decode cX10_cluesFit 57 = .ok (.getfield 77, 3) := by decide +kernel
theorem dX10_cluesFit_60 : decode cX10_cluesFit 60 = .ok (.iload 4, 2) := by decide +kernel
theorem dX10_cluesFit_62 : decode cX10_cluesFit 62 = .ok (.iconst 1, 1) := by decide +kernel
theorem dX10_cluesFit_63 : decode cX10_cluesFit 63 = .ok (.iadd, 1) := by decide +kernel
theorem dX10_cluesFit_64 : decode cX10_cluesFit 64 = .ok (.iaload, 1) := by decide +kernel
theorem dX10_cluesFit_65 : decode cX10_cluesFit 65 = .ok (.aload_n 0, 1) := by decide +kernel
theorem dX10_cluesFit_66 : decode cX10_cluesFit 66 = .ok (.getfield 77, 3) := by decide +kernel
theorem dX10_cluesFit_69 : decode cX10_cluesFit 69 = .ok (.iload 4, 2) := by decide +kernel
theorem dX10_cluesFit_71 : decode cX10_cluesFit 71 = .ok (.iconst 2, 1) := by decide +kernel
theorem dX10_cluesFit_72 : decode cX10_cluesFit 72 = .ok (.iadd, 1) := by decide +kernel
theorem dX10_cluesFit_73 : decode cX10_cluesFit 73 = .ok (.iaload, 1) := by decide +kernel
theorem dX10_cluesFit_74 : decode cX10_cluesFit 74 = .ok (.aload 5, 2) := by decide +kernel
theorem dX10_cluesFit_76 : decode cX10_cluesFit 76 = .ok (.iconst 1, 1) := by decide +kernel
theorem dX10_cluesFit_77 : decode cX10_cluesFit 77 = .ok (.invokevirtual 187, 3) := by decide +kernel
theorem dX10_cluesFit_80 : decode cX10_cluesFit 80 = .ok (.aload_n 0, 1) := by decide +kernel
theorem dX10_cluesFit_81 : decode cX10_cluesFit 81 = .ok (.getfield 53, 3) := by decide +kernel
theorem dX10_cluesFit_84 : decode cX10_cluesFit 84 = .ok (.getfield 166, 3) := by decide +kernel
theorem dX10_cluesFit_87 : decode cX10_cluesFit 87 = .ok (.aload_n 0, 1) := by decide +kernel
theorem dX10_cluesFit_88 : decode cX10_cluesFit 88 = .ok (.getfield 77, 3) := by decide +kernel
theorem dX10_cluesFit_91 : decode cX10_cluesFit 91 = .ok (.iload 4, 2) := by decide +kernel
theorem dX10_cluesFit_93 : decode cX10_cluesFit 93 = .ok (.iconst 4, 1) := by decide +kernel
theorem dX10_cluesFit_94 : decode cX10_cluesFit 94 = .ok (.iadd, 1) := by decide +kernel
theorem dX10_cluesFit_95 : decode cX10_cluesFit 95 = .ok (.iaload, 1) := by decide +kernel
theorem dX10_cluesFit_96 : decode cX10_cluesFit 96 = .ok (.if_icmp .eq 5, 3) := by decide +kernel
theorem dX10_cluesFit_99 : decode cX10_cluesFit 99 = .ok (.iconst 0, 1) := by decide +kernel
theorem dX10_cluesFit_100 : decode cX10_cluesFit 100 = .ok (.ireturn, 1) := by decide +kernel
theorem dX10_cluesFit_101 : decode cX10_cluesFit 101 = .ok (.iinc 3 1, 3) := by decide +kernel
theorem dX10_cluesFit_104 : decode cX10_cluesFit 104 = .ok (.goto (-89), 3) := by decide +kernel
theorem dX10_cluesFit_107 : decode cX10_cluesFit 107 = .ok (.iconst 1, 1) := by decide +kernel
theorem dX10_cluesFit_108 : decode cX10_cluesFit 108 = .ok (.ireturn, 1) := by decide +kernel
def bX10_cluesFit : ol_SE := es_seq (es_setr 2 (er_f 2 0 (er_f 10 4 (er_v 0)))) (es_seq (es_of (ea_cv 5 fX5_layOn (ea_r (er_v 1) (ea_r (er_v 2) (ea_0))))) (es_seq (es_seq (es_set 3 (ei_c 0)) (es_wh (ec_2 ol_lt (ei_v 3) (ei_f 10 15 (er_v 0))) (es_seq (es_seq (es_set 4 (ei_2 ol_mul (ei_v 3) (ei_c 5))) (es_seq (es_setr 5 (er_a 104 (er_f 10 2 (er_v 0)) (ei_a 100 (er_f 10 12 (er_v 0)) (ei_2 ol_add (ei_v 4) (ei_c 3))))) (es_seq (es_of (ea_cv 1 fX1_travel (ea_r (er_f 10 8 (er_v 0)) (ea_r (er_v 2) (ea_i (ei_a 100 (er_f 10 12 (er_v 0)) (ei_v 4)) (ea_i (ei_a 100 (er_f 10 12 (er_v 0)) (ei_2 ol_add (ei_v 4) (ei_c 1))) (ea_i (ei_a 100 (er_f 10 12 (er_v 0)) (ei_2 ol_add (ei_v 4) (ei_c 2))) (ea_r (er_v 5) (ea_i (ei_c 1) (ea_0)))))))))) (es_if (ec_2 ol_ne (ei_f 1 1 (er_f 10 8 (er_v 0))) (ei_a 100 (er_f 10 12 (er_v 0)) (ei_2 ol_add (ei_v 4) (ei_c 4)))) (es_retz (ei_c 0)) es_skip)))) (es_inc 3 1)))) (es_retz (ei_c 1))))
def fX10_cluesFit : ol_FE := ol_fe 6 bX10_cluesFit
set_option maxRecDepth 20000 in
theorem imX10_cluesFit (x : ol_X) (K : ol_K) : IM_S x K mX10_cluesFit 0 0 bX10_cluesFit := rs_seq (p2 := 8) (rs_setrn (rr_f (rr_f (rr_vn dX10_cluesFit_0 rfl) gfX10_35 dX10_cluesFit_1) gfX10_121 dX10_cluesFit_4) dX10_cluesFit_7 rfl (ol_ltn rfl)) (rs_seq (p2 := 13) (rs_k (rk_v (Mc := mX5_layOn) (conX5_layOn _ K) (ra_r (rr_vn dX10_cluesFit_8 rfl) (ra_r (rr_vn dX10_cluesFit_9 rfl) (ra_0))) dX10_cluesFit_10 cwX10_125 tw_524 tw_525 (by decide) rfl rfl ⟨rfl, rfl, Nat.le_of_ble_eq_true rfl⟩ (by decide) (by decide) (al_r (al_r al_0)))) (rs_seq (p2 := 107) (rs_seq (p2 := 15) (rs_setn (ri_ic dX10_cluesFit_13 (by unfold ol_inR; omega)) dX10_cluesFit_14 rfl (ol_ltn rfl)) (rs_wh (pH := 15) (pB := 23) (pE := 107) (pG := 104) (rc_2F (pF := 107) ol_j2_ge_F (ri_vn dX10_cluesFit_15 rfl) (ri_f (rr_vn dX10_cluesFit_16 rfl) gfX10_292 dX10_cluesFit_17) dX10_cluesFit_20 (by decide)) (rs_seq (p2 := 101) (rs_seq (p2 := 28) (rs_set (ri_2 ol_op_mul (ri_vn dX10_cluesFit_23 rfl) (ri_ic dX10_cluesFit_24 (by unfold ol_inR; omega)) dX10_cluesFit_25) dX10_cluesFit_26 (ol_ltn rfl)) (rs_seq (p2 := 44) (rs_setr (rr_a (t := 4) (rr_f (rr_vn dX10_cluesFit_28 rfl) gfX10_24 dX10_cluesFit_29) (ri_a (rr_f (rr_vn dX10_cluesFit_32 rfl) gfX10_77 dX10_cluesFit_33) (ri_2 ol_op_add (ri_vi dX10_cluesFit_36) (ri_ic dX10_cluesFit_38 (by unfold ol_inR; omega)) dX10_cluesFit_39) rfl dX10_cluesFit_40) (by decide) rfl dX10_cluesFit_41) dX10_cluesFit_42 (ol_ltn rfl)) (rs_seq (p2 := 80) (rs_k (rk_v (Mc := mX1_travel) (conX1_travel _ K) (ra_r (rr_f (rr_vn dX10_cluesFit_44 rfl) gfX10_53 dX10_cluesFit_45) (ra_r (rr_vn dX10_cluesFit_48 rfl) (ra_i (ri_a (rr_f (rr_vn dX10_cluesFit_49 rfl) gfX10_77 dX10_cluesFit_50) (ri_vi dX10_cluesFit_53) rfl dX10_cluesFit_55) (ra_i (ri_a (rr_f (rr_vn dX10_cluesFit_56 rfl) gfX10_77 dX10_cluesFit_57) (ri_2 ol_op_add (ri_vi dX10_cluesFit_60) (ri_ic dX10_cluesFit_62 (by unfold ol_inR; omega)) dX10_cluesFit_63) rfl dX10_cluesFit_64) (ra_i (ri_a (rr_f (rr_vn dX10_cluesFit_65 rfl) gfX10_77 dX10_cluesFit_66) (ri_2 ol_op_add (ri_vi dX10_cluesFit_69) (ri_ic dX10_cluesFit_71 (by unfold ol_inR; omega)) dX10_cluesFit_72) rfl dX10_cluesFit_73) (ra_r (rr_vi dX10_cluesFit_74) (ra_i (ri_ic dX10_cluesFit_76 (by unfold ol_inR; omega)) (ra_0)))))))) dX10_cluesFit_77 cwX10_187 tw_576 tw_577 (by decide) rfl rfl ⟨rfl, rfl, Nat.le_of_ble_eq_true rfl⟩ (by decide) (by decide) (al_r (al_r (al_i (al_i (al_i (al_r (al_i al_0))))))))) (rs_if (pT := 99) (pF := 101) (pE := 101) (rc_2F (pF := 101) ol_j2_eq_F (ri_f (rr_f (rr_vn dX10_cluesFit_80 rfl) gfX10_53 dX10_cluesFit_81) gfX10_166 dX10_cluesFit_84) (ri_a (rr_f (rr_vn dX10_cluesFit_87 rfl) gfX10_77 dX10_cluesFit_88) (ri_2 ol_op_add (ri_vi dX10_cluesFit_91) (ri_ic dX10_cluesFit_93 (by unfold ol_inR; omega)) dX10_cluesFit_94) rfl dX10_cluesFit_95) dX10_cluesFit_96 (by decide)) (rs_retz (ri_ic dX10_cluesFit_99 (by unfold ol_inR; omega)) rfl dX10_cluesFit_100) rs_skip)))) (rs_inc dX10_cluesFit_101 (ol_ltn rfl))) dX10_cluesFit_104 (by decide))) (rs_retz (ri_ic dX10_cluesFit_107 (by unfold ol_inR; omega)) rfl dX10_cluesFit_108)))
theorem conX10_cluesFit (l : Launch) (K : ol_K) : ol_Con l K yX10_cluesFit mX10_cluesFit fX10_cluesFit := ol_con (M := mX10_cluesFit) (by decide) rfl rfl (imX10_cluesFit · K)
theorem dX8_seekSpare_0 : decode cX8_seekSpare 0 = .ok (.iload_n 2, 1) := by decide +kernel
theorem dX8_seekSpare_1 : decode cX8_seekSpare 1 = .ok (.invokestatic 61, 3) := by decide +kernel
theorem dX8_seekSpare_4 : decode cX8_seekSpare 4 = .ok (.istore 4, 2) := by decide +kernel
theorem dX8_seekSpare_6 : decode cX8_seekSpare 6 = .ok (.aload_n 0, 1) := by decide +kernel
theorem dX8_seekSpare_7 : decode cX8_seekSpare 7 = .ok (.iconst (-1), 1) := by decide +kernel
theorem dX8_seekSpare_8 : decode cX8_seekSpare 8 = .ok (.putfield 36, 3) := by decide +kernel
theorem dX8_seekSpare_11 : decode cX8_seekSpare 11 = .ok (.iconst 0, 1) := by decide +kernel
theorem dX8_seekSpare_12 : decode cX8_seekSpare 12 = .ok (.istore 5, 2) := by decide +kernel
theorem dX8_seekSpare_14 : decode cX8_seekSpare 14 = .ok (.iload 5, 2) := by decide +kernel
theorem dX8_seekSpare_16 : decode cX8_seekSpare 16 = .ok (.bipush 39, 2) := by decide +kernel
theorem dX8_seekSpare_18 : decode cX8_seekSpare 18 = .ok (.if_icmp .ge 67, 3) := by decide +kernel
theorem dX8_seekSpare_21 : decode cX8_seekSpare 21 = .ok (.aload_n 0, 1) := by decide +kernel
theorem dX8_seekSpare_22 : decode cX8_seekSpare 22 = .ok (.getfield 36, 3) := by decide +kernel
theorem dX8_seekSpare_25 : decode cX8_seekSpare 25 = .ok (.iload 4, 2) := by decide +kernel
theorem dX8_seekSpare_27 : decode cX8_seekSpare 27 = .ok (.if_icmp .ge 58, 3) := by decide +kernel
theorem dX8_seekSpare_30 : decode cX8_seekSpare 30 = .ok (.bipush (-6), 2) := by decide +kernel
theorem dX8_seekSpare_32 : decode cX8_seekSpare 32 = .ok (.istore 6, 2) := by decide +kernel
theorem dX8_seekSpare_34 : decode cX8_seekSpare 34 = .ok (.iload 6, 2) := by decide +kernel
theorem dX8_seekSpare_36 : decode cX8_seekSpare 36 = .ok (.bipush 6, 2) := by decide +kernel
theorem dX8_seekSpare_38 : decode cX8_seekSpare 38 = .ok (.if_icmp .gt 41, 3) := by decide +kernel
theorem dX8_seekSpare_41 : decode cX8_seekSpare 41 = .ok (.aload_n 0, 1) := by decide +kernel
theorem dX8_seekSpare_42 : decode cX8_seekSpare 42 = .ok (.getfield 18, 3) := by decide +kernel
theorem dX8_seekSpare_45 : decode cX8_seekSpare 45 = .ok (.aload_n 1, 1) := by decide +kernel
theorem dX8_seekSpare_46 : decode cX8_seekSpare 46 = .ok (.iload 5, 2) := by decide +kernel
theorem dX8_seekSpare_48 : decode cX8_seekSpare 48 = .ok (.iload 6, 2) := by decide +kernel
theorem dX8_seekSpare_50 : decode cX8_seekSpare 50 = .ok (.iconst 0, 1) := by decide +kernel
theorem dX8_seekSpare_51 : decode cX8_seekSpare 51 = .ok (.aload_n 3, 1) := by decide +kernel
theorem dX8_seekSpare_52 : decode cX8_seekSpare 52 = .ok (.iload_n 2, 1) := by decide +kernel
theorem dX8_seekSpare_53 : decode cX8_seekSpare 53 = .ok (.iconst 0, 1) := by decide +kernel
theorem dX8_seekSpare_54 : decode cX8_seekSpare 54 = .ok (.invokevirtual 28, 3) := by decide +kernel
theorem dX8_seekSpare_57 : decode cX8_seekSpare 57 = .ok (.aload_n 0, 1) := by decide +kernel
theorem dX8_seekSpare_58 : decode cX8_seekSpare 58 = .ok (.aload_n 0, 1) := by decide +kernel
theorem dX8_seekSpare_59 : decode cX8_seekSpare 59 = .ok (.getfield 18, 3) := by decide +kernel
theorem dX8_seekSpare_62 : decode cX8_seekSpare 62 = .ok (.invokevirtual 32, 3) := by decide +kernel
theorem dX8_seekSpare_65 : decode cX8_seekSpare 65 = .ok (.iconst 0, 1) := by decide +kernel
theorem dX8_seekSpare_66 : decode cX8_seekSpare 66 = .ok (.iload 5, 2) := by decide +kernel
theorem dX8_seekSpare_68 : decode cX8_seekSpare 68 = .ok (.iload 6, 2) := by decide +kernel
theorem dX8_seekSpare_70 : decode cX8_seekSpare 70 = .ok (.invokevirtual 48, 3) := by decide +kernel
theorem dX8_seekSpare_73 : decode cX8_seekSpare 73 = .ok (.iinc 6 1, 3) := by decide +kernel
theorem dX8_seekSpare_76 : decode cX8_seekSpare 76 = .ok (.goto (-42), 3) := by decide +kernel
theorem dX8_seekSpare_79 : decode cX8_seekSpare 79 = .ok (.iinc 5 1, 3) := by decide +kernel
theorem dX8_seekSpare_82 : decode cX8_seekSpare 82 = .ok (.goto (-68), 3) := by decide +kernel
theorem dX8_seekSpare_85 : decode cX8_seekSpare 85 = .ok (.return_, 1) := by decide +kernel
def bX8_seekSpare : ol_SE := es_seq (es_set 4 (ei_of (ea_cs fJ6_bitCount_0f7a4 (ea_i (ei_v 2) (ea_0))))) (es_seq (es_pf 8 4 (er_v 0) (ei_c (-1))) (es_seq (es_seq (es_set 5 (ei_c 0)) (es_wh (ec_and (ec_2 ol_lt (ei_v 5) (ei_c 39)) (ec_2 ol_lt (ei_f 8 4 (er_v 0)) (ei_v 4))) (es_seq (es_seq (es_set 6 (ei_c (-6))) (es_wh (ec_2 ol_le (ei_v 6) (ei_c 6)) (es_seq (es_seq (es_of (ea_cv 1 fX1_send (ea_r (er_f 8 1 (er_v 0)) (ea_r (er_v 1) (ea_i (ei_v 5) (ea_i (ei_v 6) (ea_i (ei_c 0) (ea_r (er_v 3) (ea_i (ei_v 2) (ea_i (ei_c 0) (ea_0))))))))))) (es_of (ea_cv 8 fX8_offer (ea_r (er_v 0) (ea_i (ei_of (ea_cv 1 fX1_pins (ea_r (er_f 8 1 (er_v 0)) (ea_0)))) (ea_i (ei_c 0) (ea_i (ei_v 5) (ea_i (ei_v 6) (ea_0))))))))) (es_inc 6 1)))) (es_inc 5 1)))) (es_retv)))
def fX8_seekSpare : ol_FE := ol_fe 7 bX8_seekSpare
set_option maxRecDepth 20000 in
theorem imX8_seekSpare (x : ol_X) (K : ol_K) : IM_S x K mX8_seekSpare 0 0 bX8_seekSpare := rs_seq (p2 := 6) (rs_set (ri_k (rk_s (Mc := mJ6_bitCount_0f7a4) (conJ6_bitCount_0f7a4 _ K) (ra_i (ri_vn dX8_seekSpare_0 rfl) (ra_0)) dX8_seekSpare_1 cwX8_61 tw_606 ⟨rfl, rfl, Nat.le_of_ble_eq_true rfl⟩ (by decide) (by decide) (al_i al_0)) (Or.inl rfl)) dX8_seekSpare_4 (ol_ltn rfl)) (rs_seq (p2 := 11) (rs_pf (rr_vn dX8_seekSpare_6 rfl) (ri_ic dX8_seekSpare_7 (by unfold ol_inR; omega)) pfX8_36 rfl dX8_seekSpare_8) (rs_seq (p2 := 85) (rs_seq (p2 := 14) (rs_set (ri_ic dX8_seekSpare_11 (by unfold ol_inR; omega)) dX8_seekSpare_12 (ol_ltn rfl)) (rs_wh (pH := 14) (pB := 30) (pE := 85) (pG := 82) (rc_and (p2 := 21) (pT := 30) (pF := 85) (rc_2F (pF := 85) ol_j2_ge_F (ri_vi dX8_seekSpare_14) (ri_bi dX8_seekSpare_16 (by unfold ol_inR; omega) (by decide)) dX8_seekSpare_18 (by decide)) (rc_2F (pF := 85) ol_j2_ge_F (ri_f (rr_vn dX8_seekSpare_21 rfl) gfX8_36 dX8_seekSpare_22) (ri_vi dX8_seekSpare_25) dX8_seekSpare_27 (by decide))) (rs_seq (p2 := 79) (rs_seq (p2 := 34) (rs_set (ri_bi dX8_seekSpare_30 (by unfold ol_inR; omega) (by decide)) dX8_seekSpare_32 (ol_ltn rfl)) (rs_wh (pH := 34) (pB := 41) (pE := 79) (pG := 76) (rc_2F (pF := 79) ol_j2_gt_F (ri_vi dX8_seekSpare_34) (ri_bi dX8_seekSpare_36 (by unfold ol_inR; omega) (by decide)) dX8_seekSpare_38 (by decide)) (rs_seq (p2 := 73) (rs_seq (p2 := 57) (rs_k (rk_v (Mc := mX1_send) (conX1_send _ K) (ra_r (rr_f (rr_vn dX8_seekSpare_41 rfl) gfX8_18 dX8_seekSpare_42) (ra_r (rr_vn dX8_seekSpare_45 rfl) (ra_i (ri_vi dX8_seekSpare_46) (ra_i (ri_vi dX8_seekSpare_48) (ra_i (ri_ic dX8_seekSpare_50 (by unfold ol_inR; omega)) (ra_r (rr_vn dX8_seekSpare_51 rfl) (ra_i (ri_vn dX8_seekSpare_52 rfl) (ra_i (ri_ic dX8_seekSpare_53 (by unfold ol_inR; omega)) (ra_0))))))))) dX8_seekSpare_54 cwX8_28 tw_572 tw_573 (by decide) rfl rfl ⟨rfl, rfl, Nat.le_of_ble_eq_true rfl⟩ (by decide) (by decide) (al_r (al_r (al_i (al_i (al_i (al_r (al_i (al_i al_0)))))))))) (rs_k (rk_v (Mc := mX8_offer) (conX8_offer _ K) (ra_r (rr_vn dX8_seekSpare_57 rfl) (ra_i (ri_k (rk_v (Mc := mX1_pins) (conX1_pins _ K) (ra_r (rr_f (rr_vn dX8_seekSpare_58 rfl) gfX8_18 dX8_seekSpare_59) (ra_0)) dX8_seekSpare_62 cwX8_32 tw_602 tw_603 (by decide) rfl rfl ⟨rfl, rfl, Nat.le_of_ble_eq_true rfl⟩ (by decide) (by decide) (al_r al_0)) (Or.inl rfl)) (ra_i (ri_ic dX8_seekSpare_65 (by unfold ol_inR; omega)) (ra_i (ri_vi dX8_seekSpare_66) (ra_i (ri_vi dX8_seekSpare_68) (ra_0)))))) dX8_seekSpare_70 cwX8_48 tw_692 tw_15 (by decide) rfl rfl ⟨rfl, rfl, Nat.le_of_ble_eq_true rfl⟩ (by decide) (by decide) (al_r (al_i (al_i (al_i (al_i al_0)))))))) (rs_inc dX8_seekSpare_73 (ol_ltn rfl))) dX8_seekSpare_76 (by decide))) (rs_inc dX8_seekSpare_79 (ol_ltn rfl))) dX8_seekSpare_82 (by decide))) (rs_retv rfl dX8_seekSpare_85)))
theorem conX8_seekSpare (l : Launch) (K : ol_K) : ol_Con l K yX8_seekSpare mX8_seekSpare fX8_seekSpare := ol_con (M := mX8_seekSpare) (by decide) rfl rfl (imX8_seekSpare · K)
