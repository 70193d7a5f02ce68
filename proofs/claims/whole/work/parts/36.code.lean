/-! by program: what each method does, and that its code does it -/
theorem dX11_fallOf_0 : decode cX11_fallOf 0 = .ok (.iload_n 1, 1) := by decide +kernel
theorem dX11_fallOf_1 : decode cX11_fallOf 1 = .ok (.istore 5, 2) := by decide +kernel
theorem dX11_fallOf_3 : decode cX11_fallOf 3 = .ok (.aload_n 0, 1) := by decide +kernel
theorem dX11_fallOf_4 : decode cX11_fallOf 4 = .ok (.iconst 0, 1) := by decide +kernel
theorem dX11_fallOf_5 : decode cX11_fallOf 5 = .ok (.putfield 157, 3) := by decide +kernel
theorem dX11_fallOf_8 : decode cX11_fallOf 8 = .ok (.aload_n 0, 1) := by decide +kernel
theorem dX11_fallOf_9 : decode cX11_fallOf 9 = .ok (.iconst 0, 1) := by decide +kernel
theorem dX11_fallOf_10 : decode cX11_fallOf 10 = .ok (.putfield 160, 3) := by decide +kernel
theorem dX11_fallOf_13 : decode cX11_fallOf 13 = .ok (.iconst 0, 1) := by decide +kernel
theorem dX11_fallOf_14 : decode cX11_fallOf 14 = .ok (.istore 6, 2) := by decide +kernel
theorem dX11_fallOf_16 : decode cX11_fallOf 16 = .ok (.iload 6, 2) := by decide +kernel
theorem dX11_fallOf_18 : decode cX11_fallOf 18 = .ok (.iconst 4, 1) := by decide +kernel
theorem dX11_fallOf_19 : decode cX11_fallOf 19 = .ok (.if_icmp .ge 258, 3) := by decide +kernel
theorem dX11_fallOf_22 : decode cX11_fallOf 22 = .ok (.iconst 0, 1) := by decide +kernel
theorem dX11_fallOf_23 : decode cX11_fallOf 23 = .ok (.istore 7, 2) := by decide +kernel
theorem dX11_fallOf_25 : decode cX11_fallOf 25 = .ok (.iconst 0, 1) := by decide +kernel
theorem dX11_fallOf_26 : decode cX11_fallOf 26 = .ok (.istore 8, 2) := by decide +kernel
theorem dX11_fallOf_28 : decode cX11_fallOf 28 = .ok (.iload 8, 2) := by decide +kernel
theorem dX11_fallOf_30 : decode cX11_fallOf 30 = .ok (.bipush 10, 2) := by decide +kernel
theorem dX11_fallOf_32 : decode cX11_fallOf 32 = .ok (.if_icmp .ge 88, 3) := by decide +kernel
theorem dX11_fallOf_35 : decode cX11_fallOf 35 = .ok (.aload_n 0, 1) := by decide +kernel
theorem dX11_fallOf_36 : decode cX11_fallOf 36 = .ok (.getfield 26, 3) := by decide +kernel
theorem dX11_fallOf_39 : decode cX11_fallOf 39 = .ok (.iload 8, 2) := by decide +kernel
theorem dX11_fallOf_41 : decode cX11_fallOf 41 = .ok (.iaload, 1) := by decide +kernel
theorem dX11_fallOf_42 : decode cX11_fallOf 42 = .ok (.iload 5, 2) := by decide +kernel
theorem dX11_fallOf_44 : decode cX11_fallOf 44 = .ok (.isub, 1) := by decide +kernel
theorem dX11_fallOf_45 : decode cX11_fallOf 45 = .ok (.istore 9, 2) := by decide +kernel
theorem dX11_fallOf_47 : decode cX11_fallOf 47 = .ok (.aload_n 0, 1) := by decide +kernel
theorem dX11_fallOf_48 : decode cX11_fallOf 48 = .ok (.getfield 23, 3) := by decide +kernel
theorem dX11_fallOf_51 : decode cX11_fallOf 51 = .ok (.iload 8, 2) := by decide +kernel
theorem dX11_fallOf_53 : decode cX11_fallOf 53 = .ok (.iaload, 1) := by decide +kernel
theorem dX11_fallOf_54 : decode cX11_fallOf 54 = .ok (.iload 6, 2) := by decide +kernel
theorem dX11_fallOf_56 : decode cX11_fallOf 56 = .ok (.if_icmp .ne 58, 3) := by decide +kernel
theorem dX11_fallOf_59 : decode cX11_fallOf 59 = .ok (.iload 4, 2) := by decide +kernel
theorem dX11_fallOf_61 : decode cX11_fallOf 61 = .ok (.iload 8, 2) := by decide +kernel
theorem dX11_fallOf_63 : decode cX11_fallOf 63 = .ok (.ishr, 1) := by decide +kernel
theorem dX11_fallOf_64 : decode cX11_fallOf 64 = .ok (.iconst 1, 1) := by decide +kernel
theorem dX11_fallOf_65 : decode cX11_fallOf 65 = .ok (.iand, 1) := by decide +kernel
theorem dX11_fallOf_66 : decode cX11_fallOf 66 = .ok (.iconst 1, 1) := by decide +kernel
theorem dX11_fallOf_67 : decode cX11_fallOf 67 = .ok (.if_icmp .ne 47, 3) := by decide +kernel
theorem dX11_fallOf_70 : decode cX11_fallOf 70 = .ok (.iload 9, 2) := by decide +kernel
theorem dX11_fallOf_72 : decode cX11_fallOf 72 = .ok (.bipush (-25), 2) := by decide +kernel
theorem dX11_fallOf_74 : decode cX11_fallOf 74 = .ok (.bipush 25, 2) := by decide +kernel
theorem dX11_fallOf_76 : decode cX11_fallOf 76 = .ok (.invokestatic 63, 3) := by decide +kernel
theorem dX11_fallOf_79 : decode cX11_fallOf 79 = .ok (.ifCond .eq 35, 3) := by decide +kernel
theorem dX11_fallOf_82 : decode cX11_fallOf 82 = .ok (.aload_n 0, 1) := by decide +kernel
theorem dX11_fallOf_83 : decode cX11_fallOf 83 = .ok (.getfield 29, 3) := by decide +kernel
theorem dX11_fallOf_86 : decode cX11_fallOf 86 = .ok (.iload 8, 2) := by decide +kernel
theorem dX11_fallOf_88 : decode cX11_fallOf 88 = .ok (.iload 9, 2) := by decide +kernel
theorem dX11_fallOf_90 : decode cX11_fallOf 90 = .ok (.iastore, 1) := by decide +kernel
theorem dX11_fallOf_91 : decode cX11_fallOf 91 = .ok (.iload 7, 2) := by decide +kernel
theorem dX11_fallOf_93 : decode cX11_fallOf 93 = .ok (.iconst 1, 1) := by decide +kernel
theorem dX11_fallOf_94 : decode cX11_fallOf 94 = .ok (.iload 8, 2) := by decide +kernel
theorem dX11_fallOf_96 : decode cX11_fallOf 96 = .ok (.ishl, 1) := by decide +kernel
theorem dX11_fallOf_97 : decode cX11_fallOf 97 = .ok (.ior, 1) := by decide +kernel
theorem dX11_fallOf_98 : decode cX11_fallOf 98 = .ok (.istore 7, 2) := by decide +kernel
theorem dX11_fallOf_100 : decode cX11_fallOf 100 = .ok (.iload 5, 2) := by decide +kernel
theorem dX11_fallOf_102 : decode cX11_fallOf 102 = .ok (.iload 9, 2) := by decide +kernel
theorem dX11_fallOf_104 : decode cX11_fallOf 104 = .ok (.iconst 5, 1) := by decide +kernel
theorem dX11_fallOf_105 : decode cX11_fallOf 105 = .ok (.idiv, 1) := by decide +kernel
theorem dX11_fallOf_106 : decode cX11_fallOf 106 = .ok (.bipush 12, 2) := by decide +kernel
theorem dX11_fallOf_108 : decode cX11_fallOf 108 = .ok (.imul, 1) := by decide +kernel
theorem dX11_fallOf_109 : decode cX11_fallOf 109 = .ok (.iload_n 3, 1) := by decide +kernel
theorem dX11_fallOf_110 : decode cX11_fallOf 110 = .ok (.idiv, 1) := by decide +kernel
theorem dX11_fallOf_111 : decode cX11_fallOf 111 = .ok (.isub, 1) := by decide +kernel
theorem dX11_fallOf_112 : decode cX11_fallOf 112 = .ok (.istore 5, 2) := by decide +kernel
theorem dX11_fallOf_114 : decode cX11_fallOf 114 = .ok (.iinc 8 1, 3) := by decide +kernel
theorem dX11_fallOf_117 : decode cX11_fallOf 117 = .ok (.goto (-89), 3) := by decide +kernel
theorem dX11_fallOf_120 : decode cX11_fallOf 120 = .ok (.iconst 0, 1) := by decide +kernel
theorem dX11_fallOf_121 : decode cX11_fallOf 121 = .ok (.istore 8, 2) := by decide +kernel
theorem dX11_fallOf_123 : decode cX11_fallOf 123 = .ok (.iconst 0, 1) := by decide +kernel
theorem dX11_fallOf_124 : decode cX11_fallOf 124 = .ok (.istore 9, 2) := by decide +kernel
theorem dX11_fallOf_126 : decode cX11_fallOf 126 = .ok (.iload 9, 2) := by decide +kernel
theorem dX11_fallOf_128 : decode cX11_fallOf 128 = .ok (.bipush 10, 2) := by decide +kernel
theorem dX11_fallOf_130 : decode cX11_fallOf 130 = .ok (.if_icmp .ge 55, 3) := by decide +kernel
theorem dX11_fallOf_133 : decode cX11_fallOf 133 = .ok (.iload 8, 2) := by decide +kernel
theorem dX11_fallOf_135 : decode cX11_fallOf 135 = .ok (.aload_n 0, 1) := by decide +kernel
theorem dX11_fallOf_136 : decode cX11_fallOf 136 = .ok (.getfield 23, 3) := by decide +kernel
theorem dX11_fallOf_139 : decode cX11_fallOf 139 = .ok (.iload 9, 2) := by decide +kernel
theorem dX11_fallOf_141 : decode cX11_fallOf 141 = .ok (.iaload, 1) := by decide +kernel
theorem dX11_fallOf_142 : decode cX11_fallOf 142 = .ok (.iload 6, 2) := by decide +kernel
theorem dX11_fallOf_144 : decode cX11_fallOf 144 = .ok (.if_icmp .ne 31, 3) := by decide +kernel
theorem dX11_fallOf_147 : decode cX11_fallOf 147 = .ok (.iload 4, 2) := by decide +kernel
theorem dX11_fallOf_149 : decode cX11_fallOf 149 = .ok (.iload 7, 2) := by decide +kernel
theorem dX11_fallOf_151 : decode cX11_fallOf 151 = .ok (.iconst (-1), 1) := by decide +kernel
theorem dX11_fallOf_152 : decode cX11_fallOf 152 = .ok (.ixor, 1) := by decide +kernel
theorem dX11_fallOf_153 : decode cX11_fallOf 153 = .ok (.iand, 1) := by decide +kernel
theorem dX11_fallOf_154 : decode cX11_fallOf 154 = .ok (.aload_n 0, 1) := by decide +kernel
theorem dX11_fallOf_155 : decode cX11_fallOf 155 = .ok (.getfield 157, 3) := by decide +kernel
theorem dX11_fallOf_158 : decode cX11_fallOf 158 = .ok (.iand, 1) := by decide +kernel
theorem dX11_fallOf_159 : decode cX11_fallOf 159 = .ok (.iload 9, 2) := by decide +kernel
theorem dX11_fallOf_161 : decode cX11_fallOf 161 = .ok (.ishr, 1) := by decide +kernel
theorem dX11_fallOf_162 : decode cX11_fallOf 162 = .ok (.iconst 1, 1) := by decide +kernel
theorem dX11_fallOf_163 : decode cX11_fallOf 163 = .ok (.iand, 1) := by decide +kernel
theorem dX11_fallOf_164 : decode cX11_fallOf 164 = .ok (.iconst 1, 1) := by decide +kernel
theorem dX11_fallOf_165 : decode cX11_fallOf 165 = .ok (.if_icmp .ne 10, 3) := by decide +kernel
theorem dX11_fallOf_168 : decode cX11_fallOf 168 = .ok (.iconst 1, 1) := by decide +kernel
theorem dX11_fallOf_169 : decode cX11_fallOf 169 = .ok (.iload 9, 2) := by decide +kernel
theorem dX11_fallOf_171 : decode cX11_fallOf 171 = .ok (.ishl, 1) := by decide +kernel
theorem dX11_fallOf_172 : decode cX11_fallOf 172 = .ok (.goto 4, 3) := by decide +kernel
theorem dX11_fallOf_175 : decode cX11_fallOf 175 = .ok (.iconst 0, 1) := by decide +kernel
theorem dX11_fallOf_176 : decode cX11_fallOf 176 = .ok (.ior, 1) := by decide +kernel
theorem dX11_fallOf_177 : decode cX11_fallOf 177 = .ok (.istore 8, 2) := by decide +kernel
theorem dX11_fallOf_179 : decode cX11_fallOf 179 = .ok (.iinc 9 1, 3) := by decide +kernel
theorem dX11_fallOf_182 : decode cX11_fallOf 182 = .ok (.goto (-56), 3) := by decide +kernel
theorem dX11_fallOf_185 : decode cX11_fallOf 185 = .ok (.iconst 0, 1) := by decide +kernel
theorem dX11_fallOf_186 : decode cX11_fallOf 186 = .ok (.istore 9, 2) := by decide +kernel
theorem dX11_fallOf_188 : decode cX11_fallOf 188 = .ok (.iload 9, 2) := by decide +kernel
theorem dX11_fallOf_190 : decode cX11_fallOf 190 = .ok (.bipush 10, 2) := by decide +kernel
theorem dX11_fallOf_192 : decode cX11_fallOf 192 = .ok (.if_icmp .ge 26, 3) := by decide +kernel
theorem dX11_fallOf_195 : decode cX11_fallOf 195 = .ok (.iload 7, 2) := by decide +kernel
theorem dX11_fallOf_197 : decode cX11_fallOf 197 = .ok (.iload 9, 2) := by decide +kernel
theorem dX11_fallOf_199 : decode cX11_fallOf 199 = .ok (.ishr, 1) := by decide +kernel
theorem dX11_fallOf_200 : decode cX11_fallOf 200 = .ok (.iconst 1, 1) := by decide +kernel
theorem dX11_fallOf_201 : decode cX11_fallOf 201 = .ok (.iand, 1) := by decide +kernel
theorem dX11_fallOf_202 : decode cX11_fallOf 202 = .ok (.iconst 1, 1) := by decide +kernel
theorem dX11_fallOf_203 : decode cX11_fallOf 203 = .ok (.if_icmp .ne 9, 3) := by decide +kernel
theorem dX11_fallOf_206 : decode cX11_fallOf 206 = .ok (.aload_n 0, 1) := by decide +kernel
theorem dX11_fallOf_207 : decode cX11_fallOf 207 = .ok (.iload 9, 2) := by decide +kernel
theorem dX11_fallOf_209 : decode cX11_fallOf 209 = .ok (.invokevirtual 163, 3) := by decide +kernel
theorem dX11_fallOf_212 : decode cX11_fallOf 212 = .ok (.iinc 9 1, 3) := by decide +kernel
theorem dX11_fallOf_215 : decode cX11_fallOf 215 = .ok (.goto (-27), 3) := by decide +kernel
theorem dX11_fallOf_218 : decode cX11_fallOf 218 = .ok (.iconst 0, 1) := by decide +kernel
theorem dX11_fallOf_219 : decode cX11_fallOf 219 = .ok (.istore 9, 2) := by decide +kernel
theorem dX11_fallOf_221 : decode cX11_fallOf 221 = .ok (.iload 9, 2) := by decide +kernel
theorem dX11_fallOf_223 : decode cX11_fallOf 223 = .ok (.bipush 10, 2) := by decide +kernel
theorem dX11_fallOf_225 : decode cX11_fallOf 225 = .ok (.if_icmp .ge 26, 3) := by decide +kernel
theorem dX11_fallOf_228 : decode cX11_fallOf 228 = .ok (.iload 8, 2) := by decide +kernel
theorem dX11_fallOf_230 : decode cX11_fallOf 230 = .ok (.iload 9, 2) := by decide +kernel
theorem dX11_fallOf_232 : decode cX11_fallOf 232 = .ok (.ishr, 1) := by decide +kernel
theorem dX11_fallOf_233 : decode cX11_fallOf 233 = .ok (.iconst 1, 1) := by decide +kernel
theorem dX11_fallOf_234 : decode cX11_fallOf 234 = .ok (.iand, 1) := by decide +kernel
theorem dX11_fallOf_235 : decode cX11_fallOf 235 = .ok (.iconst 1, 1) := by decide +kernel
theorem dX11_fallOf_236 : decode cX11_fallOf 236 = .ok (.if_icmp .ne 9, 3) := by decide +kernel
theorem dX11_fallOf_239 : decode cX11_fallOf 239 = .ok (.aload_n 0, 1) := by decide +kernel
theorem dX11_fallOf_240 : decode cX11_fallOf 240 = .ok (.iload 9, 2) := by decide +kernel
theorem dX11_fallOf_242 : decode cX11_fallOf 242 = .ok (.invokevirtual 163, 3) := by decide +kernel
theorem dX11_fallOf_245 : decode cX11_fallOf 245 = .ok (.iinc 9 1, 3) := by decide +kernel
theorem dX11_fallOf_248 : decode cX11_fallOf 248 = .ok (.goto (-27), 3) := by decide +kernel
theorem dX11_fallOf_251 : decode cX11_fallOf 251 = .ok (.aload_n 0, 1) := by decide +kernel
theorem dX11_fallOf_252 : decode cX11_fallOf 252 = .ok (.dup, 1) := by decide +kernel
theorem dX11_fallOf_253 : decode cX11_fallOf 253 = .ok (.getfield 160, 3) := by decide +kernel
theorem dX11_fallOf_256 : decode cX11_fallOf 256 = .ok (.iload 7, 2) := by decide +kernel
theorem dX11_fallOf_258 : decode cX11_fallOf 258 = .ok (.iload 8, 2) := by decide +kernel
theorem dX11_fallOf_260 : decode cX11_fallOf 260 = .ok (.ior, 1) := by decide +kernel
theorem dX11_fallOf_261 : decode cX11_fallOf 261 = .ok (.ior, 1) := by decide +kernel
theorem dX11_fallOf_262 : decode cX11_fallOf 262 = .ok (.putfield 160, 3) := by decide +kernel
theorem dX11_fallOf_265 : decode cX11_fallOf 265 = .ok (.iload 5, 2) := by decide +kernel
theorem dX11_fallOf_267 : decode cX11_fallOf 267 = .ok (.iload_n 2, 1) := by decide +kernel
theorem dX11_fallOf_268 : decode cX11_fallOf 268 = .ok (.iadd, 1) := by decide +kernel
theorem dX11_fallOf_269 : decode cX11_fallOf 269 = .ok (.istore 5, 2) := by decide +kernel
theorem dX11_fallOf_271 : decode cX11_fallOf 271 = .ok (.iinc 6 1, 3) := by decide +kernel
theorem dX11_fallOf_274 : decode cX11_fallOf 274 = .ok (.goto (-258), 3) := by decide +kernel
theorem dX11_fallOf_277 : decode cX11_fallOf 277 = .ok (.aload_n 0, 1) := by decide +kernel
theorem dX11_fallOf_278 : decode cX11_fallOf 278 = .ok (.getfield 160, 3) := by decide +kernel
theorem dX11_fallOf_281 : decode cX11_fallOf 281 = .ok (.ireturn, 1) := by decide +kernel
def bX11_fallOf : ol_SE := es_seq (es_set 5 (ei_v 1)) (es_seq (es_pf 11 23 (er_v 0) (ei_c 0)) (es_seq (es_pf 11 24 (er_v 0) (ei_c 0)) (es_seq (es_seq (es_set 6 (ei_c 0)) (es_wh (ec_2 ol_lt (ei_v 6) (ei_c 4)) (es_seq (es_seq (es_set 7 (ei_c 0)) (es_seq (es_seq (es_set 8 (ei_c 0)) (es_wh (ec_2 ol_lt (ei_v 8) (ei_c 10)) (es_seq (es_seq (es_set 9 (ei_2 ol_sub (ei_a 100 (er_f 11 21 (er_v 0)) (ei_v 8)) (ei_v 5))) (es_if (ec_and (ec_and (ec_2 ol_eq (ei_a 100 (er_f 11 20 (er_v 0)) (ei_v 8)) (ei_v 6)) (ec_2 ol_eq (ei_2 ol_and (ei_2 ol_shr (ei_v 4) (ei_v 8)) (ei_c 1)) (ei_c 1))) (ec_z ol_ne (ei_of (ea_cs fX11_in (ea_i (ei_v 9) (ea_i (ei_c (-25)) (ea_i (ei_c 25) (ea_0)))))))) (es_seq (es_as 100 (er_f 11 22 (er_v 0)) (ei_v 8) (ei_v 9)) (es_seq (es_set 7 (ei_2 ol_or (ei_v 7) (ei_2 ol_shl (ei_c 1) (ei_v 8)))) (es_set 5 (ei_2 ol_sub (ei_v 5) (ei_2 ol_div (ei_2 ol_mul (ei_2 ol_div (ei_v 9) (ei_c 5)) (ei_c 12)) (ei_v 3)))))) es_skip)) (es_inc 8 1)))) (es_seq (es_set 8 (ei_c 0)) (es_seq (es_seq (es_set 9 (ei_c 0)) (es_wh (ec_2 ol_lt (ei_v 9) (ei_c 10)) (es_seq (es_set 8 (ei_2 ol_or (ei_v 8) (ei_if (ec_and (ec_2 ol_eq (ei_a 100 (er_f 11 20 (er_v 0)) (ei_v 9)) (ei_v 6)) (ec_2 ol_eq (ei_2 ol_and (ei_2 ol_shr (ei_2 ol_and (ei_2 ol_and (ei_v 4) (ei_2 ol_xor (ei_v 7) (ei_c (-1)))) (ei_f 11 23 (er_v 0))) (ei_v 9)) (ei_c 1)) (ei_c 1))) (ei_2 ol_shl (ei_c 1) (ei_v 9)) (ei_c 0)))) (es_inc 9 1)))) (es_seq (es_seq (es_set 9 (ei_c 0)) (es_wh (ec_2 ol_lt (ei_v 9) (ei_c 10)) (es_seq (es_if (ec_2 ol_eq (ei_2 ol_and (ei_2 ol_shr (ei_v 7) (ei_v 9)) (ei_c 1)) (ei_c 1)) (es_of (ea_cv 11 fX11_hitNext (ea_r (er_v 0) (ea_i (ei_v 9) (ea_0))))) es_skip) (es_inc 9 1)))) (es_seq (es_seq (es_set 9 (ei_c 0)) (es_wh (ec_2 ol_lt (ei_v 9) (ei_c 10)) (es_seq (es_if (ec_2 ol_eq (ei_2 ol_and (ei_2 ol_shr (ei_v 8) (ei_v 9)) (ei_c 1)) (ei_c 1)) (es_of (ea_cv 11 fX11_hitNext (ea_r (er_v 0) (ea_i (ei_v 9) (ea_0))))) es_skip) (es_inc 9 1)))) (es_seq (es_uf 11 24 (er_v 0) ol_or (ei_2 ol_or (ei_v 7) (ei_v 8))) (es_set 5 (ei_2 ol_add (ei_v 5) (ei_v 2)))))))))) (es_inc 6 1)))) (es_ret (ei_f 11 24 (er_v 0))))))
def fX11_fallOf : ol_FE := ol_fe 10 bX11_fallOf
set_option maxRecDepth 20000 in
theorem imX11_fallOf (x : ol_X) (K : ol_K) : IM_S x K mX11_fallOf 0 0 bX11_fallOf := rs_seq (p2 := 3) (rs_set (ri_vn dX11_fallOf_0 rfl) dX11_fallOf_1 (ol_ltn rfl)) (rs_seq (p2 := 8) (rs_pf (rr_vn dX11_fallOf_3 rfl) (ri_ic dX11_fallOf_4 (by unfold ol_inR; omega)) pfX11_157 rfl dX11_fallOf_5) (rs_seq (p2 := 13) (rs_pf (rr_vn dX11_fallOf_8 rfl) (ri_ic dX11_fallOf_9 (by unfold ol_inR; omega)) pfX11_160 rfl dX11_fallOf_10) (rs_seq (p2 := 277) (rs_seq (p2 := 16) (rs_set (ri_ic dX11_fallOf_13 (by unfold ol_inR; omega)) dX11_fallOf_14 (ol_ltn rfl)) (rs_wh (pH := 16) (pB := 22) (pE := 277) (pG := 274) (rc_2F (pF := 277) ol_j2_ge_F (ri_vi dX11_fallOf_16) (ri_ic dX11_fallOf_18 (by unfold ol_inR; omega)) dX11_fallOf_19 (by decide)) (rs_seq (p2 := 271) (rs_seq (p2 := 25) (rs_set (ri_ic dX11_fallOf_22 (by unfold ol_inR; omega)) dX11_fallOf_23 (ol_ltn rfl)) (rs_seq (p2 := 120) (rs_seq (p2 := 28) (rs_set (ri_ic dX11_fallOf_25 (by unfold ol_inR; omega)) dX11_fallOf_26 (ol_ltn rfl)) (rs_wh (pH := 28) (pB := 35) (pE := 120) (pG := 117) (rc_2F (pF := 120) ol_j2_ge_F (ri_vi dX11_fallOf_28) (ri_bi dX11_fallOf_30 (by unfold ol_inR; omega) (by decide)) dX11_fallOf_32 (by decide)) (rs_seq (p2 := 114) (rs_seq (p2 := 47) (rs_set (ri_2 ol_op_sub (ri_a (rr_f (rr_vn dX11_fallOf_35 rfl) gfX11_26 dX11_fallOf_36) (ri_vi dX11_fallOf_39) rfl dX11_fallOf_41) (ri_vi dX11_fallOf_42) dX11_fallOf_44) dX11_fallOf_45 (ol_ltn rfl)) (rs_if (pT := 82) (pF := 114) (pE := 114) (rc_and (p2 := 70) (pT := 82) (pF := 114) (rc_and (p2 := 59) (pT := 70) (pF := 114) (rc_2F (pF := 114) ol_j2_ne_F (ri_a (rr_f (rr_vn dX11_fallOf_47 rfl) gfX11_23 dX11_fallOf_48) (ri_vi dX11_fallOf_51) rfl dX11_fallOf_53) (ri_vi dX11_fallOf_54) dX11_fallOf_56 (by decide)) (rc_2F (pF := 114) ol_j2_ne_F (ri_2 ol_op_and (ri_2 ol_op_shr (ri_vi dX11_fallOf_59) (ri_vi dX11_fallOf_61) dX11_fallOf_63) (ri_ic dX11_fallOf_64 (by unfold ol_inR; omega)) dX11_fallOf_65) (ri_ic dX11_fallOf_66 (by unfold ol_inR; omega)) dX11_fallOf_67 (by decide))) (rc_zF (pF := 114) ol_j1_eq_F (ri_k (rk_s (Mc := mX11_in) (conX11_in _ K) (ra_i (ri_vi dX11_fallOf_70) (ra_i (ri_bi dX11_fallOf_72 (by unfold ol_inR; omega) (by decide)) (ra_i (ri_bi dX11_fallOf_74 (by unfold ol_inR; omega) (by decide)) (ra_0)))) dX11_fallOf_76 cwX11_63 tw_981 ⟨rfl, rfl, Nat.le_of_ble_eq_true rfl⟩ (by decide) (by decide) (al_i (al_i (al_i al_0)))) (Or.inr (Or.inl rfl))) dX11_fallOf_79 (by decide))) (rs_seq (p2 := 91) (rs_as (rr_f (rr_vn dX11_fallOf_82 rfl) gfX11_29 dX11_fallOf_83) (ri_vi dX11_fallOf_86) (ri_vi dX11_fallOf_88) dX11_fallOf_90) (rs_seq (p2 := 100) (rs_set (ri_2 ol_op_or (ri_vi dX11_fallOf_91) (ri_2 ol_op_shl (ri_ic dX11_fallOf_93 (by unfold ol_inR; omega)) (ri_vi dX11_fallOf_94) dX11_fallOf_96) dX11_fallOf_97) dX11_fallOf_98 (ol_ltn rfl)) (rs_set (ri_2 ol_op_sub (ri_vi dX11_fallOf_100) (ri_2 ol_op_div (ri_2 ol_op_mul (ri_2 ol_op_div (ri_vi dX11_fallOf_102) (ri_ic dX11_fallOf_104 (by unfold ol_inR; omega)) dX11_fallOf_105) (ri_bi dX11_fallOf_106 (by unfold ol_inR; omega) (by decide)) dX11_fallOf_108) (ri_vn dX11_fallOf_109 rfl) dX11_fallOf_110) dX11_fallOf_111) dX11_fallOf_112 (ol_ltn rfl)))) rs_skip)) (rs_inc dX11_fallOf_114 (ol_ltn rfl))) dX11_fallOf_117 (by decide))) (rs_seq (p2 := 123) (rs_set (ri_ic dX11_fallOf_120 (by unfold ol_inR; omega)) dX11_fallOf_121 (ol_ltn rfl)) (rs_seq (p2 := 185) (rs_seq (p2 := 126) (rs_set (ri_ic dX11_fallOf_123 (by unfold ol_inR; omega)) dX11_fallOf_124 (ol_ltn rfl)) (rs_wh (pH := 126) (pB := 133) (pE := 185) (pG := 182) (rc_2F (pF := 185) ol_j2_ge_F (ri_vi dX11_fallOf_126) (ri_bi dX11_fallOf_128 (by unfold ol_inR; omega) (by decide)) dX11_fallOf_130 (by decide)) (rs_seq (p2 := 179) (rs_set (ri_2 ol_op_or (ri_vi dX11_fallOf_133) (ri_if (pT := 168) (pF := 175) (p3 := 176) (rc_and (p2 := 147) (pT := 168) (pF := 175) (rc_2F (pF := 175) ol_j2_ne_F (ri_a (rr_f (rr_vn dX11_fallOf_135 rfl) gfX11_23 dX11_fallOf_136) (ri_vi dX11_fallOf_139) rfl dX11_fallOf_141) (ri_vi dX11_fallOf_142) dX11_fallOf_144 (by decide)) (rc_2F (pF := 175) ol_j2_ne_F (ri_2 ol_op_and (ri_2 ol_op_shr (ri_2 ol_op_and (ri_2 ol_op_and (ri_vi dX11_fallOf_147) (ri_2 ol_op_xor (ri_vi dX11_fallOf_149) (ri_ic dX11_fallOf_151 (by unfold ol_inR; omega)) dX11_fallOf_152) dX11_fallOf_153) (ri_f (rr_vn dX11_fallOf_154 rfl) gfX11_157 dX11_fallOf_155) dX11_fallOf_158) (ri_vi dX11_fallOf_159) dX11_fallOf_161) (ri_ic dX11_fallOf_162 (by unfold ol_inR; omega)) dX11_fallOf_163) (ri_ic dX11_fallOf_164 (by unfold ol_inR; omega)) dX11_fallOf_165 (by decide))) (ri_2 ol_op_shl (ri_ic dX11_fallOf_168 (by unfold ol_inR; omega)) (ri_vi dX11_fallOf_169) dX11_fallOf_171) dX11_fallOf_172 (by decide) (ri_ic dX11_fallOf_175 (by unfold ol_inR; omega))) dX11_fallOf_176) dX11_fallOf_177 (ol_ltn rfl)) (rs_inc dX11_fallOf_179 (ol_ltn rfl))) dX11_fallOf_182 (by decide))) (rs_seq (p2 := 218) (rs_seq (p2 := 188) (rs_set (ri_ic dX11_fallOf_185 (by unfold ol_inR; omega)) dX11_fallOf_186 (ol_ltn rfl)) (rs_wh (pH := 188) (pB := 195) (pE := 218) (pG := 215) (rc_2F (pF := 218) ol_j2_ge_F (ri_vi dX11_fallOf_188) (ri_bi dX11_fallOf_190 (by unfold ol_inR; omega) (by decide)) dX11_fallOf_192 (by decide)) (rs_seq (p2 := 212) (rs_if (pT := 206) (pF := 212) (pE := 212) (rc_2F (pF := 212) ol_j2_ne_F (ri_2 ol_op_and (ri_2 ol_op_shr (ri_vi dX11_fallOf_195) (ri_vi dX11_fallOf_197) dX11_fallOf_199) (ri_ic dX11_fallOf_200 (by unfold ol_inR; omega)) dX11_fallOf_201) (ri_ic dX11_fallOf_202 (by unfold ol_inR; omega)) dX11_fallOf_203 (by decide)) (rs_k (rk_v (Mc := mX11_hitNext) (conX11_hitNext _ K) (ra_r (rr_vn dX11_fallOf_206 rfl) (ra_i (ri_vi dX11_fallOf_207) (ra_0))) dX11_fallOf_209 cwX11_163 tw_1054 tw_34 (by decide) rfl rfl ⟨rfl, rfl, Nat.le_of_ble_eq_true rfl⟩ (by decide) (by decide) (al_r (al_i al_0)))) rs_skip) (rs_inc dX11_fallOf_212 (ol_ltn rfl))) dX11_fallOf_215 (by decide))) (rs_seq (p2 := 251) (rs_seq (p2 := 221) (rs_set (ri_ic dX11_fallOf_218 (by unfold ol_inR; omega)) dX11_fallOf_219 (ol_ltn rfl)) (rs_wh (pH := 221) (pB := 228) (pE := 251) (pG := 248) (rc_2F (pF := 251) ol_j2_ge_F (ri_vi dX11_fallOf_221) (ri_bi dX11_fallOf_223 (by unfold ol_inR; omega) (by decide)) dX11_fallOf_225 (by decide)) (rs_seq (p2 := 245) (rs_if (pT := 239) (pF := 245) (pE := 245) (rc_2F (pF := 245) ol_j2_ne_F (ri_2 ol_op_and (ri_2 ol_op_shr (ri_vi dX11_fallOf_228) (ri_vi dX11_fallOf_230) dX11_fallOf_232) (ri_ic dX11_fallOf_233 (by unfold ol_inR; omega)) dX11_fallOf_234) (ri_ic dX11_fallOf_235 (by unfold ol_inR; omega)) dX11_fallOf_236 (by decide)) (rs_k (rk_v (Mc := mX11_hitNext) (conX11_hitNext _ K) (ra_r (rr_vn dX11_fallOf_239 rfl) (ra_i (ri_vi dX11_fallOf_240) (ra_0))) dX11_fallOf_242 cwX11_163 tw_1054 tw_34 (by decide) rfl rfl ⟨rfl, rfl, Nat.le_of_ble_eq_true rfl⟩ (by decide) (by decide) (al_r (al_i al_0)))) rs_skip) (rs_inc dX11_fallOf_245 (ol_ltn rfl))) dX11_fallOf_248 (by decide))) (rs_seq (p2 := 265) (rs_uf ol_op_or (rr_vn dX11_fallOf_251 rfl) dX11_fallOf_252 dX11_fallOf_253 (ri_2 ol_op_or (ri_vi dX11_fallOf_256) (ri_vi dX11_fallOf_258) dX11_fallOf_260) dX11_fallOf_261 gfX11_160 pfX11_160 rfl dX11_fallOf_262) (rs_set (ri_2 ol_op_add (ri_vi dX11_fallOf_265) (ri_vn dX11_fallOf_267 rfl) dX11_fallOf_268) dX11_fallOf_269 (ol_ltn rfl))))))))) (rs_inc dX11_fallOf_271 (ol_ltn rfl))) dX11_fallOf_274 (by decide))) (rs_ret (ri_f (rr_vn dX11_fallOf_277 rfl) gfX11_160 dX11_fallOf_278) rfl dX11_fallOf_281))))
theorem conX11_fallOf (l : Launch) (K : ol_K) : ol_Con l K yX11_fallOf mX11_fallOf fX11_fallOf := ol_con (M := mX11_fallOf) (by decide) rfl rfl (imX11_fallOf · K)
theorem dX11_came_0 : decode cX11_came 0 = .ok (.iload_n 1, 1) := by decide +kernel
theorem dX11_came_1 : decode cX11_came 1 = .ok (.iconst 0, 1) := by decide +kernel
theorem dX11_came_2 : decode cX11_came 2 = .ok (.bipush 6, 2) := by decide +kernel
theorem dX11_came_4 : decode cX11_came 4 = .ok (.invokestatic 63, 3) := by decide +kernel
theorem dX11_came_7 : decode cX11_came 7 = .ok (.ifCond .eq 19, 3) := by decide +kernel
theorem dX11_came_10 : decode cX11_came 10 = .ok (.aload_n 0, 1) := by decide +kernel
theorem dX11_came_11 : decode cX11_came 11 = .ok (.getfield 173, 3) := by decide +kernel
theorem dX11_came_14 : decode cX11_came 14 = .ok (.ifCond .eq 12, 3) := by decide +kernel
theorem dX11_came_17 : decode cX11_came 17 = .ok (.aload_n 0, 1) := by decide +kernel
theorem dX11_came_18 : decode cX11_came 18 = .ok (.getfield 32, 3) := by decide +kernel
theorem dX11_came_21 : decode cX11_came 21 = .ok (.iload_n 1, 1) := by decide +kernel
theorem dX11_came_22 : decode cX11_came 22 = .ok (.iaload, 1) := by decide +kernel
theorem dX11_came_23 : decode cX11_came 23 = .ok (.goto 5, 3) := by decide +kernel
theorem dX11_came_26 : decode cX11_came 26 = .ok (.ldc 187, 2) := by decide +kernel
theorem dX11_came_28 : decode cX11_came 28 = .ok (.ireturn, 1) := by decide +kernel
def bX11_came : ol_SE := es_ret (ei_if (ec_and (ec_z ol_ne (ei_of (ea_cs fX11_in (ea_i (ei_v 1) (ea_i (ei_c 0) (ea_i (ei_c 6) (ea_0))))))) (ec_z ol_ne (ei_f 11 25 (er_v 0)))) (ei_a 100 (er_f 11 26 (er_v 0)) (ei_v 1)) (ei_c (-1000000)))
def fX11_came : ol_FE := ol_fe 2 bX11_came
set_option maxRecDepth 20000 in
theorem imX11_came (x : ol_X) (K : ol_K) : IM_S x K mX11_came 0 0 bX11_came := rs_ret (ri_if (pT := 17) (pF := 26) (p3 := 28) (rc_and (p2 := 10) (pT := 17) (pF := 26) (rc_zF (pF := 26) ol_j1_eq_F (ri_k (rk_s (Mc := mX11_in) (conX11_in _ K) (ra_i (ri_vn dX11_came_0 rfl) (ra_i (ri_ic dX11_came_1 (by unfold ol_inR; omega)) (ra_i (ri_bi dX11_came_2 (by unfold ol_inR; omega) (by decide)) (ra_0)))) dX11_came_4 cwX11_63 tw_981 ⟨rfl, rfl, Nat.le_of_ble_eq_true rfl⟩ (by decide) (by decide) (al_i (al_i (al_i al_0)))) (Or.inr (Or.inl rfl))) dX11_came_7 (by decide)) (rc_zF (pF := 26) ol_j1_eq_F (ri_f (rr_vn dX11_came_10 rfl) gfX11_173 dX11_came_11) dX11_came_14 (by decide))) (ri_a (rr_f (rr_vn dX11_came_17 rfl) gfX11_32 dX11_came_18) (ri_vn dX11_came_21 rfl) rfl dX11_came_22) dX11_came_23 (by decide) (ri_ldc dX11_came_26 (by unfold ol_inR; omega) tw_1086)) rfl dX11_came_28
theorem conX11_came (l : Launch) (K : ol_K) : ol_Con l K yX11_came mX11_came fX11_came := ol_con (M := mX11_came) (by decide) rfl rfl (imX11_came · K)
theorem dX11_countRolls_0 : decode cX11_countRolls 0 = .ok (.aload_n 0, 1) := by decide +kernel
theorem dX11_countRolls_1 : decode cX11_countRolls 1 = .ok (.iconst 0, 1) := by decide +kernel
theorem dX11_countRolls_2 : decode cX11_countRolls 2 = .ok (.putfield 191, 3) := by decide +kernel
theorem dX11_countRolls_5 : decode cX11_countRolls 5 = .ok (.aload_n 0, 1) := by decide +kernel
theorem dX11_countRolls_6 : decode cX11_countRolls 6 = .ok (.iconst 0, 1) := by decide +kernel
theorem dX11_countRolls_7 : decode cX11_countRolls 7 = .ok (.putfield 194, 3) := by decide +kernel
theorem dX11_countRolls_10 : decode cX11_countRolls 10 = .ok (.iconst 0, 1) := by decide +kernel
theorem dX11_countRolls_11 : decode cX11_countRolls 11 = .ok (.istore_n 2, 1) := by decide +kernel
theorem dX11_countRolls_12 : decode cX11_countRolls 12 = .ok (.aload_n 0, 1) := by decide +kernel
theorem dX11_countRolls_13 : decode cX11_countRolls 13 = .ok (.bipush 10, 2) := by decide +kernel
theorem dX11_countRolls_15 : decode cX11_countRolls 15 = .ok (.putfield 197, 3) := by decide +kernel
theorem dX11_countRolls_18 : decode cX11_countRolls 18 = .ok (.iconst 1, 1) := by decide +kernel
theorem dX11_countRolls_19 : decode cX11_countRolls 19 = .ok (.istore_n 3, 1) := by decide +kernel
theorem dX11_countRolls_20 : decode cX11_countRolls 20 = .ok (.iload_n 3, 1) := by decide +kernel
theorem dX11_countRolls_21 : decode cX11_countRolls 21 = .ok (.ifCond .eq 198, 3) := by decide +kernel
theorem dX11_countRolls_24 : decode cX11_countRolls 24 = .ok (.aload_n 0, 1) := by decide +kernel
theorem dX11_countRolls_25 : decode cX11_countRolls 25 = .ok (.getfield 191, 3) := by decide +kernel
theorem dX11_countRolls_28 : decode cX11_countRolls 28 = .ok (.bipush 9, 2) := by decide +kernel
theorem dX11_countRolls_30 : decode cX11_countRolls 30 = .ok (.if_icmp .ge 189, 3) := by decide +kernel
theorem dX11_countRolls_33 : decode cX11_countRolls 33 = .ok (.iload_n 2, 1) := by decide +kernel
theorem dX11_countRolls_34 : decode cX11_countRolls 34 = .ok (.iload_n 1, 1) := by decide +kernel
theorem dX11_countRolls_35 : decode cX11_countRolls 35 = .ok (.if_icmp .ge 18, 3) := by decide +kernel
theorem dX11_countRolls_38 : decode cX11_countRolls 38 = .ok (.aload_n 0, 1) := by decide +kernel
theorem dX11_countRolls_39 : decode cX11_countRolls 39 = .ok (.getfield 35, 3) := by decide +kernel
theorem dX11_countRolls_42 : decode cX11_countRolls 42 = .ok (.iload_n 2, 1) := by decide +kernel
theorem dX11_countRolls_43 : decode cX11_countRolls 43 = .ok (.iaload, 1) := by decide +kernel
theorem dX11_countRolls_44 : decode cX11_countRolls 44 = .ok (.bipush 10, 2) := by decide +kernel
theorem dX11_countRolls_46 : decode cX11_countRolls 46 = .ok (.if_icmp .ne 7, 3) := by decide +kernel
theorem dX11_countRolls_49 : decode cX11_countRolls 49 = .ok (.iconst 1, 1) := by decide +kernel
theorem dX11_countRolls_50 : decode cX11_countRolls 50 = .ok (.goto 4, 3) := by decide +kernel
theorem dX11_countRolls_53 : decode cX11_countRolls 53 = .ok (.iconst 0, 1) := by decide +kernel
theorem dX11_countRolls_54 : decode cX11_countRolls 54 = .ok (.istore 4, 2) := by decide +kernel
theorem dX11_countRolls_56 : decode cX11_countRolls 56 = .ok (.iload 4, 2) := by decide +kernel
theorem dX11_countRolls_58 : decode cX11_countRolls 58 = .ok (.ifCond .eq 7, 3) := by decide +kernel
theorem dX11_countRolls_61 : decode cX11_countRolls 61 = .ok (.iconst 1, 1) := by decide +kernel
theorem dX11_countRolls_62 : decode cX11_countRolls 62 = .ok (.goto 4, 3) := by decide +kernel
theorem dX11_countRolls_65 : decode cX11_countRolls 65 = .ok (.iconst 2, 1) := by decide +kernel
theorem dX11_countRolls_66 : decode cX11_countRolls 66 = .ok (.istore 5, 2) := by decide +kernel
theorem dX11_countRolls_68 : decode cX11_countRolls 68 = .ok (.iload_n 2, 1) := by decide +kernel
theorem dX11_countRolls_69 : decode cX11_countRolls 69 = .ok (.iload 5, 2) := by decide +kernel
theorem dX11_countRolls_71 : decode cX11_countRolls 71 = .ok (.iadd, 1) := by decide +kernel
theorem dX11_countRolls_72 : decode cX11_countRolls 72 = .ok (.iload_n 1, 1) := by decide +kernel
theorem dX11_countRolls_73 : decode cX11_countRolls 73 = .ok (.if_icmp .gt 7, 3) := by decide +kernel
theorem dX11_countRolls_76 : decode cX11_countRolls 76 = .ok (.iconst 1, 1) := by decide +kernel
theorem dX11_countRolls_77 : decode cX11_countRolls 77 = .ok (.goto 4, 3) := by decide +kernel
theorem dX11_countRolls_80 : decode cX11_countRolls 80 = .ok (.iconst 0, 1) := by decide +kernel
theorem dX11_countRolls_81 : decode cX11_countRolls 81 = .ok (.istore_n 3, 1) := by decide +kernel
theorem dX11_countRolls_82 : decode cX11_countRolls 82 = .ok (.iload_n 3, 1) := by decide +kernel
theorem dX11_countRolls_83 : decode cX11_countRolls 83 = .ok (.ifCond .eq 110, 3) := by decide +kernel
theorem dX11_countRolls_86 : decode cX11_countRolls 86 = .ok (.iload 4, 2) := by decide +kernel
theorem dX11_countRolls_88 : decode cX11_countRolls 88 = .ok (.ifCond .ne 27, 3) := by decide +kernel
theorem dX11_countRolls_91 : decode cX11_countRolls 91 = .ok (.aload_n 0, 1) := by decide +kernel
theorem dX11_countRolls_92 : decode cX11_countRolls 92 = .ok (.getfield 35, 3) := by decide +kernel
theorem dX11_countRolls_95 : decode cX11_countRolls 95 = .ok (.iload_n 2, 1) := by decide +kernel
theorem dX11_countRolls_96 : decode cX11_countRolls 96 = .ok (.iaload, 1) := by decide +kernel
theorem dX11_countRolls_97 : decode cX11_countRolls 97 = .ok (.aload_n 0, 1) := by decide +kernel
theorem dX11_countRolls_98 : decode cX11_countRolls 98 = .ok (.getfield 35, 3) := by decide +kernel
theorem dX11_countRolls_101 : decode cX11_countRolls 101 = .ok (.iload_n 2, 1) := by decide +kernel
theorem dX11_countRolls_102 : decode cX11_countRolls 102 = .ok (.iconst 1, 1) := by decide +kernel
theorem dX11_countRolls_103 : decode cX11_countRolls 103 = .ok (.iadd, 1) := by decide +kernel
theorem dX11_countRolls_104 : decode cX11_countRolls 104 = .ok (.iaload, 1) := by decide +kernel
theorem dX11_countRolls_105 : decode cX11_countRolls 105 = .ok (.iadd, 1) := by decide +kernel
theorem dX11_countRolls_106 : decode cX11_countRolls 106 = .ok (.bipush 10, 2) := by decide +kernel
theorem dX11_countRolls_108 : decode cX11_countRolls 108 = .ok (.if_icmp .ne 7, 3) := by decide +kernel
theorem dX11_countRolls_111 : decode cX11_countRolls 111 = .ok (.iconst 1, 1) := by decide +kernel
theorem dX11_countRolls_112 : decode cX11_countRolls 112 = .ok (.goto 4, 3) := by decide +kernel
theorem dX11_countRolls_115 : decode cX11_countRolls 115 = .ok (.iconst 0, 1) := by decide +kernel
theorem dX11_countRolls_116 : decode cX11_countRolls 116 = .ok (.istore 6, 2) := by decide +kernel
theorem dX11_countRolls_118 : decode cX11_countRolls 118 = .ok (.iload_n 2, 1) := by decide +kernel
theorem dX11_countRolls_119 : decode cX11_countRolls 119 = .ok (.iload 4, 2) := by decide +kernel
theorem dX11_countRolls_121 : decode cX11_countRolls 121 = .ok (.ifCond .ne 8, 3) := by decide +kernel
theorem dX11_countRolls_124 : decode cX11_countRolls 124 = .ok (.iload 6, 2) := by decide +kernel
theorem dX11_countRolls_126 : decode cX11_countRolls 126 = .ok (.ifCond .eq 7, 3) := by decide +kernel
theorem dX11_countRolls_129 : decode cX11_countRolls 129 = .ok (.iconst 3, 1) := by decide +kernel
theorem dX11_countRolls_130 : decode cX11_countRolls 130 = .ok (.goto 4, 3) := by decide +kernel
theorem dX11_countRolls_133 : decode cX11_countRolls 133 = .ok (.iconst 2, 1) := by decide +kernel
theorem dX11_countRolls_134 : decode cX11_countRolls 134 = .ok (.iadd, 1) := by decide +kernel
theorem dX11_countRolls_135 : decode cX11_countRolls 135 = .ok (.istore 7, 2) := by decide +kernel
theorem dX11_countRolls_137 : decode cX11_countRolls 137 = .ok (.iload_n 2, 1) := by decide +kernel
theorem dX11_countRolls_138 : decode cX11_countRolls 138 = .ok (.istore 8, 2) := by decide +kernel
theorem dX11_countRolls_140 : decode cX11_countRolls 140 = .ok (.iload 8, 2) := by decide +kernel
theorem dX11_countRolls_142 : decode cX11_countRolls 142 = .ok (.iload 7, 2) := by decide +kernel
theorem dX11_countRolls_144 : decode cX11_countRolls 144 = .ok (.if_icmp .ge 31, 3) := by decide +kernel
theorem dX11_countRolls_147 : decode cX11_countRolls 147 = .ok (.iload 8, 2) := by decide +kernel
theorem dX11_countRolls_149 : decode cX11_countRolls 149 = .ok (.iload_n 1, 1) := by decide +kernel
theorem dX11_countRolls_150 : decode cX11_countRolls 150 = .ok (.if_icmp .ge 25, 3) := by decide +kernel
theorem dX11_countRolls_153 : decode cX11_countRolls 153 = .ok (.aload_n 0, 1) := by decide +kernel
theorem dX11_countRolls_154 : decode cX11_countRolls 154 = .ok (.dup, 1) := by decide +kernel
theorem dX11_countRolls_155 : decode cX11_countRolls 155 = .ok (.getfield 194, 3) := by decide +kernel
theorem dX11_countRolls_158 : decode cX11_countRolls 158 = .ok (.aload_n 0, 1) := by decide +kernel
theorem dX11_countRolls_159 : decode cX11_countRolls 159 = .ok (.getfield 35, 3) := by decide +kernel
theorem dX11_countRolls_162 : decode cX11_countRolls 162 = .ok (.iload 8, 2) := by decide +kernel
theorem dX11_countRolls_164 : decode cX11_countRolls 164 = .ok (.iaload, 1) := by decide +kernel
theorem dX11_countRolls_165 : decode cX11_countRolls 165 = .ok (.iadd, 1) := by decide +kernel
theorem dX11_countRolls_166 : decode cX11_countRolls 166 = .ok (.putfield 194, 3) := by decide +kernel
theorem dX11_countRolls_169 : decode cX11_countRolls 169 = .ok (.iinc 8 1, 3) := by decide +kernel
theorem dX11_countRolls_172 : decode cX11_countRolls 172 = .ok (.goto (-32), 3) := by decide +kernel
theorem dX11_countRolls_175 : decode cX11_countRolls 175 = .ok (.iload_n 2, 1) := by decide +kernel
theorem dX11_countRolls_176 : decode cX11_countRolls 176 = .ok (.iload 5, 2) := by decide +kernel
theorem dX11_countRolls_178 : decode cX11_countRolls 178 = .ok (.iadd, 1) := by decide +kernel
theorem dX11_countRolls_179 : decode cX11_countRolls 179 = .ok (.istore_n 2, 1) := by decide +kernel
theorem dX11_countRolls_180 : decode cX11_countRolls 180 = .ok (.aload_n 0, 1) := by decide +kernel
theorem dX11_countRolls_181 : decode cX11_countRolls 181 = .ok (.dup, 1) := by decide +kernel
theorem dX11_countRolls_182 : decode cX11_countRolls 182 = .ok (.getfield 191, 3) := by decide +kernel
theorem dX11_countRolls_185 : decode cX11_countRolls 185 = .ok (.iconst 1, 1) := by decide +kernel
theorem dX11_countRolls_186 : decode cX11_countRolls 186 = .ok (.iadd, 1) := by decide +kernel
theorem dX11_countRolls_187 : decode cX11_countRolls 187 = .ok (.putfield 191, 3) := by decide +kernel
theorem dX11_countRolls_190 : decode cX11_countRolls 190 = .ok (.goto 26, 3) := by decide +kernel
theorem dX11_countRolls_193 : decode cX11_countRolls 193 = .ok (.aload_n 0, 1) := by decide +kernel
theorem dX11_countRolls_194 : decode cX11_countRolls 194 = .ok (.iload_n 2, 1) := by decide +kernel
theorem dX11_countRolls_195 : decode cX11_countRolls 195 = .ok (.iload_n 1, 1) := by decide +kernel
theorem dX11_countRolls_196 : decode cX11_countRolls 196 = .ok (.if_icmp .ge 15, 3) := by decide +kernel
theorem dX11_countRolls_199 : decode cX11_countRolls 199 = .ok (.bipush 10, 2) := by decide +kernel
theorem dX11_countRolls_201 : decode cX11_countRolls 201 = .ok (.aload_n 0, 1) := by decide +kernel
theorem dX11_countRolls_202 : decode cX11_countRolls 202 = .ok (.getfield 35, 3) := by decide +kernel
theorem dX11_countRolls_205 : decode cX11_countRolls 205 = .ok (.iload_n 2, 1) := by decide +kernel
theorem dX11_countRolls_206 : decode cX11_countRolls 206 = .ok (.iaload, 1) := by decide +kernel
theorem dX11_countRolls_207 : decode cX11_countRolls 207 = .ok (.isub, 1) := by decide +kernel
theorem dX11_countRolls_208 : decode cX11_countRolls 208 = .ok (.goto 5, 3) := by decide +kernel
theorem dX11_countRolls_211 : decode cX11_countRolls 211 = .ok (.bipush 10, 2) := by decide +kernel
theorem dX11_countRolls_213 : decode cX11_countRolls 213 = .ok (.putfield 197, 3) := by decide +kernel
theorem dX11_countRolls_216 : decode cX11_countRolls 216 = .ok (.goto (-196), 3) := by decide +kernel
theorem dX11_countRolls_219 : decode cX11_countRolls 219 = .ok (.aload_n 0, 1) := by decide +kernel
theorem dX11_countRolls_220 : decode cX11_countRolls 220 = .ok (.getfield 191, 3) := by decide +kernel
theorem dX11_countRolls_223 : decode cX11_countRolls 223 = .ok (.bipush 9, 2) := by decide +kernel
theorem dX11_countRolls_225 : decode cX11_countRolls 225 = .ok (.if_icmp .ne 9, 3) := by decide +kernel
theorem dX11_countRolls_228 : decode cX11_countRolls 228 = .ok (.aload_n 0, 1) := by decide +kernel
theorem dX11_countRolls_229 : decode cX11_countRolls 229 = .ok (.iload_n 2, 1) := by decide +kernel
theorem dX11_countRolls_230 : decode cX11_countRolls 230 = .ok (.iload_n 1, 1) := by decide +kernel
theorem dX11_countRolls_231 : decode cX11_countRolls 231 = .ok (.invokevirtual 200, 3) := by decide +kernel
theorem dX11_countRolls_234 : decode cX11_countRolls 234 = .ok (.return_, 1) := by decide +kernel
def bX11_countRolls : ol_SE := es_seq (es_pf 11 29 (er_v 0) (ei_c 0)) (es_seq (es_pf 11 30 (er_v 0) (ei_c 0)) (es_seq (es_set 2 (ei_c 0)) (es_seq (es_pf 11 31 (er_v 0) (ei_c 10)) (es_seq (es_set 3 (ei_c 1)) (es_seq (es_wh (ec_and (ec_z ol_ne (ei_v 3)) (ec_2 ol_lt (ei_f 11 29 (er_v 0)) (ei_c 9))) (es_seq (es_set 4 (ei_if (ec_and (ec_2 ol_lt (ei_v 2) (ei_v 1)) (ec_2 ol_eq (ei_a 100 (er_f 11 27 (er_v 0)) (ei_v 2)) (ei_c 10))) (ei_c 1) (ei_c 0))) (es_seq (es_set 5 (ei_if (ec_z ol_ne (ei_v 4)) (ei_c 1) (ei_c 2))) (es_seq (es_set 3 (ei_if (ec_2 ol_le (ei_2 ol_add (ei_v 2) (ei_v 5)) (ei_v 1)) (ei_c 1) (ei_c 0))) (es_if (ec_z ol_ne (ei_v 3)) (es_seq (es_set 6 (ei_if (ec_and (ec_not (ec_z ol_ne (ei_v 4))) (ec_2 ol_eq (ei_2 ol_add (ei_a 100 (er_f 11 27 (er_v 0)) (ei_v 2)) (ei_a 100 (er_f 11 27 (er_v 0)) (ei_2 ol_add (ei_v 2) (ei_c 1)))) (ei_c 10))) (ei_c 1) (ei_c 0))) (es_seq (es_set 7 (ei_2 ol_add (ei_v 2) (ei_if (ec_or (ec_z ol_ne (ei_v 4)) (ec_z ol_ne (ei_v 6))) (ei_c 3) (ei_c 2)))) (es_seq (es_seq (es_set 8 (ei_v 2)) (es_wh (ec_and (ec_2 ol_lt (ei_v 8) (ei_v 7)) (ec_2 ol_lt (ei_v 8) (ei_v 1))) (es_seq (es_uf 11 30 (er_v 0) ol_add (ei_a 100 (er_f 11 27 (er_v 0)) (ei_v 8))) (es_inc 8 1)))) (es_seq (es_set 2 (ei_2 ol_add (ei_v 2) (ei_v 5))) (es_uf 11 29 (er_v 0) ol_add (ei_c 1)))))) (es_pf 11 31 (er_v 0) (ei_if (ec_2 ol_lt (ei_v 2) (ei_v 1)) (ei_2 ol_sub (ei_c 10) (ei_a 100 (er_f 11 27 (er_v 0)) (ei_v 2))) (ei_c 10)))))))) (es_seq (es_if (ec_2 ol_eq (ei_f 11 29 (er_v 0)) (ei_c 9)) (es_of (ea_cv 11 fX11_countTenth (ea_r (er_v 0) (ea_i (ei_v 2) (ea_i (ei_v 1) (ea_0)))))) es_skip) (es_retv)))))))
def fX11_countRolls : ol_FE := ol_fe 9 bX11_countRolls
set_option maxRecDepth 20000 in
theorem imX11_countRolls (x : ol_X) (K : ol_K) : IM_S x K mX11_countRolls 0 0 bX11_countRolls := rs_seq (p2 := 5) (rs_pf (rr_vn dX11_countRolls_0 rfl) (ri_ic dX11_countRolls_1 (by unfold ol_inR; omega)) pfX11_191 rfl dX11_countRolls_2) (rs_seq (p2 := 10) (rs_pf (rr_vn dX11_countRolls_5 rfl) (ri_ic dX11_countRolls_6 (by unfold ol_inR; omega)) pfX11_194 rfl dX11_countRolls_7) (rs_seq (p2 := 12) (rs_setn (ri_ic dX11_countRolls_10 (by unfold ol_inR; omega)) dX11_countRolls_11 rfl (ol_ltn rfl)) (rs_seq (p2 := 18) (rs_pf (rr_vn dX11_countRolls_12 rfl) (ri_bi dX11_countRolls_13 (by unfold ol_inR; omega) (by decide)) pfX11_197 rfl dX11_countRolls_15) (rs_seq (p2 := 20) (rs_setn (ri_ic dX11_countRolls_18 (by unfold ol_inR; omega)) dX11_countRolls_19 rfl (ol_ltn rfl)) (rs_seq (p2 := 219) (rs_wh (pH := 20) (pB := 33) (pE := 219) (pG := 216) (rc_and (p2 := 24) (pT := 33) (pF := 219) (rc_zF (pF := 219) ol_j1_eq_F (ri_vn dX11_countRolls_20 rfl) dX11_countRolls_21 (by decide)) (rc_2F (pF := 219) ol_j2_ge_F (ri_f (rr_vn dX11_countRolls_24 rfl) gfX11_191 dX11_countRolls_25) (ri_bi dX11_countRolls_28 (by unfold ol_inR; omega) (by decide)) dX11_countRolls_30 (by decide))) (rs_seq (p2 := 56) (rs_set (ri_if (pT := 49) (pF := 53) (p3 := 54) (rc_and (p2 := 38) (pT := 49) (pF := 53) (rc_2F (pF := 53) ol_j2_ge_F (ri_vn dX11_countRolls_33 rfl) (ri_vn dX11_countRolls_34 rfl) dX11_countRolls_35 (by decide)) (rc_2F (pF := 53) ol_j2_ne_F (ri_a (rr_f (rr_vn dX11_countRolls_38 rfl) gfX11_35 dX11_countRolls_39) (ri_vn dX11_countRolls_42 rfl) rfl dX11_countRolls_43) (ri_bi dX11_countRolls_44 (by unfold ol_inR; omega) (by decide)) dX11_countRolls_46 (by decide))) (ri_ic dX11_countRolls_49 (by unfold ol_inR; omega)) dX11_countRolls_50 (by decide) (ri_ic dX11_countRolls_53 (by unfold ol_inR; omega))) dX11_countRolls_54 (ol_ltn rfl)) (rs_seq (p2 := 68) (rs_set (ri_if (pT := 61) (pF := 65) (p3 := 66) (rc_zF (pF := 65) ol_j1_eq_F (ri_vi dX11_countRolls_56) dX11_countRolls_58 (by decide)) (ri_ic dX11_countRolls_61 (by unfold ol_inR; omega)) dX11_countRolls_62 (by decide) (ri_ic dX11_countRolls_65 (by unfold ol_inR; omega))) dX11_countRolls_66 (ol_ltn rfl)) (rs_seq (p2 := 82) (rs_setn (ri_if (pT := 76) (pF := 80) (p3 := 81) (rc_2F (pF := 80) ol_j2_gt_F (ri_2 ol_op_add (ri_vn dX11_countRolls_68 rfl) (ri_vi dX11_countRolls_69) dX11_countRolls_71) (ri_vn dX11_countRolls_72 rfl) dX11_countRolls_73 (by decide)) (ri_ic dX11_countRolls_76 (by unfold ol_inR; omega)) dX11_countRolls_77 (by decide) (ri_ic dX11_countRolls_80 (by unfold ol_inR; omega))) dX11_countRolls_81 rfl (ol_ltn rfl)) (rs_if (pT := 86) (pF := 193) (pE := 216) (rc_zF (pF := 193) ol_j1_eq_F (ri_vn dX11_countRolls_82 rfl) dX11_countRolls_83 (by decide)) (rs_goto (p3 := 216) (rs_seq (p2 := 118) (rs_set (ri_if (pT := 111) (pF := 115) (p3 := 116) (rc_and (p2 := 91) (pT := 111) (pF := 115) (rc_not (rc_zT (pT := 115) ol_j1_ne_T (ri_vi dX11_countRolls_86) dX11_countRolls_88 (by decide))) (rc_2F (pF := 115) ol_j2_ne_F (ri_2 ol_op_add (ri_a (rr_f (rr_vn dX11_countRolls_91 rfl) gfX11_35 dX11_countRolls_92) (ri_vn dX11_countRolls_95 rfl) rfl dX11_countRolls_96) (ri_a (rr_f (rr_vn dX11_countRolls_97 rfl) gfX11_35 dX11_countRolls_98) (ri_2 ol_op_add (ri_vn dX11_countRolls_101 rfl) (ri_ic dX11_countRolls_102 (by unfold ol_inR; omega)) dX11_countRolls_103) rfl dX11_countRolls_104) dX11_countRolls_105) (ri_bi dX11_countRolls_106 (by unfold ol_inR; omega) (by decide)) dX11_countRolls_108 (by decide))) (ri_ic dX11_countRolls_111 (by unfold ol_inR; omega)) dX11_countRolls_112 (by decide) (ri_ic dX11_countRolls_115 (by unfold ol_inR; omega))) dX11_countRolls_116 (ol_ltn rfl)) (rs_seq (p2 := 137) (rs_set (ri_2 ol_op_add (ri_vn dX11_countRolls_118 rfl) (ri_if (pT := 129) (pF := 133) (p3 := 134) (rc_or (p2 := 124) (pT := 129) (pF := 133) (rc_zT (pT := 129) ol_j1_ne_T (ri_vi dX11_countRolls_119) dX11_countRolls_121 (by decide)) (rc_zF (pF := 133) ol_j1_eq_F (ri_vi dX11_countRolls_124) dX11_countRolls_126 (by decide))) (ri_ic dX11_countRolls_129 (by unfold ol_inR; omega)) dX11_countRolls_130 (by decide) (ri_ic dX11_countRolls_133 (by unfold ol_inR; omega))) dX11_countRolls_134) dX11_countRolls_135 (ol_ltn rfl)) (rs_seq (p2 := 175) (rs_seq (p2 := 140) (rs_set (ri_vn dX11_countRolls_137 rfl) dX11_countRolls_138 (ol_ltn rfl)) (rs_wh (pH := 140) (pB := 153) (pE := 175) (pG := 172) (rc_and (p2 := 147) (pT := 153) (pF := 175) (rc_2F (pF := 175) ol_j2_ge_F (ri_vi dX11_countRolls_140) (ri_vi dX11_countRolls_142) dX11_countRolls_144 (by decide)) (rc_2F (pF := 175) ol_j2_ge_F (ri_vi dX11_countRolls_147) (ri_vn dX11_countRolls_149 rfl) dX11_countRolls_150 (by decide))) (rs_seq (p2 := 169) (rs_uf ol_op_add (rr_vn dX11_countRolls_153 rfl) dX11_countRolls_154 dX11_countRolls_155 (ri_a (rr_f (rr_vn dX11_countRolls_158 rfl) gfX11_35 dX11_countRolls_159) (ri_vi dX11_countRolls_162) rfl dX11_countRolls_164) dX11_countRolls_165 gfX11_194 pfX11_194 rfl dX11_countRolls_166) (rs_inc dX11_countRolls_169 (ol_ltn rfl))) dX11_countRolls_172 (by decide))) (rs_seq (p2 := 180) (rs_setn (ri_2 ol_op_add (ri_vn dX11_countRolls_175 rfl) (ri_vi dX11_countRolls_176) dX11_countRolls_178) dX11_countRolls_179 rfl (ol_ltn rfl)) (rs_uf ol_op_add (rr_vn dX11_countRolls_180 rfl) dX11_countRolls_181 dX11_countRolls_182 (ri_ic dX11_countRolls_185 (by unfold ol_inR; omega)) dX11_countRolls_186 gfX11_191 pfX11_191 rfl dX11_countRolls_187))))) dX11_countRolls_190 (by decide)) (rs_pf (rr_vn dX11_countRolls_193 rfl) (ri_if (pT := 199) (pF := 211) (p3 := 213) (rc_2F (pF := 211) ol_j2_ge_F (ri_vn dX11_countRolls_194 rfl) (ri_vn dX11_countRolls_195 rfl) dX11_countRolls_196 (by decide)) (ri_2 ol_op_sub (ri_bi dX11_countRolls_199 (by unfold ol_inR; omega) (by decide)) (ri_a (rr_f (rr_vn dX11_countRolls_201 rfl) gfX11_35 dX11_countRolls_202) (ri_vn dX11_countRolls_205 rfl) rfl dX11_countRolls_206) dX11_countRolls_207) dX11_countRolls_208 (by decide) (ri_bi dX11_countRolls_211 (by unfold ol_inR; omega) (by decide))) pfX11_197 rfl dX11_countRolls_213))))) dX11_countRolls_216 (by decide)) (rs_seq (p2 := 234) (rs_if (pT := 228) (pF := 234) (pE := 234) (rc_2F (pF := 234) ol_j2_ne_F (ri_f (rr_vn dX11_countRolls_219 rfl) gfX11_191 dX11_countRolls_220) (ri_bi dX11_countRolls_223 (by unfold ol_inR; omega) (by decide)) dX11_countRolls_225 (by decide)) (rs_k (rk_v (Mc := mX11_countTenth) (conX11_countTenth _ K) (ra_r (rr_vn dX11_countRolls_228 rfl) (ra_i (ri_vn dX11_countRolls_229 rfl) (ra_i (ri_vn dX11_countRolls_230 rfl) (ra_0)))) dX11_countRolls_231 cwX11_200 tw_1105 tw_41 (by decide) rfl rfl ⟨rfl, rfl, Nat.le_of_ble_eq_true rfl⟩ (by decide) (by decide) (al_r (al_i (al_i al_0))))) rs_skip) (rs_retv rfl dX11_countRolls_234)))))))
theorem conX11_countRolls (l : Launch) (K : ol_K) : ol_Con l K yX11_countRolls mX11_countRolls fX11_countRolls := ol_con (M := mX11_countRolls) (by decide) rfl rfl (imX11_countRolls · K)
theorem dX11_isHand_0 : decode cX11_isHand 0 = .ok (.iload_n 0, 1) := by decide +kernel
theorem dX11_isHand_1 : decode cX11_isHand 1 = .ok (.iconst 0, 1) := by decide +kernel
theorem dX11_isHand_2 : decode cX11_isHand 2 = .ok (.iconst 3, 1) := by decide +kernel
theorem dX11_isHand_3 : decode cX11_isHand 3 = .ok (.invokestatic 63, 3) := by decide +kernel
theorem dX11_isHand_6 : decode cX11_isHand 6 = .ok (.ireturn, 1) := by decide +kernel
def bX11_isHand : ol_SE := es_retz (ei_of (ea_cs fX11_in (ea_i (ei_v 0) (ea_i (ei_c 0) (ea_i (ei_c 3) (ea_0))))))
def fX11_isHand : ol_FE := ol_fe 1 bX11_isHand
set_option maxRecDepth 20000 in
theorem imX11_isHand (x : ol_X) (K : ol_K) : IM_S x K mX11_isHand 0 0 bX11_isHand := rs_retz (ri_k (rk_s (Mc := mX11_in) (conX11_in _ K) (ra_i (ri_vn dX11_isHand_0 rfl) (ra_i (ri_ic dX11_isHand_1 (by unfold ol_inR; omega)) (ra_i (ri_ic dX11_isHand_2 (by unfold ol_inR; omega)) (ra_0)))) dX11_isHand_3 cwX11_63 tw_981 ⟨rfl, rfl, Nat.le_of_ble_eq_true rfl⟩ (by decide) (by decide) (al_i (al_i (al_i al_0)))) (Or.inr (Or.inl rfl))) rfl dX11_isHand_6
theorem conX11_isHand (l : Launch) (K : ol_K) : ol_Con l K yX11_isHand mX11_isHand fX11_isHand := ol_con (M := mX11_isHand) (by decide) rfl rfl (imX11_isHand · K)
theorem dX11_meanAt_0 : decode cX11_meanAt 0 = .ok (.iconst 0, 1) := by decide +kernel
theorem dX11_meanAt_1 : decode cX11_meanAt 1 = .ok (.istore_n 3, 1) := by decide +kernel
theorem dX11_meanAt_2 : decode cX11_meanAt 2 = .ok (.iconst 0, 1) := by decide +kernel
theorem dX11_meanAt_3 : decode cX11_meanAt 3 = .ok (.istore 4, 2) := by decide +kernel
theorem dX11_meanAt_5 : decode cX11_meanAt 5 = .ok (.iload 4, 2) := by decide +kernel
theorem dX11_meanAt_7 : decode cX11_meanAt 7 = .ok (.iconst 5, 1) := by decide +kernel
theorem dX11_meanAt_8 : decode cX11_meanAt 8 = .ok (.if_icmp .ge 54, 3) := by decide +kernel
theorem dX11_meanAt_11 : decode cX11_meanAt 11 = .ok (.iload_n 2, 1) := by decide +kernel
theorem dX11_meanAt_12 : decode cX11_meanAt 12 = .ok (.iload 4, 2) := by decide +kernel
theorem dX11_meanAt_14 : decode cX11_meanAt 14 = .ok (.iadd, 1) := by decide +kernel
theorem dX11_meanAt_15 : decode cX11_meanAt 15 = .ok (.iconst 2, 1) := by decide +kernel
theorem dX11_meanAt_16 : decode cX11_meanAt 16 = .ok (.isub, 1) := by decide +kernel
theorem dX11_meanAt_17 : decode cX11_meanAt 17 = .ok (.istore 5, 2) := by decide +kernel
theorem dX11_meanAt_19 : decode cX11_meanAt 19 = .ok (.iload_n 3, 1) := by decide +kernel
theorem dX11_meanAt_20 : decode cX11_meanAt 20 = .ok (.iload 5, 2) := by decide +kernel
theorem dX11_meanAt_22 : decode cX11_meanAt 22 = .ok (.iconst 0, 1) := by decide +kernel
theorem dX11_meanAt_23 : decode cX11_meanAt 23 = .ok (.bipush 38, 2) := by decide +kernel
theorem dX11_meanAt_25 : decode cX11_meanAt 25 = .ok (.invokestatic 63, 3) := by decide +kernel
theorem dX11_meanAt_28 : decode cX11_meanAt 28 = .ok (.ifCond .eq 25, 3) := by decide +kernel
theorem dX11_meanAt_31 : decode cX11_meanAt 31 = .ok (.aload_n 0, 1) := by decide +kernel
theorem dX11_meanAt_32 : decode cX11_meanAt 32 = .ok (.getfield 38, 3) := by decide +kernel
theorem dX11_meanAt_35 : decode cX11_meanAt 35 = .ok (.iconst 5, 1) := by decide +kernel
theorem dX11_meanAt_36 : decode cX11_meanAt 36 = .ok (.iload_n 1, 1) := by decide +kernel
theorem dX11_meanAt_37 : decode cX11_meanAt 37 = .ok (.imul, 1) := by decide +kernel
theorem dX11_meanAt_38 : decode cX11_meanAt 38 = .ok (.iload 4, 2) := by decide +kernel
theorem dX11_meanAt_40 : decode cX11_meanAt 40 = .ok (.iadd, 1) := by decide +kernel
theorem dX11_meanAt_41 : decode cX11_meanAt 41 = .ok (.iaload, 1) := by decide +kernel
theorem dX11_meanAt_42 : decode cX11_meanAt 42 = .ok (.aload_n 0, 1) := by decide +kernel
theorem dX11_meanAt_43 : decode cX11_meanAt 43 = .ok (.getfield 41, 3) := by decide +kernel
theorem dX11_meanAt_46 : decode cX11_meanAt 46 = .ok (.iload 5, 2) := by decide +kernel
theorem dX11_meanAt_48 : decode cX11_meanAt 48 = .ok (.iaload, 1) := by decide +kernel
theorem dX11_meanAt_49 : decode cX11_meanAt 49 = .ok (.imul, 1) := by decide +kernel
theorem dX11_meanAt_50 : decode cX11_meanAt 50 = .ok (.goto 4, 3) := by decide +kernel
theorem dX11_meanAt_53 : decode cX11_meanAt 53 = .ok (.iconst 0, 1) := by decide +kernel
theorem dX11_meanAt_54 : decode cX11_meanAt 54 = .ok (.iadd, 1) := by decide +kernel
theorem dX11_meanAt_55 : decode cX11_meanAt 55 = .ok (.istore_n 3, 1) := by decide +kernel
theorem dX11_meanAt_56 : decode cX11_meanAt 56 = .ok (.iinc 4 1, 3) := by decide +kernel
theorem dX11_meanAt_59 : decode cX11_meanAt 59 = .ok (.goto (-54), 3) := by decide +kernel
theorem dX11_meanAt_62 : decode cX11_meanAt 62 = .ok (.iload_n 3, 1) := by decide +kernel
theorem dX11_meanAt_63 : decode cX11_meanAt 63 = .ok (.ireturn, 1) := by decide +kernel
def bX11_meanAt : ol_SE := es_seq (es_set 3 (ei_c 0)) (es_seq (es_seq (es_set 4 (ei_c 0)) (es_wh (ec_2 ol_lt (ei_v 4) (ei_c 5)) (es_seq (es_seq (es_set 5 (ei_2 ol_sub (ei_2 ol_add (ei_v 2) (ei_v 4)) (ei_c 2))) (es_set 3 (ei_2 ol_add (ei_v 3) (ei_if (ec_z ol_ne (ei_of (ea_cs fX11_in (ea_i (ei_v 5) (ea_i (ei_c 0) (ea_i (ei_c 38) (ea_0))))))) (ei_2 ol_mul (ei_a 100 (er_f 11 32 (er_v 0)) (ei_2 ol_add (ei_2 ol_mul (ei_c 5) (ei_v 1)) (ei_v 4))) (ei_a 100 (er_f 11 33 (er_v 0)) (ei_v 5))) (ei_c 0))))) (es_inc 4 1)))) (es_ret (ei_v 3)))
def fX11_meanAt : ol_FE := ol_fe 6 bX11_meanAt
set_option maxRecDepth 20000 in
theorem imX11_meanAt (x : ol_X) (K : ol_K) : IM_S x K mX11_meanAt 0 0 bX11_meanAt := rs_seq (p2 := 2) (rs_setn (ri_ic dX11_meanAt_0 (by unfold ol_inR; omega)) dX11_meanAt_1 rfl (ol_ltn rfl)) (rs_seq (p2 := 62) (rs_seq (p2 := 5) (rs_set (ri_ic dX11_meanAt_2 (by unfold ol_inR; omega)) dX11_meanAt_3 (ol_ltn rfl)) (rs_wh (pH := 5) (pB := 11) (pE := 62) (pG := 59) (rc_2F (pF := 62) ol_j2_ge_F (ri_vi dX11_meanAt_5) (ri_ic dX11_meanAt_7 (by unfold ol_inR; omega)) dX11_meanAt_8 (by decide)) (rs_seq (p2 := 56) (rs_seq (p2 := 19) (rs_set (ri_2 ol_op_sub (ri_2 ol_op_add (ri_vn dX11_meanAt_11 rfl) (ri_vi dX11_meanAt_12) dX11_meanAt_14) (ri_ic dX11_meanAt_15 (by unfold ol_inR; omega)) dX11_meanAt_16) dX11_meanAt_17 (ol_ltn rfl)) (rs_setn (ri_2 ol_op_add (ri_vn dX11_meanAt_19 rfl) (ri_if (pT := 31) (pF := 53) (p3 := 54) (rc_zF (pF := 53) ol_j1_eq_F (ri_k (rk_s (Mc := mX11_in) (conX11_in _ K) (ra_i (ri_vi dX11_meanAt_20) (ra_i (ri_ic dX11_meanAt_22 (by unfold ol_inR; omega)) (ra_i (ri_bi dX11_meanAt_23 (by unfold ol_inR; omega) (by decide)) (ra_0)))) dX11_meanAt_25 cwX11_63 tw_981 ⟨rfl, rfl, Nat.le_of_ble_eq_true rfl⟩ (by decide) (by decide) (al_i (al_i (al_i al_0)))) (Or.inr (Or.inl rfl))) dX11_meanAt_28 (by decide)) (ri_2 ol_op_mul (ri_a (rr_f (rr_vn dX11_meanAt_31 rfl) gfX11_38 dX11_meanAt_32) (ri_2 ol_op_add (ri_2 ol_op_mul (ri_ic dX11_meanAt_35 (by unfold ol_inR; omega)) (ri_vn dX11_meanAt_36 rfl) dX11_meanAt_37) (ri_vi dX11_meanAt_38) dX11_meanAt_40) rfl dX11_meanAt_41) (ri_a (rr_f (rr_vn dX11_meanAt_42 rfl) gfX11_41 dX11_meanAt_43) (ri_vi dX11_meanAt_46) rfl dX11_meanAt_48) dX11_meanAt_49) dX11_meanAt_50 (by decide) (ri_ic dX11_meanAt_53 (by unfold ol_inR; omega))) dX11_meanAt_54) dX11_meanAt_55 rfl (ol_ltn rfl))) (rs_inc dX11_meanAt_56 (ol_ltn rfl))) dX11_meanAt_59 (by decide))) (rs_ret (ri_vn dX11_meanAt_62 rfl) rfl dX11_meanAt_63))
theorem conX11_meanAt (l : Launch) (K : ol_K) : ol_Con l K yX11_meanAt mX11_meanAt fX11_meanAt := ol_con (M := mX11_meanAt) (by decide) rfl rfl (imX11_meanAt · K)
theorem dX11_stands_0 : decode cX11_stands 0 = .ok (.iload_n 1, 1) := by decide +kernel
theorem dX11_stands_1 : decode cX11_stands 1 = .ok (.iconst 0, 1) := by decide +kernel
theorem dX11_stands_2 : decode cX11_stands 2 = .ok (.aload_n 0, 1) := by decide +kernel
theorem dX11_stands_3 : decode cX11_stands 3 = .ok (.getfield 219, 3) := by decide +kernel
theorem dX11_stands_6 : decode cX11_stands 6 = .ok (.iconst 1, 1) := by decide +kernel
theorem dX11_stands_7 : decode cX11_stands 7 = .ok (.isub, 1) := by decide +kernel
theorem dX11_stands_8 : decode cX11_stands 8 = .ok (.invokestatic 63, 3) := by decide +kernel
theorem dX11_stands_11 : decode cX11_stands 11 = .ok (.ifCond .eq 26, 3) := by decide +kernel
theorem dX11_stands_14 : decode cX11_stands 14 = .ok (.iload_n 2, 1) := by decide +kernel
theorem dX11_stands_15 : decode cX11_stands 15 = .ok (.iconst 0, 1) := by decide +kernel
theorem dX11_stands_16 : decode cX11_stands 16 = .ok (.iconst 5, 1) := by decide +kernel
theorem dX11_stands_17 : decode cX11_stands 17 = .ok (.invokestatic 63, 3) := by decide +kernel
theorem dX11_stands_20 : decode cX11_stands 20 = .ok (.ifCond .eq 17, 3) := by decide +kernel
theorem dX11_stands_23 : decode cX11_stands 23 = .ok (.aload_n 0, 1) := by decide +kernel
theorem dX11_stands_24 : decode cX11_stands 24 = .ok (.getfield 44, 3) := by decide +kernel
theorem dX11_stands_27 : decode cX11_stands 27 = .ok (.bipush 6, 2) := by decide +kernel
theorem dX11_stands_29 : decode cX11_stands 29 = .ok (.iload_n 1, 1) := by decide +kernel
theorem dX11_stands_30 : decode cX11_stands 30 = .ok (.imul, 1) := by decide +kernel
theorem dX11_stands_31 : decode cX11_stands 31 = .ok (.iload_n 2, 1) := by decide +kernel
theorem dX11_stands_32 : decode cX11_stands 32 = .ok (.iadd, 1) := by decide +kernel
theorem dX11_stands_33 : decode cX11_stands 33 = .ok (.iaload, 1) := by decide +kernel
theorem dX11_stands_34 : decode cX11_stands 34 = .ok (.goto 5, 3) := by decide +kernel
theorem dX11_stands_37 : decode cX11_stands 37 = .ok (.ldc 187, 2) := by decide +kernel
theorem dX11_stands_39 : decode cX11_stands 39 = .ok (.ireturn, 1) := by decide +kernel
def bX11_stands : ol_SE := es_ret (ei_if (ec_and (ec_z ol_ne (ei_of (ea_cs fX11_in (ea_i (ei_v 1) (ea_i (ei_c 0) (ea_i (ei_2 ol_sub (ei_f 11 34 (er_v 0)) (ei_c 1)) (ea_0))))))) (ec_z ol_ne (ei_of (ea_cs fX11_in (ea_i (ei_v 2) (ea_i (ei_c 0) (ea_i (ei_c 5) (ea_0)))))))) (ei_a 100 (er_f 11 35 (er_v 0)) (ei_2 ol_add (ei_2 ol_mul (ei_c 6) (ei_v 1)) (ei_v 2))) (ei_c (-1000000)))
def fX11_stands : ol_FE := ol_fe 3 bX11_stands
set_option maxRecDepth 20000 in
theorem imX11_stands (x : ol_X) (K : ol_K) : IM_S x K mX11_stands 0 0 bX11_stands := rs_ret (ri_if (pT := 23) (pF := 37) (p3 := 39) (rc_and (p2 := 14) (pT := 23) (pF := 37) (rc_zF (pF := 37) ol_j1_eq_F (ri_k (rk_s (Mc := mX11_in) (conX11_in _ K) (ra_i (ri_vn dX11_stands_0 rfl) (ra_i (ri_ic dX11_stands_1 (by unfold ol_inR; omega)) (ra_i (ri_2 ol_op_sub (ri_f (rr_vn dX11_stands_2 rfl) gfX11_219 dX11_stands_3) (ri_ic dX11_stands_6 (by unfold ol_inR; omega)) dX11_stands_7) (ra_0)))) dX11_stands_8 cwX11_63 tw_981 ⟨rfl, rfl, Nat.le_of_ble_eq_true rfl⟩ (by decide) (by decide) (al_i (al_i (al_i al_0)))) (Or.inr (Or.inl rfl))) dX11_stands_11 (by decide)) (rc_zF (pF := 37) ol_j1_eq_F (ri_k (rk_s (Mc := mX11_in) (conX11_in _ K) (ra_i (ri_vn dX11_stands_14 rfl) (ra_i (ri_ic dX11_stands_15 (by unfold ol_inR; omega)) (ra_i (ri_ic dX11_stands_16 (by unfold ol_inR; omega)) (ra_0)))) dX11_stands_17 cwX11_63 tw_981 ⟨rfl, rfl, Nat.le_of_ble_eq_true rfl⟩ (by decide) (by decide) (al_i (al_i (al_i al_0)))) (Or.inr (Or.inl rfl))) dX11_stands_20 (by decide))) (ri_a (rr_f (rr_vn dX11_stands_23 rfl) gfX11_44 dX11_stands_24) (ri_2 ol_op_add (ri_2 ol_op_mul (ri_bi dX11_stands_27 (by unfold ol_inR; omega) (by decide)) (ri_vn dX11_stands_29 rfl) dX11_stands_30) (ri_vn dX11_stands_31 rfl) dX11_stands_32) rfl dX11_stands_33) dX11_stands_34 (by decide) (ri_ldc dX11_stands_37 (by unfold ol_inR; omega) tw_1086)) rfl dX11_stands_39
theorem conX11_stands (l : Launch) (K : ol_K) : ol_Con l K yX11_stands mX11_stands fX11_stands := ol_con (M := mX11_stands) (by decide) rfl rfl (imX11_stands · K)
theorem dX11_worth_0 : decode cX11_worth 0 = .ok (.iload_n 1, 1) := by decide +kernel
theorem dX11_worth_1 : decode cX11_worth 1 = .ok (.iconst 0, 1) := by decide +kernel
theorem dX11_worth_2 : decode cX11_worth 2 = .ok (.iconst 5, 1) := by decide +kernel
theorem dX11_worth_3 : decode cX11_worth 3 = .ok (.invokestatic 63, 3) := by decide +kernel
theorem dX11_worth_6 : decode cX11_worth 6 = .ok (.ifCond .eq 10, 3) := by decide +kernel
theorem dX11_worth_9 : decode cX11_worth 9 = .ok (.aload_n 0, 1) := by decide +kernel
theorem dX11_worth_10 : decode cX11_worth 10 = .ok (.getfield 173, 3) := by decide +kernel
theorem dX11_worth_13 : decode cX11_worth 13 = .ok (.ifCond .ne 6, 3) := by decide +kernel
theorem dX11_worth_16 : decode cX11_worth 16 = .ok (.ldc 187, 2) := by decide +kernel
theorem dX11_worth_18 : decode cX11_worth 18 = .ok (.ireturn, 1) := by decide +kernel
theorem dX11_worth_19 : decode cX11_worth 19 = .ok (.aload_n 0, 1) := by decide +kernel
theorem dX11_worth_20 : decode cX11_worth 20 = .ok (.getfield 32, 3) := by decide +kernel
theorem dX11_worth_23 : decode cX11_worth 23 = .ok (.bipush 6, 2) := by decide +kernel
theorem dX11_worth_25 : decode cX11_worth 25 = .ok (.iaload, 1) := by decide +kernel
theorem dX11_worth_26 : decode cX11_worth 26 = .ok (.invokestatic 183, 3) := by decide +kernel
theorem dX11_worth_29 : decode cX11_worth 29 = .ok (.istore_n 2, 1) := by decide +kernel
theorem dX11_worth_30 : decode cX11_worth 30 = .ok (.iload_n 1, 1) := by decide +kernel
theorem dX11_worth_31 : decode cX11_worth 31 = .ok (.tableswitch 128 0 4 #[33, 45, 66, 82, 100], 33) := by decide +kernel
theorem dX11_worth_64 : decode cX11_worth 64 = .ok (.aload_n 0, 1) := by decide +kernel
theorem dX11_worth_65 : decode cX11_worth 65 = .ok (.dup, 1) := by decide +kernel
theorem dX11_worth_66 : decode cX11_worth 66 = .ok (.getfield 246, 3) := by decide +kernel
theorem dX11_worth_69 : decode cX11_worth 69 = .ok (.lconst 1, 1) := by decide +kernel
theorem dX11_worth_70 : decode cX11_worth 70 = .ok (.ladd, 1) := by decide +kernel
theorem dX11_worth_71 : decode cX11_worth 71 = .ok (.putfield 246, 3) := by decide +kernel
theorem dX11_worth_74 : decode cX11_worth 74 = .ok (.iload_n 2, 1) := by decide +kernel
theorem dX11_worth_75 : decode cX11_worth 75 = .ok (.ireturn, 1) := by decide +kernel
theorem dX11_worth_76 : decode cX11_worth 76 = .ok (.aload_n 0, 1) := by decide +kernel
theorem dX11_worth_77 : decode cX11_worth 77 = .ok (.dup, 1) := by decide +kernel
theorem dX11_worth_78 : decode cX11_worth 78 = .ok (.getfield 246, 3) := by decide +kernel
theorem dX11_worth_81 : decode cX11_worth 81 = .ok (.ldc2_w 250, 3) := by decide +kernel
theorem dX11_worth_84 : decode cX11_worth 84 = .ok (.ladd, 1) := by decide +kernel
theorem dX11_worth_85 : decode cX11_worth 85 = .ok (.putfield 246, 3) := by decide +kernel
theorem dX11_worth_88 : decode cX11_worth 88 = .ok (.iload_n 2, 1) := by decide +kernel
theorem dX11_worth_89 : decode cX11_worth 89 = .ok (.aload_n 0, 1) := by decide +kernel
theorem dX11_worth_90 : decode cX11_worth 90 = .ok (.getfield 32, 3) := by decide +kernel
theorem dX11_worth_93 : decode cX11_worth 93 = .ok (.iconst 5, 1) := by decide +kernel
theorem dX11_worth_94 : decode cX11_worth 94 = .ok (.iaload, 1) := by decide +kernel
theorem dX11_worth_95 : decode cX11_worth 95 = .ok (.iadd, 1) := by decide +kernel
theorem dX11_worth_96 : decode cX11_worth 96 = .ok (.ireturn, 1) := by decide +kernel
theorem dX11_worth_97 : decode cX11_worth 97 = .ok (.aload_n 0, 1) := by decide +kernel
theorem dX11_worth_98 : decode cX11_worth 98 = .ok (.dup, 1) := by decide +kernel
theorem dX11_worth_99 : decode cX11_worth 99 = .ok (.getfield 246, 3) := by decide +kernel
theorem dX11_worth_102 : decode cX11_worth 102 = .ok (.ldc2_w 252, 3) := by decide +kernel
theorem dX11_worth_105 : decode cX11_worth 105 = .ok (.ladd, 1) := by decide +kernel
theorem dX11_worth_106 : decode cX11_worth 106 = .ok (.putfield 246, 3) := by decide +kernel
theorem dX11_worth_109 : decode cX11_worth 109 = .ok (.iload_n 2, 1) := by decide +kernel
theorem dX11_worth_110 : decode cX11_worth 110 = .ok (.iconst 1, 1) := by decide +kernel
theorem dX11_worth_111 : decode cX11_worth 111 = .ok (.isub, 1) := by decide +kernel
theorem dX11_worth_112 : decode cX11_worth 112 = .ok (.ireturn, 1) := by decide +kernel
theorem dX11_worth_113 : decode cX11_worth 113 = .ok (.aload_n 0, 1) := by decide +kernel
theorem dX11_worth_114 : decode cX11_worth 114 = .ok (.dup, 1) := by decide +kernel
theorem dX11_worth_115 : decode cX11_worth 115 = .ok (.getfield 246, 3) := by decide +kernel
theorem dX11_worth_118 : decode cX11_worth 118 = .ok (.ldc2_w 254, 3) := by decide +kernel
theorem dX11_worth_121 : decode cX11_worth 121 = .ok (.ladd, 1) := by decide +kernel
theorem dX11_worth_122 : decode cX11_worth 122 = .ok (.putfield 246, 3) := by decide +kernel
theorem dX11_worth_125 : decode cX11_worth 125 = .ok (.iconst 2, 1) := by decide +kernel
theorem dX11_worth_126 : decode cX11_worth 126 = .ok (.iload_n 2, 1) := by decide +kernel
theorem dX11_worth_127 : decode cX11_worth 127 = .ok (.iconst 1, 1) := by decide +kernel
theorem dX11_worth_128 : decode cX11_worth 128 = .ok (.isub, 1) := by decide +kernel
theorem dX11_worth_129 : decode cX11_worth 129 = .ok (.imul, 1) := by decide +kernel
theorem dX11_worth_130 : decode cX11_worth 130 = .ok (.ireturn, 1) := by decide +kernel
theorem dX11_worth_131 : decode cX11_worth 131 = .ok (.aload_n 0, 1) := by decide +kernel
theorem dX11_worth_132 : decode cX11_worth 132 = .ok (.dup, 1) := by decide +kernel
theorem dX11_worth_133 : decode cX11_worth 133 = .ok (.getfield 246, 3) := by decide +kernel
theorem dX11_worth_136 : decode cX11_worth 136 = .ok (.ldc2_w 256, 3) := by decide +kernel
theorem dX11_worth_139 : decode cX11_worth 139 = .ok (.ladd, 1) := by decide +kernel
theorem dX11_worth_140 : decode cX11_worth 140 = .ok (.putfield 246, 3) := by decide +kernel
theorem dX11_worth_143 : decode cX11_worth 143 = .ok (.iload_n 2, 1) := by decide +kernel
theorem dX11_worth_144 : decode cX11_worth 144 = .ok (.aload_n 0, 1) := by decide +kernel
theorem dX11_worth_145 : decode cX11_worth 145 = .ok (.getfield 32, 3) := by decide +kernel
theorem dX11_worth_148 : decode cX11_worth 148 = .ok (.iconst 5, 1) := by decide +kernel
theorem dX11_worth_149 : decode cX11_worth 149 = .ok (.iaload, 1) := by decide +kernel
theorem dX11_worth_150 : decode cX11_worth 150 = .ok (.iadd, 1) := by decide +kernel
theorem dX11_worth_151 : decode cX11_worth 151 = .ok (.aload_n 0, 1) := by decide +kernel
theorem dX11_worth_152 : decode cX11_worth 152 = .ok (.getfield 32, 3) := by decide +kernel
theorem dX11_worth_155 : decode cX11_worth 155 = .ok (.iconst 3, 1) := by decide +kernel
theorem dX11_worth_156 : decode cX11_worth 156 = .ok (.iaload, 1) := by decide +kernel
theorem dX11_worth_157 : decode cX11_worth 157 = .ok (.iadd, 1) := by decide +kernel
theorem dX11_worth_158 : decode cX11_worth 158 = .ok (.ireturn, 1) := by decide +kernel
theorem dX11_worth_159 : decode cX11_worth 159 = .ok (.aload_n 0, 1) := by decide +kernel
theorem dX11_worth_160 : decode cX11_worth 160 = .ok (.dup, 1) := by decide +kernel
theorem dX11_worth_161 : decode cX11_worth 161 = .ok (.getfield 246, 3) := by decide +kernel
theorem dX11_worth_164 : decode cX11_worth 164 = .ok (.ldc2_w 258, 3) := by decide +kernel
theorem dX11_worth_167 : decode cX11_worth 167 = .ok (.ladd, 1) := by decide +kernel
theorem dX11_worth_168 : decode cX11_worth 168 = .ok (.putfield 246, 3) := by decide +kernel
theorem dX11_worth_171 : decode cX11_worth 171 = .ok (.iload_n 2, 1) := by decide +kernel
theorem dX11_worth_172 : decode cX11_worth 172 = .ok (.aload_n 0, 1) := by decide +kernel
theorem dX11_worth_173 : decode cX11_worth 173 = .ok (.getfield 32, 3) := by decide +kernel
theorem dX11_worth_176 : decode cX11_worth 176 = .ok (.iconst 4, 1) := by decide +kernel
theorem dX11_worth_177 : decode cX11_worth 177 = .ok (.iaload, 1) := by decide +kernel
theorem dX11_worth_178 : decode cX11_worth 178 = .ok (.isub, 1) := by decide +kernel
theorem dX11_worth_179 : decode cX11_worth 179 = .ok (.ireturn, 1) := by decide +kernel
def bX11_worth : ol_SE := es_seq (es_if (ec_or (ec_not (ec_z ol_ne (ei_of (ea_cs fX11_in (ea_i (ei_v 1) (ea_i (ei_c 0) (ea_i (ei_c 5) (ea_0)))))))) (ec_not (ec_z ol_ne (ei_f 11 25 (er_v 0))))) (es_ret (ei_c (-1000000))) es_skip) (es_seq (es_set 2 (ei_of (ea_cs fX11_bitsIn (ea_i (ei_a 100 (er_f 11 26 (er_v 0)) (ei_c 6)) (ea_0))))) (es_sw (ei_v 1) 0 [es_seq (es_uj 11 0 (er_v 0) (ej_c 1)) (es_ret (ei_v 2)), es_seq (es_uj 11 0 (er_v 0) (ej_c 11)) (es_ret (ei_2 ol_add (ei_v 2) (ei_a 100 (er_f 11 26 (er_v 0)) (ei_c 5)))), es_seq (es_uj 11 0 (er_v 0) (ej_c 101)) (es_ret (ei_2 ol_sub (ei_v 2) (ei_c 1))), es_seq (es_uj 11 0 (er_v 0) (ej_c 1101)) (es_ret (ei_2 ol_mul (ei_c 2) (ei_2 ol_sub (ei_v 2) (ei_c 1)))), es_seq (es_uj 11 0 (er_v 0) (ej_c 10011)) (es_ret (ei_2 ol_add (ei_2 ol_add (ei_v 2) (ei_a 100 (er_f 11 26 (er_v 0)) (ei_c 5))) (ei_a 100 (er_f 11 26 (er_v 0)) (ei_c 3))))] (es_seq (es_uj 11 0 (er_v 0) (ej_c 100001)) (es_ret (ei_2 ol_sub (ei_v 2) (ei_a 100 (er_f 11 26 (er_v 0)) (ei_c 4)))))))
def fX11_worth : ol_FE := ol_fe 3 bX11_worth
set_option maxRecDepth 20000 in
theorem imX11_worth (x : ol_X) (K : ol_K) : IM_S x K mX11_worth 0 0 bX11_worth := rs_seq (p2 := 19) (rs_if (pT := 16) (pF := 19) (pE := 19) (rc_or (p2 := 9) (pT := 16) (pF := 19) (rc_not (rc_zF (pF := 16) ol_j1_eq_F (ri_k (rk_s (Mc := mX11_in) (conX11_in _ K) (ra_i (ri_vn dX11_worth_0 rfl) (ra_i (ri_ic dX11_worth_1 (by unfold ol_inR; omega)) (ra_i (ri_ic dX11_worth_2 (by unfold ol_inR; omega)) (ra_0)))) dX11_worth_3 cwX11_63 tw_981 ⟨rfl, rfl, Nat.le_of_ble_eq_true rfl⟩ (by decide) (by decide) (al_i (al_i (al_i al_0)))) (Or.inr (Or.inl rfl))) dX11_worth_6 (by decide))) (rc_not (rc_zT (pT := 19) ol_j1_ne_T (ri_f (rr_vn dX11_worth_9 rfl) gfX11_173 dX11_worth_10) dX11_worth_13 (by decide)))) (rs_ret (ri_ldc dX11_worth_16 (by unfold ol_inR; omega) tw_1086) rfl dX11_worth_18) rs_skip) (rs_seq (p2 := 30) (rs_setn (ri_k (rk_s (Mc := mX11_bitsIn) (conX11_bitsIn _ K) (ra_i (ri_a (rr_f (rr_vn dX11_worth_19 rfl) gfX11_32 dX11_worth_20) (ri_bi dX11_worth_23 (by unfold ol_inR; omega) (by decide)) rfl dX11_worth_25) (ra_0)) dX11_worth_26 cwX11_183 tw_1080 ⟨rfl, rfl, Nat.le_of_ble_eq_true rfl⟩ (by decide) (by decide) (al_i al_0)) (Or.inl rfl)) dX11_worth_29 rfl (ol_ltn rfl)) (rs_sw (pE := 0) (pD := 159) (ri_vn dX11_worth_30 rfl) dX11_worth_31 rfl ⟨⟨_, 64, rfl, by decide, rs_seq (p2 := 74) (rs_uj (rr_vn dX11_worth_64 rfl) dX11_worth_65 dX11_worth_66 (rj_c dX11_worth_69 rfl) dX11_worth_70 gfX11_246 pfX11_246 rfl dX11_worth_71) (rs_ret (ri_vn dX11_worth_74 rfl) rfl dX11_worth_75)⟩, ⟨_, 76, rfl, by decide, rs_seq (p2 := 88) (rs_uj (rr_vn dX11_worth_76 rfl) dX11_worth_77 dX11_worth_78 (rj_ldc dX11_worth_81 tw_1206) dX11_worth_84 gfX11_246 pfX11_246 rfl dX11_worth_85) (rs_ret (ri_2 ol_op_add (ri_vn dX11_worth_88 rfl) (ri_a (rr_f (rr_vn dX11_worth_89 rfl) gfX11_32 dX11_worth_90) (ri_ic dX11_worth_93 (by unfold ol_inR; omega)) rfl dX11_worth_94) dX11_worth_95) rfl dX11_worth_96)⟩, ⟨_, 97, rfl, by decide, rs_seq (p2 := 109) (rs_uj (rr_vn dX11_worth_97 rfl) dX11_worth_98 dX11_worth_99 (rj_ldc dX11_worth_102 tw_1207) dX11_worth_105 gfX11_246 pfX11_246 rfl dX11_worth_106) (rs_ret (ri_2 ol_op_sub (ri_vn dX11_worth_109 rfl) (ri_ic dX11_worth_110 (by unfold ol_inR; omega)) dX11_worth_111) rfl dX11_worth_112)⟩, ⟨_, 113, rfl, by decide, rs_seq (p2 := 125) (rs_uj (rr_vn dX11_worth_113 rfl) dX11_worth_114 dX11_worth_115 (rj_ldc dX11_worth_118 tw_1208) dX11_worth_121 gfX11_246 pfX11_246 rfl dX11_worth_122) (rs_ret (ri_2 ol_op_mul (ri_ic dX11_worth_125 (by unfold ol_inR; omega)) (ri_2 ol_op_sub (ri_vn dX11_worth_126 rfl) (ri_ic dX11_worth_127 (by unfold ol_inR; omega)) dX11_worth_128) dX11_worth_129) rfl dX11_worth_130)⟩, ⟨_, 131, rfl, by decide, rs_seq (p2 := 143) (rs_uj (rr_vn dX11_worth_131 rfl) dX11_worth_132 dX11_worth_133 (rj_ldc dX11_worth_136 tw_1209) dX11_worth_139 gfX11_246 pfX11_246 rfl dX11_worth_140) (rs_ret (ri_2 ol_op_add (ri_2 ol_op_add (ri_vn dX11_worth_143 rfl) (ri_a (rr_f (rr_vn dX11_worth_144 rfl) gfX11_32 dX11_worth_145) (ri_ic dX11_worth_148 (by unfold ol_inR; omega)) rfl dX11_worth_149) dX11_worth_150) (ri_a (rr_f (rr_vn dX11_worth_151 rfl) gfX11_32 dX11_worth_152) (ri_ic dX11_worth_155 (by unfold ol_inR; omega)) rfl dX11_worth_156) dX11_worth_157) rfl dX11_worth_158)⟩, trivial⟩ (by decide) (rs_seq (p2 := 171) (rs_uj (rr_vn dX11_worth_159 rfl) dX11_worth_160 dX11_worth_161 (rj_ldc dX11_worth_164 tw_1210) dX11_worth_167 gfX11_246 pfX11_246 rfl dX11_worth_168) (rs_ret (ri_2 ol_op_sub (ri_vn dX11_worth_171 rfl) (ri_a (rr_f (rr_vn dX11_worth_172 rfl) gfX11_32 dX11_worth_173) (ri_ic dX11_worth_176 (by unfold ol_inR; omega)) rfl dX11_worth_177) dX11_worth_178) rfl dX11_worth_179))))
theorem conX11_worth (l : Launch) (K : ol_K) : ol_Con l K yX11_worth mX11_worth fX11_worth := ol_con (M := mX11_worth) (by decide) rfl rfl (imX11_worth · K)
theorem dX11_keep_0 : decode cX11_keep 0 = .ok (.iload_n 1, 1) := by decide +kernel
theorem dX11_keep_1 : decode cX11_keep 1 = .ok (.iconst 0, 1) := by decide +kernel
theorem dX11_keep_2 : decode cX11_keep 2 = .ok (.iconst 1, 1) := by decide +kernel
theorem dX11_keep_3 : decode cX11_keep 3 = .ok (.invokestatic 63, 3) := by decide +kernel
theorem dX11_keep_6 : decode cX11_keep 6 = .ok (.ifCond .ne 5, 3) := by decide +kernel
theorem dX11_keep_9 : decode cX11_keep 9 = .ok (.iconst (-1), 1) := by decide +kernel
theorem dX11_keep_10 : decode cX11_keep 10 = .ok (.ireturn, 1) := by decide +kernel
theorem dX11_keep_11 : decode cX11_keep 11 = .ok (.aload_n 0, 1) := by decide +kernel
theorem dX11_keep_12 : decode cX11_keep 12 = .ok (.iconst 0, 1) := by decide +kernel
theorem dX11_keep_13 : decode cX11_keep 13 = .ok (.sipush 4680, 3) := by decide +kernel
theorem dX11_keep_16 : decode cX11_keep 16 = .ok (.sipush 780, 3) := by decide +kernel
theorem dX11_keep_19 : decode cX11_keep 19 = .ok (.iload_n 1, 1) := by decide +kernel
theorem dX11_keep_20 : decode cX11_keep 20 = .ok (.imul, 1) := by decide +kernel
theorem dX11_keep_21 : decode cX11_keep 21 = .ok (.iadd, 1) := by decide +kernel
theorem dX11_keep_22 : decode cX11_keep 22 = .ok (.invokevirtual 108, 3) := by decide +kernel
theorem dX11_keep_25 : decode cX11_keep 25 = .ok (.aload_n 0, 1) := by decide +kernel
theorem dX11_keep_26 : decode cX11_keep 26 = .ok (.iconst 0, 1) := by decide +kernel
theorem dX11_keep_27 : decode cX11_keep 27 = .ok (.iconst 2, 1) := by decide +kernel
theorem dX11_keep_28 : decode cX11_keep 28 = .ok (.iload_n 1, 1) := by decide +kernel
theorem dX11_keep_29 : decode cX11_keep 29 = .ok (.iadd, 1) := by decide +kernel
theorem dX11_keep_30 : decode cX11_keep 30 = .ok (.invokevirtual 222, 3) := by decide +kernel
theorem dX11_keep_33 : decode cX11_keep 33 = .ok (.aload_n 0, 1) := by decide +kernel
theorem dX11_keep_34 : decode cX11_keep 34 = .ok (.getfield 47, 3) := by decide +kernel
theorem dX11_keep_37 : decode cX11_keep 37 = .ok (.iload_n 1, 1) := by decide +kernel
theorem dX11_keep_38 : decode cX11_keep 38 = .ok (.aload_n 0, 1) := by decide +kernel
theorem dX11_keep_39 : decode cX11_keep 39 = .ok (.getfield 219, 3) := by decide +kernel
theorem dX11_keep_42 : decode cX11_keep 42 = .ok (.iastore, 1) := by decide +kernel
theorem dX11_keep_43 : decode cX11_keep 43 = .ok (.aload_n 0, 1) := by decide +kernel
theorem dX11_keep_44 : decode cX11_keep 44 = .ok (.getfield 59, 3) := by decide +kernel
theorem dX11_keep_47 : decode cX11_keep 47 = .ok (.iload_n 1, 1) := by decide +kernel
theorem dX11_keep_48 : decode cX11_keep 48 = .ok (.iconst 1, 1) := by decide +kernel
theorem dX11_keep_49 : decode cX11_keep 49 = .ok (.bastore, 1) := by decide +kernel
theorem dX11_keep_50 : decode cX11_keep 50 = .ok (.aload_n 0, 1) := by decide +kernel
theorem dX11_keep_51 : decode cX11_keep 51 = .ok (.invokevirtual 119, 3) := by decide +kernel
theorem dX11_keep_54 : decode cX11_keep 54 = .ok (.ireturn, 1) := by decide +kernel
def bX11_keep : ol_SE := es_seq (es_if (ec_not (ec_z ol_ne (ei_of (ea_cs fX11_in (ea_i (ei_v 1) (ea_i (ei_c 0) (ea_i (ei_c 1) (ea_0)))))))) (es_ret (ei_c (-1))) es_skip) (es_seq (es_of (ea_cv 11 fX11_copy (ea_r (er_v 0) (ea_i (ei_c 0) (ea_i (ei_2 ol_add (ei_c 4680) (ei_2 ol_mul (ei_c 780) (ei_v 1))) (ea_0)))))) (es_seq (es_of (ea_cv 11 fX11_copyThrowers (ea_r (er_v 0) (ea_i (ei_c 0) (ea_i (ei_2 ol_add (ei_c 2) (ei_v 1)) (ea_0)))))) (es_seq (es_as 100 (er_f 11 36 (er_v 0)) (ei_v 1) (ei_f 11 34 (er_v 0))) (es_seq (es_zs 102 (er_f 11 41 (er_v 0)) (ei_v 1) (ei_c 1)) (es_ret (ei_of (ea_cv 11 fX11_allDrops (ea_r (er_v 0) (ea_0)))))))))
def fX11_keep : ol_FE := ol_fe 2 bX11_keep
set_option maxRecDepth 20000 in
theorem imX11_keep (x : ol_X) (K : ol_K) : IM_S x K mX11_keep 0 0 bX11_keep := rs_seq (p2 := 11) (rs_if (pT := 9) (pF := 11) (pE := 11) (rc_not (rc_zT (pT := 11) ol_j1_ne_T (ri_k (rk_s (Mc := mX11_in) (conX11_in _ K) (ra_i (ri_vn dX11_keep_0 rfl) (ra_i (ri_ic dX11_keep_1 (by unfold ol_inR; omega)) (ra_i (ri_ic dX11_keep_2 (by unfold ol_inR; omega)) (ra_0)))) dX11_keep_3 cwX11_63 tw_981 ⟨rfl, rfl, Nat.le_of_ble_eq_true rfl⟩ (by decide) (by decide) (al_i (al_i (al_i al_0)))) (Or.inr (Or.inl rfl))) dX11_keep_6 (by decide))) (rs_ret (ri_ic dX11_keep_9 (by unfold ol_inR; omega)) rfl dX11_keep_10) rs_skip) (rs_seq (p2 := 25) (rs_k (rk_v (Mc := mX11_copy) (conX11_copy _ K) (ra_r (rr_vn dX11_keep_11 rfl) (ra_i (ri_ic dX11_keep_12 (by unfold ol_inR; omega)) (ra_i (ri_2 ol_op_add (ri_si dX11_keep_13 (by unfold ol_inR; omega) (by decide)) (ri_2 ol_op_mul (ri_si dX11_keep_16 (by unfold ol_inR; omega) (by decide)) (ri_vn dX11_keep_19 rfl) dX11_keep_20) dX11_keep_21) (ra_0)))) dX11_keep_22 cwX11_108 tw_1015 tw_30 (by decide) rfl rfl ⟨rfl, rfl, Nat.le_of_ble_eq_true rfl⟩ (by decide) (by decide) (al_r (al_i (al_i al_0))))) (rs_seq (p2 := 33) (rs_k (rk_v (Mc := mX11_copyThrowers) (conX11_copyThrowers _ K) (ra_r (rr_vn dX11_keep_25 rfl) (ra_i (ri_ic dX11_keep_26 (by unfold ol_inR; omega)) (ra_i (ri_2 ol_op_add (ri_ic dX11_keep_27 (by unfold ol_inR; omega)) (ri_vn dX11_keep_28 rfl) dX11_keep_29) (ra_0)))) dX11_keep_30 cwX11_222 tw_1172 tw_48 (by decide) rfl rfl ⟨rfl, rfl, Nat.le_of_ble_eq_true rfl⟩ (by decide) (by decide) (al_r (al_i (al_i al_0))))) (rs_seq (p2 := 43) (rs_as (rr_f (rr_vn dX11_keep_33 rfl) gfX11_47 dX11_keep_34) (ri_vn dX11_keep_37 rfl) (ri_f (rr_vn dX11_keep_38 rfl) gfX11_219 dX11_keep_39) dX11_keep_42) (rs_seq (p2 := 50) (rs_zs (rr_f (rr_vn dX11_keep_43 rfl) gfX11_59 dX11_keep_44) (ri_vn dX11_keep_47 rfl) (ri_ic dX11_keep_48 (by unfold ol_inR; omega)) dX11_keep_49) (rs_ret (ri_k (rk_v (Mc := mX11_allDrops) (conX11_allDrops _ K) (ra_r (rr_vn dX11_keep_50 rfl) (ra_0)) dX11_keep_51 cwX11_119 tw_1027 tw_32 (by decide) rfl rfl ⟨rfl, rfl, Nat.le_of_ble_eq_true rfl⟩ (by decide) (by decide) (al_r al_0)) (Or.inl rfl)) rfl dX11_keep_54)))))
theorem conX11_keep (l : Launch) (K : ol_K) : ol_Con l K yX11_keep mX11_keep fX11_keep := ol_con (M := mX11_keep) (by decide) rfl rfl (imX11_keep · K)
