/-! by program: methods of the JDK -/
theorem dJ3_checkIndex_8e157_0 : decode cJ3_checkIndex_8e157 0 = .ok (.iload_n 0, 1) := by decide +kernel
theorem dJ3_checkIndex_8e157_1 : decode cJ3_checkIndex_8e157 1 = .ok (.ifCond .lt 8, 3) := by decide +kernel
theorem dJ3_checkIndex_8e157_4 : decode cJ3_checkIndex_8e157 4 = .ok (.iload_n 0, 1) := by decide +kernel
theorem dJ3_checkIndex_8e157_5 : decode cJ3_checkIndex_8e157 5 = .ok (.iload_n 1, 1) := by decide +kernel
theorem dJ3_checkIndex_8e157_6 : decode cJ3_checkIndex_8e157 6 = .ok (.if_icmp .lt 10, 3) := by decide +kernel
theorem dJ3_checkIndex_8e157_16 : decode cJ3_checkIndex_8e157 16 = .ok (.iload_n 0, 1) := by decide +kernel
theorem dJ3_checkIndex_8e157_17 : decode cJ3_checkIndex_8e157 17 = .ok (.ireturn, 1) := by decide +kernel
theorem dJ0_checkIndex_df160_0 : decode cJ0_checkIndex_df160 0 = .ok (.iload_n 0, 1) := by decide +kernel
theorem dJ0_checkIndex_df160_1 : decode cJ0_checkIndex_df160 1 = .ok (.iload_n 1, 1) := by decide +kernel
theorem dJ0_checkIndex_df160_2 : decode cJ0_checkIndex_df160 2 = .ok (.getstatic 1053, 3) := by decide +kernel
theorem dJ0_checkIndex_df160_5 : decode cJ0_checkIndex_df160 5 = .ok (.invokestatic 1059, 3) := by decide +kernel
theorem dJ0_checkIndex_df160_8 : decode cJ0_checkIndex_df160 8 = .ok (.pop, 1) := by decide +kernel
theorem dJ0_checkIndex_df160_9 : decode cJ0_checkIndex_df160 9 = .ok (.return_, 1) := by decide +kernel
theorem dJ1_charAt_3b067_0 : decode cJ1_charAt_3b067 0 = .ok (.iload_n 1, 1) := by decide +kernel
theorem dJ1_charAt_3b067_1 : decode cJ1_charAt_3b067 1 = .ok (.aload_n 0, 1) := by decide +kernel
theorem dJ1_charAt_3b067_2 : decode cJ1_charAt_3b067 2 = .ok (.arraylength, 1) := by decide +kernel
theorem dJ1_charAt_3b067_3 : decode cJ1_charAt_3b067 3 = .ok (.invokestatic 9, 3) := by decide +kernel
theorem dJ1_charAt_3b067_6 : decode cJ1_charAt_3b067 6 = .ok (.aload_n 0, 1) := by decide +kernel
theorem dJ1_charAt_3b067_7 : decode cJ1_charAt_3b067 7 = .ok (.iload_n 1, 1) := by decide +kernel
theorem dJ1_charAt_3b067_8 : decode cJ1_charAt_3b067 8 = .ok (.baload, 1) := by decide +kernel
theorem dJ1_charAt_3b067_9 : decode cJ1_charAt_3b067 9 = .ok (.sipush 255, 3) := by decide +kernel
theorem dJ1_charAt_3b067_12 : decode cJ1_charAt_3b067 12 = .ok (.iand, 1) := by decide +kernel
theorem dJ1_charAt_3b067_13 : decode cJ1_charAt_3b067 13 = .ok (.i2c, 1) := by decide +kernel
theorem dJ1_charAt_3b067_14 : decode cJ1_charAt_3b067 14 = .ok (.ireturn, 1) := by decide +kernel
theorem dJ0_isLatin1_aae02_0 : decode cJ0_isLatin1_aae02 0 = .ok (.getstatic 38, 3) := by decide +kernel
theorem dJ0_isLatin1_aae02_3 : decode cJ0_isLatin1_aae02 3 = .ok (.ifCond .eq 14, 3) := by decide +kernel
theorem dJ0_isLatin1_aae02_6 : decode cJ0_isLatin1_aae02 6 = .ok (.aload_n 0, 1) := by decide +kernel
theorem dJ0_isLatin1_aae02_7 : decode cJ0_isLatin1_aae02 7 = .ok (.getfield 15, 3) := by decide +kernel
theorem dJ0_isLatin1_aae02_10 : decode cJ0_isLatin1_aae02 10 = .ok (.ifCond .ne 7, 3) := by decide +kernel
theorem dJ0_isLatin1_aae02_13 : decode cJ0_isLatin1_aae02 13 = .ok (.iconst 1, 1) := by decide +kernel
theorem dJ0_isLatin1_aae02_14 : decode cJ0_isLatin1_aae02 14 = .ok (.goto 4, 3) := by decide +kernel
theorem dJ0_isLatin1_aae02_17 : decode cJ0_isLatin1_aae02 17 = .ok (.iconst 0, 1) := by decide +kernel
theorem dJ0_isLatin1_aae02_18 : decode cJ0_isLatin1_aae02 18 = .ok (.ireturn, 1) := by decide +kernel
theorem dJ0_coder_7d493_0 : decode cJ0_coder_7d493 0 = .ok (.getstatic 38, 3) := by decide +kernel
theorem dJ0_coder_7d493_3 : decode cJ0_coder_7d493 3 = .ok (.ifCond .eq 10, 3) := by decide +kernel
theorem dJ0_coder_7d493_6 : decode cJ0_coder_7d493 6 = .ok (.aload_n 0, 1) := by decide +kernel
theorem dJ0_coder_7d493_7 : decode cJ0_coder_7d493 7 = .ok (.getfield 15, 3) := by decide +kernel
theorem dJ0_coder_7d493_10 : decode cJ0_coder_7d493 10 = .ok (.goto 4, 3) := by decide +kernel
theorem dJ0_coder_7d493_13 : decode cJ0_coder_7d493 13 = .ok (.iconst 1, 1) := by decide +kernel
theorem dJ0_coder_7d493_14 : decode cJ0_coder_7d493 14 = .ok (.ireturn, 1) := by decide +kernel
theorem dJ0_length_8abf5_5 : decode cJ0_length_8abf5 5 = .ok (.aload_n 0, 1) := by decide +kernel
theorem dJ0_length_8abf5_6 : decode cJ0_length_8abf5 6 = .ok (.invokevirtual 335, 3) := by decide +kernel
theorem dJ0_length_8abf5_0 : decode cJ0_length_8abf5 0 = .ok (.aload_n 0, 1) := by decide +kernel
theorem dJ0_length_8abf5_1 : decode cJ0_length_8abf5 1 = .ok (.getfield 9, 3) := by decide +kernel
theorem dJ0_length_8abf5_4 : decode cJ0_length_8abf5 4 = .ok (.arraylength, 1) := by decide +kernel
theorem dJ0_length_8abf5_9 : decode cJ0_length_8abf5 9 = .ok (.ishr, 1) := by decide +kernel
theorem dJ0_length_8abf5_10 : decode cJ0_length_8abf5 10 = .ok (.ireturn, 1) := by decide +kernel
theorem dJ0_charAt_5068e_0 : decode cJ0_charAt_5068e 0 = .ok (.aload_n 0, 1) := by decide +kernel
theorem dJ0_charAt_5068e_1 : decode cJ0_charAt_5068e 1 = .ok (.invokevirtual 492, 3) := by decide +kernel
theorem dJ0_charAt_5068e_7 : decode cJ0_charAt_5068e 7 = .ok (.aload_n 0, 1) := by decide +kernel
theorem dJ0_charAt_5068e_8 : decode cJ0_charAt_5068e 8 = .ok (.getfield 9, 3) := by decide +kernel
theorem dJ0_charAt_5068e_11 : decode cJ0_charAt_5068e 11 = .ok (.iload_n 1, 1) := by decide +kernel
theorem dJ0_charAt_5068e_12 : decode cJ0_charAt_5068e 12 = .ok (.invokestatic 495, 3) := by decide +kernel
theorem dJ0_charAt_5068e_4 : decode cJ0_charAt_5068e 4 = .ok (.ifCond .eq 12, 3) := by decide +kernel
theorem dJ0_charAt_5068e_15 : decode cJ0_charAt_5068e 15 = .ok (.ireturn, 1) := by decide +kernel
def bJ3_checkIndex_8e157 : ol_SE := es_seq (es_if (ec_or (ec_z ol_lt (ei_v 0)) (ec_2 ol_ge (ei_v 0) (ei_v 1))) es_no es_skip) (es_ret (ei_v 0))
def fJ3_checkIndex_8e157 : ol_FE := ol_fe 3 bJ3_checkIndex_8e157
theorem imJ3_checkIndex_8e157 (x : ol_X) (K : ol_K) : IM_S x K mJ3_checkIndex_8e157 0 0 bJ3_checkIndex_8e157 := rs_seq (p2 := 16) (rs_if (pT := 9) (pF := 16) (pE := 16) (rc_or (p2 := 4) (pT := 9) (pF := 16) (rc_zT (pT := 9) ol_j1_lt_T (ri_vn dJ3_checkIndex_8e157_0 rfl) dJ3_checkIndex_8e157_1 (by decide)) (rc_2F (pF := 16) ol_j2_lt_F (ri_vn dJ3_checkIndex_8e157_4 rfl) (ri_vn dJ3_checkIndex_8e157_5 rfl) dJ3_checkIndex_8e157_6 (by decide))) rs_no rs_skip) (rs_ret (ri_vn dJ3_checkIndex_8e157_16 rfl) rfl dJ3_checkIndex_8e157_17)
theorem conJ3_checkIndex_8e157 (l : Launch) (K : ol_K) : ol_Con l K yJ3_checkIndex_8e157 mJ3_checkIndex_8e157 fJ3_checkIndex_8e157 := ol_con (M := mJ3_checkIndex_8e157) (by decide) rfl rfl (imJ3_checkIndex_8e157 · K)
def es_ck : ol_SE := fun L h => (ol_int L[0]?).bind fun i => (ol_int L[1]?).bind fun n => if 0 ≤ i ∧ i < n then some (none, L, h) else none
def ea_w (v : ol_V) : ol_AE := fun _ h => some ([v], h)
theorem ra_w {x : ol_X} {K : ol_K} {M : ol_M} {d p index : Nat} {v : ol_V} (hv : ol_rv v) (hZ : ol_Ok x K M → va_Z "jdk/internal/util/Preconditions" "SIOOBE_FORMATTER" "Ljava/util/function/BiFunction;" (ol_tv K v) (ol_A K) (xs x) (xs x).heap) (hd : decode M.1 p = .ok (.getstatic index, 3)) (hw : Cond.fieldLink M.2.1 index "jdk/internal/util/Preconditions" "SIOOBE_FORMATTER" "Ljava/util/function/BiFunction;" ∈ ol_tb) : IM_A x K M d p (p + 3) (ea_w v) := by
  intro ok L h stk vs h' hcs hf kk hb H locs ls hW hS hL
  cases hf
  have := kk (fun w hw => by rw [List.mem_singleton.mp hw]; exact hv) hb H locs ls hW hS hL
  exact va_gets ok.1 ok.2.1 (hZ ok) hS ok.2.2.1 (ok.2.2.2.1 _ hw) (fun _ q => q) hd this
theorem ol_pre_run {i n : Int} (hi : 0 ≤ i ∧ i < n) (v : ol_V) (hv : v = .inr (.inl none) ∨ v = .inr (.inl (some 1000007))) (h : ol_H) : ol_cal fJ3_checkIndex_8e157 [.inl i, .inl n, v] h = some (some (.inl i), h) := by
  have h1 : ¬ i < 0 := by omega
  have h2 : ¬ n ≤ i := by omega
  rcases hv with rfl | rfl <;> simp [ol_cal, fJ3_checkIndex_8e157, ol_fe, ol_exp, ol_ent, bJ3_checkIndex_8e157, es_seq, es_if, ec_or, ec_z, ec_2, ei_v, ol_int, ol_lt, ol_ge, h1, h2, es_skip, es_ret]
theorem rs_ck {x : ol_X} {K : ol_K} {M : ol_M} {i1 i2 : Nat} (d0 : decode M.1 0 = .ok (.iload_n 0, 1)) (d1 : decode M.1 1 = .ok (.iload_n 1, 1)) (d2 : decode M.1 2 = .ok (.getstatic i1, 3)) (hw : Cond.fieldLink M.2.1 i1 "jdk/internal/util/Preconditions" "SIOOBE_FORMATTER" "Ljava/util/function/BiFunction;" ∈ ol_tb) (d5 : decode M.1 5 = .ok (.invokestatic i2, 3)) (hcw : ol_cw M.2.1 i2 yJ3_checkIndex_8e157 mJ3_checkIndex_8e157 3) (hst : Cond.static yJ3_checkIndex_8e157 ∈ ol_tb) (d8 : decode M.1 8 = .ok (.pop, 1)) (hlv : ml mJ3_checkIndex_8e157 < ml M := by decide) : IM_S x K M 0 9 es_ck := by
  intro ok L h c L' h' hf kn kr
  simp only [es_ck, Option.bind_eq_some_iff] at hf
  obtain ⟨i, e1, n, e2, e3⟩ := hf
  split at e3
  case isFalse => cases e3
  rename_i hi
  cases e3
  have key : ∀ v : ol_V, (v = .inr (.inl none) ∨ v = .inr (.inl (some 1000007))) → va_Z "jdk/internal/util/Preconditions" "SIOOBE_FORMATTER" "Ljava/util/function/BiFunction;" (ol_tv K v) (ol_A K) (xs x) (xs x).heap → ol_WW x K 0 L h [] := by
    intro v hv hZ
    have hrv : ol_rv v := by rcases hv with rfl | rfl <;> exact trivial
    have al : ol_al (ea_i (ei_v 0) (ea_i (ei_v 1) (ea_w v))) 3 := al_i (al_i (fun L h vs h' e => by cases e; rfl))
    have hk : IM_K x K M 0 0 8 (some .int) (ea_cs fJ3_checkIndex_8e157 (ea_i (ei_v 0) (ea_i (ei_v 1) (ea_w v)))) := rk_s (Mc := mJ3_checkIndex_8e157) (conJ3_checkIndex_8e157 _ K) (ra_i (ri_vn d0 rfl) (ra_i (ri_vn d1 rfl) (ra_w hrv (fun _ => hZ) d2 hw))) d5 hcw hst ⟨rfl, rfl, Nat.le_of_ble_eq_true rfl⟩ hlv (by decide) al
    refine rs_kp hk d8 ok L h none L h ?_ kn kr
    have hr := ol_pre_run hi v hv h
    simp [es_of, ea_cs, ea_i, ei_v, ea_w, e1, e2, hr]
  rcases ok.2.2.2.2.2.1.2.2.2 with hZ | hZ
  · exact key (.inr (.inl none)) (Or.inl rfl) hZ
  · refine key (.inr (.inl (some 1000007))) (Or.inr rfl) ?_
    rw [show ol_tv K (.inr (.inl (some 1000007))) = .ref (K.2.2.2 7) from congrArg Value.ref (ol_adx (i := 7) rfl)]
    exact hZ

def bJ0_checkIndex_df160 : ol_SE := es_seq es_ck es_retv
def fJ0_checkIndex_df160 : ol_FE := ol_fe 2 bJ0_checkIndex_df160
theorem imJ0_checkIndex_df160 (x : ol_X) (K : ol_K) : IM_S x K mJ0_checkIndex_df160 0 0 bJ0_checkIndex_df160 := rs_seq (p2 := 9) (rs_ck dJ0_checkIndex_df160_0 dJ0_checkIndex_df160_1 dJ0_checkIndex_df160_2 tw_470 dJ0_checkIndex_df160_5 cwJ0_1059 tw_473 dJ0_checkIndex_df160_8) (rs_retv rfl dJ0_checkIndex_df160_9)
theorem conJ0_checkIndex_df160 (l : Launch) (K : ol_K) : ol_Con l K yJ0_checkIndex_df160 mJ0_checkIndex_df160 fJ0_checkIndex_df160 := ol_con (M := mJ0_checkIndex_df160) (by decide) rfl rfl (imJ0_checkIndex_df160 · K)
def bJ0_isLatin1_aae02 : ol_SE := es_retz (ei_if (ec_and (ec_z ol_ne ei_cs) (ec_z ol_eq (ei_sc (er_v 0)))) (ei_c 1) (ei_c 0))
def fJ0_isLatin1_aae02 : ol_FE := ol_fe 1 bJ0_isLatin1_aae02
theorem imJ0_isLatin1_aae02 (x : ol_X) (K : ol_K) : IM_S x K mJ0_isLatin1_aae02 0 0 bJ0_isLatin1_aae02 := rs_retz (ri_if (pT := 13) (pF := 17) (p3 := 18) (rc_and (p2 := 6) (pT := 13) (pF := 17) (rc_zF (pF := 17) ol_j1_eq_F (ri_cs dJ0_isLatin1_aae02_0 tw_454) dJ0_isLatin1_aae02_3 (by decide)) (rc_zF (pF := 17) ol_j1_ne_F (ri_sc (rr_vn dJ0_isLatin1_aae02_6 rfl) dJ0_isLatin1_aae02_7 tw_1229) dJ0_isLatin1_aae02_10 (by decide))) (ri_ic dJ0_isLatin1_aae02_13 (by unfold ol_inR; omega)) dJ0_isLatin1_aae02_14 (by decide) (ri_ic dJ0_isLatin1_aae02_17 (by unfold ol_inR; omega))) rfl dJ0_isLatin1_aae02_18
theorem conJ0_isLatin1_aae02 (l : Launch) (K : ol_K) : ol_Con l K yJ0_isLatin1_aae02 mJ0_isLatin1_aae02 fJ0_isLatin1_aae02 := ol_con (M := mJ0_isLatin1_aae02) (by decide) rfl rfl (imJ0_isLatin1_aae02 · K)
def bJ0_coder_7d493 : ol_SE := es_rtb (ei_if (ec_z ol_ne ei_cs) (ei_sc (er_v 0)) (ei_c 1))
def fJ0_coder_7d493 : ol_FE := ol_fe 1 bJ0_coder_7d493
theorem imJ0_coder_7d493 (x : ol_X) (K : ol_K) : IM_S x K mJ0_coder_7d493 0 0 bJ0_coder_7d493 := rs_rtb (ri_if (pT := 6) (pF := 13) (p3 := 14) (rc_zF (pF := 13) ol_j1_eq_F (ri_cs dJ0_coder_7d493_0 tw_454) dJ0_coder_7d493_3 (by decide)) (ri_sc (rr_vn dJ0_coder_7d493_6 rfl) dJ0_coder_7d493_7 tw_1229) dJ0_coder_7d493_10 (by decide) (ri_ic dJ0_coder_7d493_13 (by unfold ol_inR; omega))) rfl dJ0_coder_7d493_14
theorem conJ0_coder_7d493 (l : Launch) (K : ol_K) : ol_Con l K yJ0_coder_7d493 mJ0_coder_7d493 fJ0_coder_7d493 := ol_con (M := mJ0_coder_7d493) (by decide) rfl rfl (imJ0_coder_7d493 · K)
def bJ1_charAt_3b067 : ol_SE := es_seq (es_of (ea_cs fJ0_checkIndex_df160 (ea_i (ei_v 1) (ea_i (ei_xl (er_v 0)) ea_0)))) (es_rtc (ei_ch (ei_2 ol_and (ei_xa (er_v 0) (ei_v 1)) (ei_c 255))))
def fJ1_charAt_3b067 : ol_FE := ol_fe 2 bJ1_charAt_3b067
theorem imJ1_charAt_3b067 (x : ol_X) (K : ol_K) : IM_S x K mJ1_charAt_3b067 0 0 bJ1_charAt_3b067 := rs_seq (p2 := 6) (rs_k (rk_s (Mc := mJ0_checkIndex_df160) (conJ0_checkIndex_df160 _ K) (ra_i (ri_vn dJ1_charAt_3b067_0 rfl) (ra_i (ri_xl (rr_vn dJ1_charAt_3b067_1 rfl) dJ1_charAt_3b067_2) ra_0)) dJ1_charAt_3b067_3 cwJ1_9 tw_468 ⟨rfl, rfl, Nat.le_of_ble_eq_true rfl⟩ (by decide) (by decide) (al_i (al_i al_0)))) (rs_rtc (ri_ch (ri_2 ol_op_and (ri_xa (rr_vn dJ1_charAt_3b067_6 rfl) (ri_vn dJ1_charAt_3b067_7 rfl) dJ1_charAt_3b067_8) (ri_si dJ1_charAt_3b067_9 (by unfold ol_inR; omega) (by decide)) dJ1_charAt_3b067_12) dJ1_charAt_3b067_13) rfl dJ1_charAt_3b067_14)
theorem conJ1_charAt_3b067 (l : Launch) (K : ol_K) : ol_Con l K yJ1_charAt_3b067 mJ1_charAt_3b067 fJ1_charAt_3b067 := ol_con (M := mJ1_charAt_3b067) (by decide) rfl rfl (imJ1_charAt_3b067 · K)
def bJ0_length_8abf5 : ol_SE := es_ret (ei_2 ol_shr (ei_xl (er_sv (er_v 0))) (ei_of (ea_cx fJ0_coder_7d493 (ea_r (er_v 0) ea_0))))
def fJ0_length_8abf5 : ol_FE := ol_fe 1 bJ0_length_8abf5
theorem imJ0_length_8abf5 (x : ol_X) (K : ol_K) : IM_S x K mJ0_length_8abf5 0 0 bJ0_length_8abf5 := rs_ret (ri_2 ol_op_shr (ri_xl (rr_sv (rr_vn dJ0_length_8abf5_0 rfl) dJ0_length_8abf5_1 tw_1228) dJ0_length_8abf5_4) (ri_k (rk_x (Mc := mJ0_coder_7d493) (conJ0_coder_7d493 _ K) (ra_r (rr_vn dJ0_length_8abf5_5 rfl) ra_0) dJ0_length_8abf5_6 cwJ0_335 tw_451 tw_452 rfl ⟨rfl, rfl, Nat.le_of_ble_eq_true rfl⟩ (by decide) (by decide) (al_r al_0)) (by decide)) dJ0_length_8abf5_9) rfl dJ0_length_8abf5_10
theorem conJ0_length_8abf5 (l : Launch) (K : ol_K) : ol_Con l K yJ0_length_8abf5 mJ0_length_8abf5 fJ0_length_8abf5 := ol_con (M := mJ0_length_8abf5) (by decide) rfl rfl (imJ0_length_8abf5 · K)
def bJ0_charAt_5068e : ol_SE := es_if (ec_z ol_ne (ei_of (ea_cx fJ0_isLatin1_aae02 (ea_r (er_v 0) ea_0)))) (es_rtc (ei_of (ea_cs fJ1_charAt_3b067 (ea_r (er_sv (er_v 0)) (ea_i (ei_v 1) ea_0))))) es_no
def fJ0_charAt_5068e : ol_FE := ol_fe 2 bJ0_charAt_5068e
theorem imJ0_charAt_5068e (x : ol_X) (K : ol_K) : IM_S x K mJ0_charAt_5068e 0 0 bJ0_charAt_5068e := rs_if (pT := 7) (pF := 16) (pE := 0) (rc_zF (pF := 16) ol_j1_eq_F (ri_k (rk_x (Mc := mJ0_isLatin1_aae02) (conJ0_isLatin1_aae02 _ K) (ra_r (rr_vn dJ0_charAt_5068e_0 rfl) ra_0) dJ0_charAt_5068e_1 cwJ0_492 tw_461 tw_462 rfl ⟨rfl, rfl, Nat.le_of_ble_eq_true rfl⟩ (by decide) (by decide) (al_r al_0)) (by decide)) dJ0_charAt_5068e_4 (by decide)) (rs_rtc (ri_k (rk_s (Mc := mJ1_charAt_3b067) (conJ1_charAt_3b067 _ K) (ra_r (rr_sv (rr_vn dJ0_charAt_5068e_7 rfl) dJ0_charAt_5068e_8 tw_1228) (ra_i (ri_vn dJ0_charAt_5068e_11 rfl) ra_0)) dJ0_charAt_5068e_12 cwJ0_495 tw_465 ⟨rfl, rfl, Nat.le_of_ble_eq_true rfl⟩ (by decide) (by decide) (al_r (al_i al_0))) (by decide)) rfl dJ0_charAt_5068e_15) rs_no
theorem conJ0_charAt_5068e (l : Launch) (K : ol_K) : ol_Con l K yJ0_charAt_5068e mJ0_charAt_5068e fJ0_charAt_5068e := ol_con (M := mJ0_charAt_5068e) (by decide) rfl rfl (imJ0_charAt_5068e · K)
