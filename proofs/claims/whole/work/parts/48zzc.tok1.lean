/-! tokens: what the document says -/
/-- e is where a run of p ends, from a on -/
def isE (p : Int → Prop) (B : Nat → Int) (l a e : Nat) : Prop := a ≤ e ∧ e ≤ l ∧ (∀ i, a ≤ i → i < e → p (B i)) ∧ (e = l ∨ ¬ p (B e))
set_option maxHeartbeats 200000 in
theorem isE_ex (p : Int → Prop) (B : Nat → Int) (l a : Nat) (h : a ≤ l) : ∃ e, isE p B l a e := by
  obtain ⟨d, hd⟩ : ∃ d, l = a + d := ⟨l - a, by omega⟩
  clear h
  induction d generalizing a with
  | zero => exact ⟨a, Nat.le_refl _, by omega, fun i h1 h2 => by omega, Or.inl (by omega)⟩
  | succ d ih =>
    rcases Classical.em (p (B a)) with c | c
    · obtain ⟨e, e1, e2, e3, e4⟩ := ih (a + 1) (by omega)
      refine ⟨e, by omega, e2, fun i h1 h2 => ?_, e4⟩
      by_cases hi : i = a
      · subst hi; exact c
      · exact e3 i (by omega) h2
    · exact ⟨a, Nat.le_refl _, by omega, fun i h1 h2 => by omega, Or.inr c⟩
def chF (c : Int) : Prop := 48 ≤ c ∧ c ≤ 57
def chL (c : Int) : Prop := 97 ≤ c ∧ c ≤ 122
def wLay (B : Nat → Int) (s e : Nat) : Prop := e = s + 3 ∧ B s = 108 ∧ B (s + 1) = 97 ∧ B (s + 2) = 121
def wStrip (B : Nat → Int) (s e : Nat) : Prop := e = s + 5 ∧ B s = 115 ∧ B (s + 1) = 116 ∧ B (s + 2) = 114 ∧ B (s + 3) = 105 ∧ B (s + 4) = 112
/-- the token from a on: where it starts, its sort, its value if it is a number, where it ends if it is a right one -/
def tok (B : Nat → Int) (l a s : Nat) (o v : Int) (e : Nat) : Prop := isE (fun c => c = 32) B l a s ∧ ((s = l ∧ o = 0) ∨ (s < l ∧ B s = 59 ∧ o = 4 ∧ e = s + 1) ∨ (s < l ∧ chF (B s) ∧ isE chF B l s e ∧ ((o = 5 ∧ (e > s + 2 ∨ (e = s + 2 ∧ B s = 48))) ∨ (o = 3 ∧ e = s + 1 ∧ v = B s - 48) ∨ (o = 3 ∧ e = s + 2 ∧ ¬ B s = 48 ∧ v = (B s - 48) * 10 + B (s + 1) - 48))) ∨ (s < l ∧ chL (B s) ∧ isE chL B l s e ∧ ((o = 1 ∧ wLay B s e) ∨ (o = 2 ∧ wStrip B s e) ∨ (o = 5 ∧ ¬ wLay B s e ∧ ¬ wStrip B s e))) ∨ (s < l ∧ ¬ B s = 59 ∧ ¬ chF (B s) ∧ ¬ chL (B s) ∧ o = 5))
set_option maxHeartbeats 200000 in
theorem tok_ex (B : Nat → Int) (l a : Nat) (h : a ≤ l) : ∃ s o v e, tok B l a s o v e := by
  obtain ⟨s, hs⟩ := isE_ex (fun c => c = 32) B l a h
  have h2 := hs.2.1
  by_cases c0 : s = l
  · exact ⟨s, 0, 0, 0, hs, Or.inl ⟨c0, rfl⟩⟩
  · have hl : s < l := by omega
    by_cases c1 : B s = 59
    · exact ⟨s, 4, 0, s + 1, hs, Or.inr (Or.inl ⟨hl, c1, rfl, rfl⟩)⟩
    · rcases Classical.em (chF (B s)) with c2 | c2
      · obtain ⟨e, he⟩ := isE_ex chF B l s h2
        have hse : s < e := by
          have h1 := he.1
          rcases he.2.2.2 with q | q
          · omega
          · by_cases q2 : e = s
            · subst q2; exact absurd c2 q
            · omega
        by_cases c3 : e > s + 2 ∨ (e = s + 2 ∧ B s = 48)
        · exact ⟨s, 5, 0, e, hs, Or.inr (Or.inr (Or.inl ⟨hl, c2, he, Or.inl ⟨rfl, c3⟩⟩))⟩
        · by_cases c4 : e = s + 1
          · exact ⟨s, 3, B s - 48, e, hs, Or.inr (Or.inr (Or.inl ⟨hl, c2, he, Or.inr (Or.inl ⟨rfl, c4, rfl⟩)⟩))⟩
          · exact ⟨s, 3, (B s - 48) * 10 + B (s + 1) - 48, e, hs, Or.inr (Or.inr (Or.inl ⟨hl, c2, he, Or.inr (Or.inr ⟨rfl, by omega, fun q => c3 (Or.inr ⟨by omega, q⟩), rfl⟩)⟩))⟩
      · rcases Classical.em (chL (B s)) with c3 | c3
        · obtain ⟨e, he⟩ := isE_ex chL B l s h2
          rcases Classical.em (wLay B s e) with c4 | c4
          · exact ⟨s, 1, 0, e, hs, Or.inr (Or.inr (Or.inr (Or.inl ⟨hl, c3, he, Or.inl ⟨rfl, c4⟩⟩)))⟩
          · rcases Classical.em (wStrip B s e) with c5 | c5
            · exact ⟨s, 2, 0, e, hs, Or.inr (Or.inr (Or.inr (Or.inl ⟨hl, c3, he, Or.inr (Or.inl ⟨rfl, c5⟩)⟩)))⟩
            · exact ⟨s, 5, 0, e, hs, Or.inr (Or.inr (Or.inr (Or.inl ⟨hl, c3, he, Or.inr (Or.inr ⟨rfl, c4, c5⟩)⟩)))⟩
        · exact ⟨s, 5, 0, 0, hs, Or.inr (Or.inr (Or.inr (Or.inr ⟨hl, c1, c2, c3, rfl⟩)))⟩
/-! words -/
set_option maxHeartbeats 200000 in
theorem cx_S {S : Nat} (hS : S = 1000003 ∨ S = 1000004) {f : ol_FE} {a : ol_AE} {L : ol_L} {h h' : ol_H} {as : List ol_V} (e : a L h = some (.inr (.inl (some S)) :: as, h')) : ea_cx f a L h = ol_cal f (.inr (.inl (some S)) :: as) h' := by
  unfold ea_cx
  rw [e]
  exact if_pos (by rcases hS with rfl | rfl; exact Or.inl rfl; exact Or.inr rfl)
set_option maxHeartbeats 200000 in
theorem sv_S {S : Nat} (hS : S = 1000003 ∨ S = 1000004) {r : ol_RE} {L : ol_L} {h h' : ol_H} (e : r L h = some (S, h')) : er_sv r L h = some (S + 2, h') := by
  unfold er_sv
  rw [e]
  exact if_pos hS
set_option maxHeartbeats 200000 in
theorem sc_S {S : Nat} (hS : S = 1000003 ∨ S = 1000004) {r : ol_RE} {L : ol_L} {h h' : ol_H} (e : r L h = some (S, h')) : ei_sc r L h = some (0, h') := by
  unfold ei_sc
  rw [e]
  exact if_pos hS
set_option maxHeartbeats 200000 in
theorem xl_S {V : Nat} (hV : V = 1000005 ∨ V = 1000006) {r : ol_RE} {L : ol_L} {h h' : ol_H} (e : r L h = some (V, h')) : ei_xl r L h = some ((ol_len (V - 1000005) : Int), h') := by
  unfold ei_xl
  rw [e]
  exact if_pos hV
set_option maxHeartbeats 200000 in
theorem xa_S {V : Nat} (hV : V = 1000005 ∨ V = 1000006) {r : ol_RE} {i : ol_IE} {L : ol_L} {h h' h'' : ol_H} {k n : Nat} {ch : Int} (hn : ol_len (V - 1000005) = n) (hc : ol_bt (V - 1000005) k = ch) (e : r L h = some (V, h')) (e2 : i L h' = some ((k : Int), h'')) (h1 : k < n) : ei_xa r i L h = some (ch, h'') := by
  subst hn hc
  unfold ei_xa
  rw [e]
  simp only [Option.bind_some]
  rw [e2]
  exact if_pos ⟨hV, Int.natCast_nonneg k, Int.ofNat_lt.mpr h1⟩
set_option maxHeartbeats 200000 in
theorem cod_S {S : Nat} (hS : S = 1000003 ∨ S = 1000004) {c : List ol_C} : fJ0_coder_7d493 [.inr (.inl (some S))] (c, 0, 0) = some (some (.inl 0), (c, 0, 0)) := by
  have e := sc_S hS (r := er_v 0) (L := [.inr (.inl (some S))]) (h := (c, 0, 0)) (h' := (c, 0, 0)) rfl
  simp [fJ0_coder_7d493, bJ0_coder_7d493, ol_fe, ol_exp, ol_ent, es_seq, es_if, es_ret, es_retz, es_retv, es_rtc, es_rtb, es_of, ei_c, ei_v, er_v, ei_2, ei_if, ec_2, ec_z, ec_and, ei_of, ea_0, ea_i, ea_r, ea_cs, ol_cal, ol_int, ol_ref, ol_lset, ol_eq, ol_ne, ei_cs, ei_ch, e]
set_option maxHeartbeats 200000 in
theorem lat_S {S : Nat} (hS : S = 1000003 ∨ S = 1000004) {c : List ol_C} : fJ0_isLatin1_aae02 [.inr (.inl (some S))] (c, 0, 0) = some (some (.inl 1), (c, 0, 0)) := by
  have e := sc_S hS (r := er_v 0) (L := [.inr (.inl (some S))]) (h := (c, 0, 0)) (h' := (c, 0, 0)) rfl
  simp [fJ0_isLatin1_aae02, bJ0_isLatin1_aae02, ol_fe, ol_exp, ol_ent, es_seq, es_if, es_ret, es_retz, es_retv, es_rtc, es_rtb, es_of, ei_c, ei_v, er_v, ei_2, ei_if, ec_2, ec_z, ec_and, ei_of, ea_0, ea_i, ea_r, ea_cs, ol_cal, ol_int, ol_ref, ol_lset, ol_eq, ol_ne, ei_cs, ei_ch, e]
set_option maxHeartbeats 200000 in
theorem shr0 : ∀ n : Nat, n < 6 → ol_shr (n : Int) 0 = some (n : Int) := by decide
set_option maxHeartbeats 200000 in
theorem len_S {S : Nat} (hS : S = 1000003 ∨ S = 1000004) {c : List ol_C} : fJ0_length_8abf5 [.inr (.inl (some S))] (c, 0, 0) = some (some (.inl (ol_len (S - 1000003) : Int)), (c, 0, 0)) := by
  have e := sv_S hS (r := er_v 0) (L := [.inr (.inl (some S))]) (h := (c, 0, 0)) (h' := (c, 0, 0)) rfl
  have e1 := xl_S (V := S + 2) (by omega) e
  have e2 := cx_S hS (f := fJ0_coder_7d493) (a := ea_r (er_v 0) ea_0) (L := [.inr (.inl (some S))]) (h := (c, 0, 0)) (h' := (c, 0, 0)) (as := []) rfl
  have e3 : S + 2 - 1000005 = S - 1000003 := by omega
  have e4 := shr0 (ol_len (S - 1000003)) (by rcases hS with rfl | rfl <;> decide)
  rw [e3] at e1
  generalize ol_len (S - 1000003) = n at *
  have e5 := cod_S hS (c := c)
  simp only [ol_cal, e5] at e2
  unfold fJ0_length_8abf5 bJ0_length_8abf5
  simp [ol_fe, ol_exp, ol_ent, es_seq, es_if, es_ret, es_retz, es_retv, es_rtc, es_rtb, es_of, ei_c, ei_v, er_v, ei_2, ei_if, ec_2, ec_z, ec_and, ei_of, ea_0, ea_i, ea_r, ea_cs, ol_cal, ol_int, ol_ref, ol_lset, ol_eq, ol_ne, ei_cs, ei_ch, e1, e2, e4]
set_option maxHeartbeats 200000 in
theorem len_v {S : Nat} (hS : S = 1000003 ∨ S = 1000004) {a x : ol_V} {c : List ol_C} : ea_cx fJ0_length_8abf5 (ea_r (er_v 1) ea_0) [a, .inr (.inl (some S)), x] (c, 0, 0) = some (some (.inl (ol_len (S - 1000003) : Int)), (c, 0, 0)) := by
  have e2 := cx_S hS (f := fJ0_length_8abf5) (a := ea_r (er_v 1) ea_0) (L := [a, .inr (.inl (some S)), x]) (h := (c, 0, 0)) (h' := (c, 0, 0)) (as := []) rfl
  have e5 := len_S hS (c := c)
  simp only [ol_cal, e5] at e2
  simp [e2]
set_option maxHeartbeats 200000 in
theorem ch1_S {V : Nat} (hV : V = 1000005 ∨ V = 1000006) {c : List ol_C} {k n : Nat} (hn : ol_len (V - 1000005) = n) (hk : k < n) {ch : Int} (hc : ol_bt (V - 1000005) k = ch) (hb : 0 ≤ ch ∧ ch < 128) (ha : ol_and ch 255 = some ch) : fJ1_charAt_3b067 [.inr (.inl (some V)), .inl (k : Int)] (c, 0, 0) = some (some (.inl ch), (c, 0, 0)) := by
  have e2 := xa_S hV hn hc (r := er_v 0) (i := ei_v 1) (L := [.inr (.inl (some V)), .inl (k : Int)]) (h := (c, 0, 0)) (h' := (c, 0, 0)) (h'' := (c, 0, 0)) rfl rfl hk
  have e1 : ei_xl (er_v 0) [.inr (.inl (some V)), .inl (k : Int)] (c, 0, 0) = some ((n : Int), (c, 0, 0)) := by
    rw [← hn]
    exact xl_S hV rfl
  have hk' : (k : Int) < (n : Int) := Int.ofNat_lt.mpr hk
  clear hV hn hc
  simp [fJ1_charAt_3b067, bJ1_charAt_3b067, fJ0_checkIndex_df160, bJ0_checkIndex_df160, es_ck, ol_fe, ol_exp, ol_ent, es_seq, es_if, es_ret, es_retz, es_retv, es_rtc, es_rtb, es_of, ei_c, ei_v, er_v, ei_2, ei_if, ec_2, ec_z, ec_and, ei_of, ea_0, ea_i, ea_r, ea_cs, ol_cal, ol_int, ol_ref, ol_lset, ol_eq, ol_ne, ei_cs, ei_ch, e1, e2, ha, hb, hk']
set_option maxHeartbeats 200000 in
theorem ch_v {S : Nat} (hS : S = 1000003 ∨ S = 1000004) {a : ol_V} {c : List ol_C} {k : Nat} (hk : k < ol_len (S - 1000003)) {ch : Int} (hc : ol_bt (S - 1000003) k = ch) (hb : 0 ≤ ch ∧ ch < 128) (ha : ol_and ch 255 = some ch) : ea_cx fJ0_charAt_5068e (ea_r (er_v 1) (ea_i (ei_v 2) ea_0)) [a, .inr (.inl (some S)), .inl (k : Int)] (c, 0, 0) = some (some (.inl ch), (c, 0, 0)) := by
  have e2 := cx_S hS (f := fJ0_charAt_5068e) (a := ea_r (er_v 1) (ea_i (ei_v 2) ea_0)) (L := [a, .inr (.inl (some S)), .inl (k : Int)]) (h := (c, 0, 0)) (h' := (c, 0, 0)) (as := [.inl (k : Int)]) rfl
  have e3 : S + 2 - 1000005 = S - 1000003 := by omega
  have e4 := ch1_S (V := S + 2) (c := c) (by omega) (k := k) rfl (by rw [e3]; exact hk) (by rw [e3]; exact hc) hb ha
  have e5 := sv_S hS (r := er_v 0) (L := [.inr (.inl (some S)), .inl (k : Int)]) (h := (c, 0, 0)) (h' := (c, 0, 0)) rfl
  have e6 := cx_S hS (f := fJ0_isLatin1_aae02) (a := ea_r (er_v 0) ea_0) (L := [.inr (.inl (some S)), .inl (k : Int)]) (h := (c, 0, 0)) (h' := (c, 0, 0)) (as := []) rfl
  have e7 := lat_S hS (c := c)
  simp only [ol_cal, e7] at e6
  have e8 : fJ0_charAt_5068e [.inr (.inl (some S)), .inl (k : Int)] (c, 0, 0) = some (some (.inl ch), (c, 0, 0)) := by
    unfold fJ0_charAt_5068e bJ0_charAt_5068e
    simp [ol_fe, ol_exp, ol_ent, es_seq, es_if, es_ret, es_retz, es_retv, es_rtc, es_rtb, es_of, ei_c, ei_v, er_v, ei_2, ei_if, ec_2, ec_z, ec_and, ei_of, ea_0, ea_i, ea_r, ea_cs, ol_cal, ol_int, ol_ref, ol_lset, ol_eq, ol_ne, ei_cs, ei_ch, e6, e5, e4, hb]
  simp only [ol_cal, e8] at e2
  simp [e2]
/-! the class reads a token -/
set_option maxHeartbeats 200000 in
theorem v_fig {c : Int} {h : ol_H} (hc : 0 ≤ c ∧ c ≤ 255) : fX7_isFigure [.inl c] h = some (some (.inl (if 48 ≤ c ∧ c ≤ 57 then 1 else 0)), h) := by
  by_cases c1 : 48 ≤ c
  · by_cases c2 : c ≤ 57
    · simp (disch := (first | with_reducible assumption | omega)) only [x_c, x_fi, x_fr, x_fj, x_vi, x_vr, x_vj, x_fi1, x_fi2, x_fr1, x_fr2, x_fj1, x_fj2, x_ai1, x_ai2, x_ai3, x_ar1, x_ar2, x_ar3, x_t1, x_t2, x_t3, x_t4, x_21, x_22, x_23, x_24, x_n1, x_n2, x_ji1, x_ji2, x_jc, x_j21, x_j22, x_j23, x_js1, x_js2, x_js3, x_ij1, x_ij2, x_ib1, x_ib2, x_c21, x_c22, x_c23, x_cz1, x_cz2, x_an1, x_an2, x_an3, x_or1, x_or2, x_or3, x_nt1, x_nt2, x_anm, x_orm, x_anm0, x_orm0, x_if1, x_if2, x_if3, x_ifm, x_ifm0, x_cf1, x_cf2, x_cf3, x_cfm, x_cfm0, x_a0, x_pi1, x_pi2, x_pr1, x_pr2, x_pj1, x_pj2, x_av, x_cv1, x_cv2, x_cv3, x_cs1, x_cs2, x_cl, x_of1, x_of2, x_so1, x_so2, x_fe1, x_fe2, x_fe3, x_sq1, x_sq2, x_sq3, x_sk, x_st1, x_st2, x_sr1, x_sr2, x_in1, x_in2, x_sf1, x_sf2, x_sf3, x_rt1, x_rt2, x_rz1, x_rz2, x_rj1, x_rj2, x_rv, x_ue, x_pf1, x_pf2, x_pf3, x_pz1, x_pz2, x_pz3, x_as1, x_as2, x_as3, x_as4, x_bs1, x_bs2, x_bs3, x_bs4, x_zs1, x_zs2, x_zs3, x_zs4, x_uf1, x_uf2, x_uf3, x_uf4, x_uf5, x_ua1, x_ua2, x_ua3, x_ua4, x_ua5, x_ua6, x_cp1, x_cp2, x_cp3, x_sw1, x_sw2, x_sw3, b_t, b_f, b_a, b_o, b_n, b_i, pu_e, w_d, ex_0, ex_i, ex_r, ex_j, ol_ent, List.length_cons, List.length_nil, List.replicate, List.cons_append, List.nil_append, rcv_r, ls_0, ls_i, ls_r, ls_j, ol_lt, ol_le, ol_gt, ol_ge, ol_eq, ol_ne, v_in, v_out, v_isBall, v_isHand, v_shotM, v_shotC, ol_min, ol_max, Bool.and_true, Bool.true_and, Bool.and_false, Bool.false_and, Bool.or_true, Bool.true_or, Bool.or_false, Bool.false_or, if_pos, if_neg, not_true_eq_false, not_false_eq_true, decide_true, decide_false, List.getElem?_cons_zero, List.getElem?_cons_succ, e_add, e_sub, e_mul, e_div, e_rem, ↓reduceIte, reduceIte, Int.reduceAdd, Int.reduceMul, Int.reduceSub, Int.reduceNeg, Int.reduceLT, Int.reduceLE, Int.reduceEq, Int.reduceToNat, Nat.reduceAdd, Nat.reduceSub, Nat.reduceMul, Nat.reduceLeDiff, Nat.reduceLT, Nat.reduceEqDiff, ite_true, ite_false, if_true, if_false, Bool.false_eq_true, Bool.not_true, Bool.not_false, Int.toNat_natCast, true_and, and_true, true_or, or_true, and_self, or_self, or_false, false_or, false_and, and_false, Int.neg_neg, Int.neg_zero, Nat.add_zero, Nat.zero_add, Int.zero_add, Int.add_zero, Int.sub_zero, Int.zero_sub, Int.one_ne_zero, fX7_isFigure, bX7_isFigure]
    · simp (disch := (first | with_reducible assumption | omega)) only [x_c, x_fi, x_fr, x_fj, x_vi, x_vr, x_vj, x_fi1, x_fi2, x_fr1, x_fr2, x_fj1, x_fj2, x_ai1, x_ai2, x_ai3, x_ar1, x_ar2, x_ar3, x_t1, x_t2, x_t3, x_t4, x_21, x_22, x_23, x_24, x_n1, x_n2, x_ji1, x_ji2, x_jc, x_j21, x_j22, x_j23, x_js1, x_js2, x_js3, x_ij1, x_ij2, x_ib1, x_ib2, x_c21, x_c22, x_c23, x_cz1, x_cz2, x_an1, x_an2, x_an3, x_or1, x_or2, x_or3, x_nt1, x_nt2, x_anm, x_orm, x_anm0, x_orm0, x_if1, x_if2, x_if3, x_ifm, x_ifm0, x_cf1, x_cf2, x_cf3, x_cfm, x_cfm0, x_a0, x_pi1, x_pi2, x_pr1, x_pr2, x_pj1, x_pj2, x_av, x_cv1, x_cv2, x_cv3, x_cs1, x_cs2, x_cl, x_of1, x_of2, x_so1, x_so2, x_fe1, x_fe2, x_fe3, x_sq1, x_sq2, x_sq3, x_sk, x_st1, x_st2, x_sr1, x_sr2, x_in1, x_in2, x_sf1, x_sf2, x_sf3, x_rt1, x_rt2, x_rz1, x_rz2, x_rj1, x_rj2, x_rv, x_ue, x_pf1, x_pf2, x_pf3, x_pz1, x_pz2, x_pz3, x_as1, x_as2, x_as3, x_as4, x_bs1, x_bs2, x_bs3, x_bs4, x_zs1, x_zs2, x_zs3, x_zs4, x_uf1, x_uf2, x_uf3, x_uf4, x_uf5, x_ua1, x_ua2, x_ua3, x_ua4, x_ua5, x_ua6, x_cp1, x_cp2, x_cp3, x_sw1, x_sw2, x_sw3, b_t, b_f, b_a, b_o, b_n, b_i, pu_e, w_d, ex_0, ex_i, ex_r, ex_j, ol_ent, List.length_cons, List.length_nil, List.replicate, List.cons_append, List.nil_append, rcv_r, ls_0, ls_i, ls_r, ls_j, ol_lt, ol_le, ol_gt, ol_ge, ol_eq, ol_ne, v_in, v_out, v_isBall, v_isHand, v_shotM, v_shotC, ol_min, ol_max, Bool.and_true, Bool.true_and, Bool.and_false, Bool.false_and, Bool.or_true, Bool.true_or, Bool.or_false, Bool.false_or, if_pos, if_neg, not_true_eq_false, not_false_eq_true, decide_true, decide_false, List.getElem?_cons_zero, List.getElem?_cons_succ, e_add, e_sub, e_mul, e_div, e_rem, ↓reduceIte, reduceIte, Int.reduceAdd, Int.reduceMul, Int.reduceSub, Int.reduceNeg, Int.reduceLT, Int.reduceLE, Int.reduceEq, Int.reduceToNat, Nat.reduceAdd, Nat.reduceSub, Nat.reduceMul, Nat.reduceLeDiff, Nat.reduceLT, Nat.reduceEqDiff, ite_true, ite_false, if_true, if_false, Bool.false_eq_true, Bool.not_true, Bool.not_false, Int.toNat_natCast, true_and, and_true, true_or, or_true, and_self, or_self, or_false, false_or, false_and, and_false, Int.neg_neg, Int.neg_zero, Nat.add_zero, Nat.zero_add, Int.zero_add, Int.add_zero, Int.sub_zero, Int.zero_sub, Int.one_ne_zero, fX7_isFigure, bX7_isFigure]
  · simp (disch := (first | with_reducible assumption | omega)) only [x_c, x_fi, x_fr, x_fj, x_vi, x_vr, x_vj, x_fi1, x_fi2, x_fr1, x_fr2, x_fj1, x_fj2, x_ai1, x_ai2, x_ai3, x_ar1, x_ar2, x_ar3, x_t1, x_t2, x_t3, x_t4, x_21, x_22, x_23, x_24, x_n1, x_n2, x_ji1, x_ji2, x_jc, x_j21, x_j22, x_j23, x_js1, x_js2, x_js3, x_ij1, x_ij2, x_ib1, x_ib2, x_c21, x_c22, x_c23, x_cz1, x_cz2, x_an1, x_an2, x_an3, x_or1, x_or2, x_or3, x_nt1, x_nt2, x_anm, x_orm, x_anm0, x_orm0, x_if1, x_if2, x_if3, x_ifm, x_ifm0, x_cf1, x_cf2, x_cf3, x_cfm, x_cfm0, x_a0, x_pi1, x_pi2, x_pr1, x_pr2, x_pj1, x_pj2, x_av, x_cv1, x_cv2, x_cv3, x_cs1, x_cs2, x_cl, x_of1, x_of2, x_so1, x_so2, x_fe1, x_fe2, x_fe3, x_sq1, x_sq2, x_sq3, x_sk, x_st1, x_st2, x_sr1, x_sr2, x_in1, x_in2, x_sf1, x_sf2, x_sf3, x_rt1, x_rt2, x_rz1, x_rz2, x_rj1, x_rj2, x_rv, x_ue, x_pf1, x_pf2, x_pf3, x_pz1, x_pz2, x_pz3, x_as1, x_as2, x_as3, x_as4, x_bs1, x_bs2, x_bs3, x_bs4, x_zs1, x_zs2, x_zs3, x_zs4, x_uf1, x_uf2, x_uf3, x_uf4, x_uf5, x_ua1, x_ua2, x_ua3, x_ua4, x_ua5, x_ua6, x_cp1, x_cp2, x_cp3, x_sw1, x_sw2, x_sw3, b_t, b_f, b_a, b_o, b_n, b_i, pu_e, w_d, ex_0, ex_i, ex_r, ex_j, ol_ent, List.length_cons, List.length_nil, List.replicate, List.cons_append, List.nil_append, rcv_r, ls_0, ls_i, ls_r, ls_j, ol_lt, ol_le, ol_gt, ol_ge, ol_eq, ol_ne, v_in, v_out, v_isBall, v_isHand, v_shotM, v_shotC, ol_min, ol_max, Bool.and_true, Bool.true_and, Bool.and_false, Bool.false_and, Bool.or_true, Bool.true_or, Bool.or_false, Bool.false_or, if_pos, if_neg, not_true_eq_false, not_false_eq_true, decide_true, decide_false, List.getElem?_cons_zero, List.getElem?_cons_succ, e_add, e_sub, e_mul, e_div, e_rem, ↓reduceIte, reduceIte, Int.reduceAdd, Int.reduceMul, Int.reduceSub, Int.reduceNeg, Int.reduceLT, Int.reduceLE, Int.reduceEq, Int.reduceToNat, Nat.reduceAdd, Nat.reduceSub, Nat.reduceMul, Nat.reduceLeDiff, Nat.reduceLT, Nat.reduceEqDiff, ite_true, ite_false, if_true, if_false, Bool.false_eq_true, Bool.not_true, Bool.not_false, Int.toNat_natCast, true_and, and_true, true_or, or_true, and_self, or_self, or_false, false_or, false_and, and_false, Int.neg_neg, Int.neg_zero, Nat.add_zero, Nat.zero_add, Int.zero_add, Int.add_zero, Int.sub_zero, Int.zero_sub, Int.one_ne_zero, fX7_isFigure, bX7_isFigure]
set_option maxHeartbeats 200000 in
theorem v_let {c : Int} {h : ol_H} (hc : 0 ≤ c ∧ c ≤ 255) : fX7_isLetter [.inl c] h = some (some (.inl (if 97 ≤ c ∧ c ≤ 122 then 1 else 0)), h) := by
  by_cases c1 : 97 ≤ c
  · by_cases c2 : c ≤ 122
    · simp (disch := (first | with_reducible assumption | omega)) only [x_c, x_fi, x_fr, x_fj, x_vi, x_vr, x_vj, x_fi1, x_fi2, x_fr1, x_fr2, x_fj1, x_fj2, x_ai1, x_ai2, x_ai3, x_ar1, x_ar2, x_ar3, x_t1, x_t2, x_t3, x_t4, x_21, x_22, x_23, x_24, x_n1, x_n2, x_ji1, x_ji2, x_jc, x_j21, x_j22, x_j23, x_js1, x_js2, x_js3, x_ij1, x_ij2, x_ib1, x_ib2, x_c21, x_c22, x_c23, x_cz1, x_cz2, x_an1, x_an2, x_an3, x_or1, x_or2, x_or3, x_nt1, x_nt2, x_anm, x_orm, x_anm0, x_orm0, x_if1, x_if2, x_if3, x_ifm, x_ifm0, x_cf1, x_cf2, x_cf3, x_cfm, x_cfm0, x_a0, x_pi1, x_pi2, x_pr1, x_pr2, x_pj1, x_pj2, x_av, x_cv1, x_cv2, x_cv3, x_cs1, x_cs2, x_cl, x_of1, x_of2, x_so1, x_so2, x_fe1, x_fe2, x_fe3, x_sq1, x_sq2, x_sq3, x_sk, x_st1, x_st2, x_sr1, x_sr2, x_in1, x_in2, x_sf1, x_sf2, x_sf3, x_rt1, x_rt2, x_rz1, x_rz2, x_rj1, x_rj2, x_rv, x_ue, x_pf1, x_pf2, x_pf3, x_pz1, x_pz2, x_pz3, x_as1, x_as2, x_as3, x_as4, x_bs1, x_bs2, x_bs3, x_bs4, x_zs1, x_zs2, x_zs3, x_zs4, x_uf1, x_uf2, x_uf3, x_uf4, x_uf5, x_ua1, x_ua2, x_ua3, x_ua4, x_ua5, x_ua6, x_cp1, x_cp2, x_cp3, x_sw1, x_sw2, x_sw3, b_t, b_f, b_a, b_o, b_n, b_i, pu_e, w_d, ex_0, ex_i, ex_r, ex_j, ol_ent, List.length_cons, List.length_nil, List.replicate, List.cons_append, List.nil_append, rcv_r, ls_0, ls_i, ls_r, ls_j, ol_lt, ol_le, ol_gt, ol_ge, ol_eq, ol_ne, v_in, v_out, v_isBall, v_isHand, v_shotM, v_shotC, ol_min, ol_max, Bool.and_true, Bool.true_and, Bool.and_false, Bool.false_and, Bool.or_true, Bool.true_or, Bool.or_false, Bool.false_or, if_pos, if_neg, not_true_eq_false, not_false_eq_true, decide_true, decide_false, List.getElem?_cons_zero, List.getElem?_cons_succ, e_add, e_sub, e_mul, e_div, e_rem, ↓reduceIte, reduceIte, Int.reduceAdd, Int.reduceMul, Int.reduceSub, Int.reduceNeg, Int.reduceLT, Int.reduceLE, Int.reduceEq, Int.reduceToNat, Nat.reduceAdd, Nat.reduceSub, Nat.reduceMul, Nat.reduceLeDiff, Nat.reduceLT, Nat.reduceEqDiff, ite_true, ite_false, if_true, if_false, Bool.false_eq_true, Bool.not_true, Bool.not_false, Int.toNat_natCast, true_and, and_true, true_or, or_true, and_self, or_self, or_false, false_or, false_and, and_false, Int.neg_neg, Int.neg_zero, Nat.add_zero, Nat.zero_add, Int.zero_add, Int.add_zero, Int.sub_zero, Int.zero_sub, Int.one_ne_zero, fX7_isLetter, bX7_isLetter]
    · simp (disch := (first | with_reducible assumption | omega)) only [x_c, x_fi, x_fr, x_fj, x_vi, x_vr, x_vj, x_fi1, x_fi2, x_fr1, x_fr2, x_fj1, x_fj2, x_ai1, x_ai2, x_ai3, x_ar1, x_ar2, x_ar3, x_t1, x_t2, x_t3, x_t4, x_21, x_22, x_23, x_24, x_n1, x_n2, x_ji1, x_ji2, x_jc, x_j21, x_j22, x_j23, x_js1, x_js2, x_js3, x_ij1, x_ij2, x_ib1, x_ib2, x_c21, x_c22, x_c23, x_cz1, x_cz2, x_an1, x_an2, x_an3, x_or1, x_or2, x_or3, x_nt1, x_nt2, x_anm, x_orm, x_anm0, x_orm0, x_if1, x_if2, x_if3, x_ifm, x_ifm0, x_cf1, x_cf2, x_cf3, x_cfm, x_cfm0, x_a0, x_pi1, x_pi2, x_pr1, x_pr2, x_pj1, x_pj2, x_av, x_cv1, x_cv2, x_cv3, x_cs1, x_cs2, x_cl, x_of1, x_of2, x_so1, x_so2, x_fe1, x_fe2, x_fe3, x_sq1, x_sq2, x_sq3, x_sk, x_st1, x_st2, x_sr1, x_sr2, x_in1, x_in2, x_sf1, x_sf2, x_sf3, x_rt1, x_rt2, x_rz1, x_rz2, x_rj1, x_rj2, x_rv, x_ue, x_pf1, x_pf2, x_pf3, x_pz1, x_pz2, x_pz3, x_as1, x_as2, x_as3, x_as4, x_bs1, x_bs2, x_bs3, x_bs4, x_zs1, x_zs2, x_zs3, x_zs4, x_uf1, x_uf2, x_uf3, x_uf4, x_uf5, x_ua1, x_ua2, x_ua3, x_ua4, x_ua5, x_ua6, x_cp1, x_cp2, x_cp3, x_sw1, x_sw2, x_sw3, b_t, b_f, b_a, b_o, b_n, b_i, pu_e, w_d, ex_0, ex_i, ex_r, ex_j, ol_ent, List.length_cons, List.length_nil, List.replicate, List.cons_append, List.nil_append, rcv_r, ls_0, ls_i, ls_r, ls_j, ol_lt, ol_le, ol_gt, ol_ge, ol_eq, ol_ne, v_in, v_out, v_isBall, v_isHand, v_shotM, v_shotC, ol_min, ol_max, Bool.and_true, Bool.true_and, Bool.and_false, Bool.false_and, Bool.or_true, Bool.true_or, Bool.or_false, Bool.false_or, if_pos, if_neg, not_true_eq_false, not_false_eq_true, decide_true, decide_false, List.getElem?_cons_zero, List.getElem?_cons_succ, e_add, e_sub, e_mul, e_div, e_rem, ↓reduceIte, reduceIte, Int.reduceAdd, Int.reduceMul, Int.reduceSub, Int.reduceNeg, Int.reduceLT, Int.reduceLE, Int.reduceEq, Int.reduceToNat, Nat.reduceAdd, Nat.reduceSub, Nat.reduceMul, Nat.reduceLeDiff, Nat.reduceLT, Nat.reduceEqDiff, ite_true, ite_false, if_true, if_false, Bool.false_eq_true, Bool.not_true, Bool.not_false, Int.toNat_natCast, true_and, and_true, true_or, or_true, and_self, or_self, or_false, false_or, false_and, and_false, Int.neg_neg, Int.neg_zero, Nat.add_zero, Nat.zero_add, Int.zero_add, Int.add_zero, Int.sub_zero, Int.zero_sub, Int.one_ne_zero, fX7_isLetter, bX7_isLetter]
  · simp (disch := (first | with_reducible assumption | omega)) only [x_c, x_fi, x_fr, x_fj, x_vi, x_vr, x_vj, x_fi1, x_fi2, x_fr1, x_fr2, x_fj1, x_fj2, x_ai1, x_ai2, x_ai3, x_ar1, x_ar2, x_ar3, x_t1, x_t2, x_t3, x_t4, x_21, x_22, x_23, x_24, x_n1, x_n2, x_ji1, x_ji2, x_jc, x_j21, x_j22, x_j23, x_js1, x_js2, x_js3, x_ij1, x_ij2, x_ib1, x_ib2, x_c21, x_c22, x_c23, x_cz1, x_cz2, x_an1, x_an2, x_an3, x_or1, x_or2, x_or3, x_nt1, x_nt2, x_anm, x_orm, x_anm0, x_orm0, x_if1, x_if2, x_if3, x_ifm, x_ifm0, x_cf1, x_cf2, x_cf3, x_cfm, x_cfm0, x_a0, x_pi1, x_pi2, x_pr1, x_pr2, x_pj1, x_pj2, x_av, x_cv1, x_cv2, x_cv3, x_cs1, x_cs2, x_cl, x_of1, x_of2, x_so1, x_so2, x_fe1, x_fe2, x_fe3, x_sq1, x_sq2, x_sq3, x_sk, x_st1, x_st2, x_sr1, x_sr2, x_in1, x_in2, x_sf1, x_sf2, x_sf3, x_rt1, x_rt2, x_rz1, x_rz2, x_rj1, x_rj2, x_rv, x_ue, x_pf1, x_pf2, x_pf3, x_pz1, x_pz2, x_pz3, x_as1, x_as2, x_as3, x_as4, x_bs1, x_bs2, x_bs3, x_bs4, x_zs1, x_zs2, x_zs3, x_zs4, x_uf1, x_uf2, x_uf3, x_uf4, x_uf5, x_ua1, x_ua2, x_ua3, x_ua4, x_ua5, x_ua6, x_cp1, x_cp2, x_cp3, x_sw1, x_sw2, x_sw3, b_t, b_f, b_a, b_o, b_n, b_i, pu_e, w_d, ex_0, ex_i, ex_r, ex_j, ol_ent, List.length_cons, List.length_nil, List.replicate, List.cons_append, List.nil_append, rcv_r, ls_0, ls_i, ls_r, ls_j, ol_lt, ol_le, ol_gt, ol_ge, ol_eq, ol_ne, v_in, v_out, v_isBall, v_isHand, v_shotM, v_shotC, ol_min, ol_max, Bool.and_true, Bool.true_and, Bool.and_false, Bool.false_and, Bool.or_true, Bool.true_or, Bool.or_false, Bool.false_or, if_pos, if_neg, not_true_eq_false, not_false_eq_true, decide_true, decide_false, List.getElem?_cons_zero, List.getElem?_cons_succ, e_add, e_sub, e_mul, e_div, e_rem, ↓reduceIte, reduceIte, Int.reduceAdd, Int.reduceMul, Int.reduceSub, Int.reduceNeg, Int.reduceLT, Int.reduceLE, Int.reduceEq, Int.reduceToNat, Nat.reduceAdd, Nat.reduceSub, Nat.reduceMul, Nat.reduceLeDiff, Nat.reduceLT, Nat.reduceEqDiff, ite_true, ite_false, if_true, if_false, Bool.false_eq_true, Bool.not_true, Bool.not_false, Int.toNat_natCast, true_and, and_true, true_or, or_true, and_self, or_self, or_false, false_or, false_and, and_false, Int.neg_neg, Int.neg_zero, Nat.add_zero, Nat.zero_add, Int.zero_add, Int.add_zero, Int.sub_zero, Int.zero_sub, Int.one_ne_zero, fX7_isLetter, bX7_isLetter]
def tkB (B : Nat → Int) (l : Nat) : Prop := ∀ i, i < l → 0 ≤ B i ∧ B i ≤ 255
set_option maxHeartbeats 200000 in
theorem v_skip {g : pg} {t : pt} {l a e : Nat} (hl : l ≤ 300) (hl2 : g 1 2 = (l : Int)) (ha : g 1 3 = (a : Int)) (he : isE (fun c => c = 32) (g 2) l a e) (L0 : ol_L) (hL : L0 = [.inr (.inl (some 1))]) : es_wh wX7_readToken_0c wX7_readToken_0b L0 (pb g t, 0, 0) = some (none, L0, (pb (pu g 1 3 (e : Int)) t, 0, 0)) := by
  subst hL
  obtain ⟨e1, e2, e3, e4⟩ := he
  obtain ⟨L', g', ew, rfl, q1, q2⟩ := wh_for (c := wX7_readToken_0c) (b := wX7_readToken_0b) (t := t) (g := g) (e - a) (by omega) (fun k L g' => L = [.inr (.inl (some 1))] ∧ g' 1 3 = ((a + k : Nat) : Int) ∧ ∀ x j, ¬ (x = 1 ∧ j = 3) → g' x j = g x j)
    (by
      rintro k L g' hk ⟨rfl, q1, q2⟩
      have b := e3 (a + k) (by omega) (by omega)
      have r2 : g' 1 2 = (l : Int) := by rw [q2 _ _ (by omega)]; exact hl2
      have rb : g' 2 (a + k) = 32 := by rw [q2 _ _ (by omega)]; exact b
      clear e3 e4 q2
      simp (disch := (first | with_reducible assumption | omega)) only [x_c, x_fi, x_fr, x_fj, x_vi, x_vr, x_vj, x_fi1, x_fi2, x_fr1, x_fr2, x_fj1, x_fj2, x_ai1, x_ai2, x_ai3, x_ar1, x_ar2, x_ar3, x_t1, x_t2, x_t3, x_t4, x_21, x_22, x_23, x_24, x_n1, x_n2, x_ji1, x_ji2, x_jc, x_j21, x_j22, x_j23, x_js1, x_js2, x_js3, x_ij1, x_ij2, x_ib1, x_ib2, x_c21, x_c22, x_c23, x_cz1, x_cz2, x_an1, x_an2, x_an3, x_or1, x_or2, x_or3, x_nt1, x_nt2, x_anm, x_orm, x_anm0, x_orm0, x_if1, x_if2, x_if3, x_ifm, x_ifm0, x_cf1, x_cf2, x_cf3, x_cfm, x_cfm0, x_a0, x_pi1, x_pi2, x_pr1, x_pr2, x_pj1, x_pj2, x_av, x_cv1, x_cv2, x_cv3, x_cs1, x_cs2, x_cl, x_of1, x_of2, x_so1, x_so2, x_fe1, x_fe2, x_fe3, x_sq1, x_sq2, x_sq3, x_sk, x_st1, x_st2, x_sr1, x_sr2, x_in1, x_in2, x_sf1, x_sf2, x_sf3, x_rt1, x_rt2, x_rz1, x_rz2, x_rj1, x_rj2, x_rv, x_ue, x_pf1, x_pf2, x_pf3, x_pz1, x_pz2, x_pz3, x_as1, x_as2, x_as3, x_as4, x_bs1, x_bs2, x_bs3, x_bs4, x_zs1, x_zs2, x_zs3, x_zs4, x_uf1, x_uf2, x_uf3, x_uf4, x_uf5, x_ua1, x_ua2, x_ua3, x_ua4, x_ua5, x_ua6, x_cp1, x_cp2, x_cp3, x_sw1, x_sw2, x_sw3, b_t, b_f, b_a, b_o, b_n, b_i, pu_e, w_d, ex_0, ex_i, ex_r, ex_j, ol_ent, List.length_cons, List.length_nil, List.replicate, List.cons_append, List.nil_append, rcv_r, ls_0, ls_i, ls_r, ls_j, ol_lt, ol_le, ol_gt, ol_ge, ol_eq, ol_ne, v_in, v_out, v_isBall, v_isHand, v_shotM, v_shotC, ol_min, ol_max, Bool.and_true, Bool.true_and, Bool.and_false, Bool.false_and, Bool.or_true, Bool.true_or, Bool.or_false, Bool.false_or, if_pos, if_neg, not_true_eq_false, not_false_eq_true, decide_true, decide_false, f1_0, f1_1, f1_2, p1_2, f1_3, p1_3, f1_4, p1_4, f1_5, p1_5, f1_6, p1_6, c1, a2, s2, List.getElem?_cons_zero, List.getElem?_cons_succ, e_add, e_sub, e_mul, e_div, e_rem, ↓reduceIte, reduceIte, Int.reduceAdd, Int.reduceMul, Int.reduceSub, Int.reduceNeg, Int.reduceLT, Int.reduceLE, Int.reduceEq, Int.reduceToNat, Nat.reduceAdd, Nat.reduceSub, Nat.reduceMul, Nat.reduceLeDiff, Nat.reduceLT, Nat.reduceEqDiff, ite_true, ite_false, if_true, if_false, Bool.false_eq_true, Bool.not_true, Bool.not_false, Int.toNat_natCast, true_and, and_true, true_or, or_true, and_self, or_self, or_false, false_or, false_and, and_false, Int.neg_neg, Int.neg_zero, Nat.add_zero, Nat.zero_add, Int.zero_add, Int.add_zero, Int.sub_zero, Int.zero_sub, Int.one_ne_zero, wX7_readToken_0c, q1, r2, rb])
    (by
      rintro L g' ⟨rfl, q1, q2⟩
      have r2 : g' 1 2 = (l : Int) := by rw [q2 _ _ (by omega)]; exact hl2
      rw [show a + (e - a) = e by omega] at q1
      by_cases c : e = l
      · clear e3 e4 q2
        simp (disch := (first | with_reducible assumption | omega)) only [x_c, x_fi, x_fr, x_fj, x_vi, x_vr, x_vj, x_fi1, x_fi2, x_fr1, x_fr2, x_fj1, x_fj2, x_ai1, x_ai2, x_ai3, x_ar1, x_ar2, x_ar3, x_t1, x_t2, x_t3, x_t4, x_21, x_22, x_23, x_24, x_n1, x_n2, x_ji1, x_ji2, x_jc, x_j21, x_j22, x_j23, x_js1, x_js2, x_js3, x_ij1, x_ij2, x_ib1, x_ib2, x_c21, x_c22, x_c23, x_cz1, x_cz2, x_an1, x_an2, x_an3, x_or1, x_or2, x_or3, x_nt1, x_nt2, x_anm, x_orm, x_anm0, x_orm0, x_if1, x_if2, x_if3, x_ifm, x_ifm0, x_cf1, x_cf2, x_cf3, x_cfm, x_cfm0, x_a0, x_pi1, x_pi2, x_pr1, x_pr2, x_pj1, x_pj2, x_av, x_cv1, x_cv2, x_cv3, x_cs1, x_cs2, x_cl, x_of1, x_of2, x_so1, x_so2, x_fe1, x_fe2, x_fe3, x_sq1, x_sq2, x_sq3, x_sk, x_st1, x_st2, x_sr1, x_sr2, x_in1, x_in2, x_sf1, x_sf2, x_sf3, x_rt1, x_rt2, x_rz1, x_rz2, x_rj1, x_rj2, x_rv, x_ue, x_pf1, x_pf2, x_pf3, x_pz1, x_pz2, x_pz3, x_as1, x_as2, x_as3, x_as4, x_bs1, x_bs2, x_bs3, x_bs4, x_zs1, x_zs2, x_zs3, x_zs4, x_uf1, x_uf2, x_uf3, x_uf4, x_uf5, x_ua1, x_ua2, x_ua3, x_ua4, x_ua5, x_ua6, x_cp1, x_cp2, x_cp3, x_sw1, x_sw2, x_sw3, b_t, b_f, b_a, b_o, b_n, b_i, pu_e, w_d, ex_0, ex_i, ex_r, ex_j, ol_ent, List.length_cons, List.length_nil, List.replicate, List.cons_append, List.nil_append, rcv_r, ls_0, ls_i, ls_r, ls_j, ol_lt, ol_le, ol_gt, ol_ge, ol_eq, ol_ne, v_in, v_out, v_isBall, v_isHand, v_shotM, v_shotC, ol_min, ol_max, Bool.and_true, Bool.true_and, Bool.and_false, Bool.false_and, Bool.or_true, Bool.true_or, Bool.or_false, Bool.false_or, if_pos, if_neg, not_true_eq_false, not_false_eq_true, decide_true, decide_false, f1_0, f1_1, f1_2, p1_2, f1_3, p1_3, f1_4, p1_4, f1_5, p1_5, f1_6, p1_6, c1, a2, s2, List.getElem?_cons_zero, List.getElem?_cons_succ, e_add, e_sub, e_mul, e_div, e_rem, ↓reduceIte, reduceIte, Int.reduceAdd, Int.reduceMul, Int.reduceSub, Int.reduceNeg, Int.reduceLT, Int.reduceLE, Int.reduceEq, Int.reduceToNat, Nat.reduceAdd, Nat.reduceSub, Nat.reduceMul, Nat.reduceLeDiff, Nat.reduceLT, Nat.reduceEqDiff, ite_true, ite_false, if_true, if_false, Bool.false_eq_true, Bool.not_true, Bool.not_false, Int.toNat_natCast, true_and, and_true, true_or, or_true, and_self, or_self, or_false, false_or, false_and, and_false, Int.neg_neg, Int.neg_zero, Nat.add_zero, Nat.zero_add, Int.zero_add, Int.add_zero, Int.sub_zero, Int.zero_sub, Int.one_ne_zero, wX7_readToken_0c, q1, r2]
      · have e4' : ¬ g 2 e = 32 := e4.resolve_left c
        have rb : g' 2 e = g 2 e := by rw [q2 _ _ (by omega)]
        clear e3 e4 q2
        simp (disch := (first | with_reducible assumption | omega)) only [x_c, x_fi, x_fr, x_fj, x_vi, x_vr, x_vj, x_fi1, x_fi2, x_fr1, x_fr2, x_fj1, x_fj2, x_ai1, x_ai2, x_ai3, x_ar1, x_ar2, x_ar3, x_t1, x_t2, x_t3, x_t4, x_21, x_22, x_23, x_24, x_n1, x_n2, x_ji1, x_ji2, x_jc, x_j21, x_j22, x_j23, x_js1, x_js2, x_js3, x_ij1, x_ij2, x_ib1, x_ib2, x_c21, x_c22, x_c23, x_cz1, x_cz2, x_an1, x_an2, x_an3, x_or1, x_or2, x_or3, x_nt1, x_nt2, x_anm, x_orm, x_anm0, x_orm0, x_if1, x_if2, x_if3, x_ifm, x_ifm0, x_cf1, x_cf2, x_cf3, x_cfm, x_cfm0, x_a0, x_pi1, x_pi2, x_pr1, x_pr2, x_pj1, x_pj2, x_av, x_cv1, x_cv2, x_cv3, x_cs1, x_cs2, x_cl, x_of1, x_of2, x_so1, x_so2, x_fe1, x_fe2, x_fe3, x_sq1, x_sq2, x_sq3, x_sk, x_st1, x_st2, x_sr1, x_sr2, x_in1, x_in2, x_sf1, x_sf2, x_sf3, x_rt1, x_rt2, x_rz1, x_rz2, x_rj1, x_rj2, x_rv, x_ue, x_pf1, x_pf2, x_pf3, x_pz1, x_pz2, x_pz3, x_as1, x_as2, x_as3, x_as4, x_bs1, x_bs2, x_bs3, x_bs4, x_zs1, x_zs2, x_zs3, x_zs4, x_uf1, x_uf2, x_uf3, x_uf4, x_uf5, x_ua1, x_ua2, x_ua3, x_ua4, x_ua5, x_ua6, x_cp1, x_cp2, x_cp3, x_sw1, x_sw2, x_sw3, b_t, b_f, b_a, b_o, b_n, b_i, pu_e, w_d, ex_0, ex_i, ex_r, ex_j, ol_ent, List.length_cons, List.length_nil, List.replicate, List.cons_append, List.nil_append, rcv_r, ls_0, ls_i, ls_r, ls_j, ol_lt, ol_le, ol_gt, ol_ge, ol_eq, ol_ne, v_in, v_out, v_isBall, v_isHand, v_shotM, v_shotC, ol_min, ol_max, Bool.and_true, Bool.true_and, Bool.and_false, Bool.false_and, Bool.or_true, Bool.true_or, Bool.or_false, Bool.false_or, if_pos, if_neg, not_true_eq_false, not_false_eq_true, decide_true, decide_false, f1_0, f1_1, f1_2, p1_2, f1_3, p1_3, f1_4, p1_4, f1_5, p1_5, f1_6, p1_6, c1, a2, s2, List.getElem?_cons_zero, List.getElem?_cons_succ, e_add, e_sub, e_mul, e_div, e_rem, ↓reduceIte, reduceIte, Int.reduceAdd, Int.reduceMul, Int.reduceSub, Int.reduceNeg, Int.reduceLT, Int.reduceLE, Int.reduceEq, Int.reduceToNat, Nat.reduceAdd, Nat.reduceSub, Nat.reduceMul, Nat.reduceLeDiff, Nat.reduceLT, Nat.reduceEqDiff, ite_true, ite_false, if_true, if_false, Bool.false_eq_true, Bool.not_true, Bool.not_false, Int.toNat_natCast, true_and, and_true, true_or, or_true, and_self, or_self, or_false, false_or, false_and, and_false, Int.neg_neg, Int.neg_zero, Nat.add_zero, Nat.zero_add, Int.zero_add, Int.add_zero, Int.sub_zero, Int.zero_sub, Int.one_ne_zero, wX7_readToken_0c, q1, r2, rb])
    (by
      rintro k L g' hk ⟨rfl, q1, q2⟩
      have ek : ((a + k : Nat) : Int) + 1 = ((a + (k + 1) : Nat) : Int) := by omega
      refine ⟨[.inr (.inl (some 1))], pu g' 1 3 ((a + (k + 1) : Nat) : Int), ?_, rfl, pr_eq, fun x j hx => by rw [pr_ne hx]; exact q2 x j hx⟩
      clear e3 e4 q2
      simp (disch := (first | with_reducible assumption | omega)) only [x_c, x_fi, x_fr, x_fj, x_vi, x_vr, x_vj, x_fi1, x_fi2, x_fr1, x_fr2, x_fj1, x_fj2, x_ai1, x_ai2, x_ai3, x_ar1, x_ar2, x_ar3, x_t1, x_t2, x_t3, x_t4, x_21, x_22, x_23, x_24, x_n1, x_n2, x_ji1, x_ji2, x_jc, x_j21, x_j22, x_j23, x_js1, x_js2, x_js3, x_ij1, x_ij2, x_ib1, x_ib2, x_c21, x_c22, x_c23, x_cz1, x_cz2, x_an1, x_an2, x_an3, x_or1, x_or2, x_or3, x_nt1, x_nt2, x_anm, x_orm, x_anm0, x_orm0, x_if1, x_if2, x_if3, x_ifm, x_ifm0, x_cf1, x_cf2, x_cf3, x_cfm, x_cfm0, x_a0, x_pi1, x_pi2, x_pr1, x_pr2, x_pj1, x_pj2, x_av, x_cv1, x_cv2, x_cv3, x_cs1, x_cs2, x_cl, x_of1, x_of2, x_so1, x_so2, x_fe1, x_fe2, x_fe3, x_sq1, x_sq2, x_sq3, x_sk, x_st1, x_st2, x_sr1, x_sr2, x_in1, x_in2, x_sf1, x_sf2, x_sf3, x_rt1, x_rt2, x_rz1, x_rz2, x_rj1, x_rj2, x_rv, x_ue, x_pf1, x_pf2, x_pf3, x_pz1, x_pz2, x_pz3, x_as1, x_as2, x_as3, x_as4, x_bs1, x_bs2, x_bs3, x_bs4, x_zs1, x_zs2, x_zs3, x_zs4, x_uf1, x_uf2, x_uf3, x_uf4, x_uf5, x_ua1, x_ua2, x_ua3, x_ua4, x_ua5, x_ua6, x_cp1, x_cp2, x_cp3, x_sw1, x_sw2, x_sw3, b_t, b_f, b_a, b_o, b_n, b_i, pu_e, w_d, ex_0, ex_i, ex_r, ex_j, ol_ent, List.length_cons, List.length_nil, List.replicate, List.cons_append, List.nil_append, rcv_r, ls_0, ls_i, ls_r, ls_j, ol_lt, ol_le, ol_gt, ol_ge, ol_eq, ol_ne, v_in, v_out, v_isBall, v_isHand, v_shotM, v_shotC, ol_min, ol_max, Bool.and_true, Bool.true_and, Bool.and_false, Bool.false_and, Bool.or_true, Bool.true_or, Bool.or_false, Bool.false_or, if_pos, if_neg, not_true_eq_false, not_false_eq_true, decide_true, decide_false, f1_0, f1_1, f1_2, p1_2, f1_3, p1_3, f1_4, p1_4, f1_5, p1_5, f1_6, p1_6, c1, List.getElem?_cons_zero, List.getElem?_cons_succ, e_add, e_sub, e_mul, e_div, e_rem, ↓reduceIte, reduceIte, Int.reduceAdd, Int.reduceMul, Int.reduceSub, Int.reduceNeg, Int.reduceLT, Int.reduceLE, Int.reduceEq, Int.reduceToNat, Nat.reduceAdd, Nat.reduceSub, Nat.reduceMul, Nat.reduceLeDiff, Nat.reduceLT, Nat.reduceEqDiff, ite_true, ite_false, if_true, if_false, Bool.false_eq_true, Bool.not_true, Bool.not_false, Int.toNat_natCast, true_and, and_true, true_or, or_true, and_self, or_self, or_false, false_or, false_and, and_false, Int.neg_neg, Int.neg_zero, Nat.add_zero, Nat.zero_add, Int.zero_add, Int.add_zero, Int.sub_zero, Int.zero_sub, Int.one_ne_zero, wX7_readToken_0b, q1, ek]) (L := [.inr (.inl (some 1))]) ⟨rfl, ha, fun _ _ _ => rfl⟩
  rw [show a + (e - a) = e by omega] at q1
  rw [ew]
  have : g' = pu g 1 3 (e : Int) := by
    funext x j
    by_cases c : x = 1 ∧ j = 3
    · obtain ⟨rfl, rfl⟩ := c; rw [pr_eq]; exact q1
    · rw [pr_ne c]; exact q2 x j c
  rw [this]
