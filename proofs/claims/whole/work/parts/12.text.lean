/-! Math.max, Math.min; texts: what String's own methods do with our two -/
def ol_max (x y : Int) : Option Int := some (if x < y then y else x)
def ol_min (x y : Int) : Option Int := some (if y < x then y else x)
def ei_cs : ol_IE := fun _ h => some (1, h)
def ei_sc (r : ol_RE) : ol_IE := fun L h => (r L h).bind fun p => if p.1 = 1000003 ∨ p.1 = 1000004 then some (0, p.2) else none
def er_sv (r : ol_RE) : ol_RE := fun L h => (r L h).bind fun p => if p.1 = 1000003 ∨ p.1 = 1000004 then some (p.1 + 2, p.2) else none
def ei_xl (r : ol_RE) : ol_IE := fun L h => (r L h).bind fun p => if p.1 = 1000005 ∨ p.1 = 1000006 then some ((ol_len (p.1 - 1000005) : Int), p.2) else none
def ol_bt (i j : Nat) : Int := (([[108, 97, 121], [115, 116, 114, 105, 112]] : List (List Int)).getD i []).getD j 0
def ei_xa (r : ol_RE) (e : ol_IE) : ol_IE := fun L h => (r L h).bind fun p => (e L p.2).bind fun q => if (p.1 = 1000005 ∨ p.1 = 1000006) ∧ 0 ≤ q.1 ∧ q.1 < (ol_len (p.1 - 1000005) : Int) then some (ol_bt (p.1 - 1000005) q.1.toNat, q.2) else none
def ei_ch (e : ol_IE) : ol_IE := fun L h => (e L h).bind fun p => if 0 ≤ p.1 ∧ p.1 < 128 then some (p.1, p.2) else none
def ea_cx (f : ol_FE) (a : ol_AE) (L : ol_L) (h : ol_H) : Option (Option ol_V × ol_H) := (a L h).bind fun p => if p.1.head? = some (.inr (.inl (some 1000003))) ∨ p.1.head? = some (.inr (.inl (some 1000004))) then ol_cal f p.1 p.2 else none
def es_rtc (e : ol_IE) : ol_SE := fun L h => (e L h).bind fun p => if 0 ≤ p.1 ∧ p.1 < 128 then some (some (some (.inl p.1)), L, p.2) else none
def es_rtb (e : ol_IE) : ol_SE := fun L h => (e L h).bind fun p => if p.1 = 0 then some (some (some (.inl p.1)), L, p.2) else none
section OLT
variable {x : ol_X} {K : ol_K} {M Mc : ol_M} {d p p1 p2 p3 : Nat}
theorem ri_mx {index : Nat} {a b : ol_IE} (ha : IM_I x K M d p1 p2 a) (hb : IM_I x K M (d + 1) p2 p b) (hd : decode M.1 p = .ok (.invokestatic index, 3)) (hw : Cond.methodLink M.2.1 index Lib.Math.max.name ∈ ol_tb) (hw2 : Cond.static Lib.Math.max.name ∈ ol_tb ∧ Cond.initialized "java/lang/Math" ∈ ol_tb ∧ Cond.code Lib.Math.max.name Lib.Math.max.code 2 (some .int) ∈ ol_tb) (hlv : 1 ≤ ml M) (hdp : d ≤ 8) : IM_I x K M d p1 (p + 3) (ei_2 ol_max a b) := by
  intro ok L h stk v h' hcs hf kk
  simp only [ei_2, Option.bind_eq_some_iff] at hf
  obtain ⟨⟨a1, h1⟩, e1, ⟨b1, h2⟩, e2, n, e3, e4⟩ := hf
  cases e4
  cases e3
  refine ha ok L h stk a1 _ hcs e1 fun i1 => ?_
  refine hb ok L h1 _ b1 _ (ol_cs1 rfl hcs) e2 fun i2 => ?_
  intro hB H locs ls hW hS hL
  have hts := ok.2.2.2.1
  have hfr : ml M ≤ (xR x).frames := ok.2.2.2.2.2.2.2.2.2.1
  have hlo : 60 * ml M ≤ (xR x).locals := ok.2.2.2.2.2.2.2.2.2.2.1
  have hc : ol_cs stk ≤ 8 := Nat.le_trans hcs hdp
  refine va_mmax ok.1 ok.2.1 (by rw [hL.1]) ok.2.2.1 (hts _ hw) (hts _ hw2.1) (hts _ hw2.2.1) (hts _ hw2.2.2) (by omega) (by show ol_cs stk + 13 ≤ _; omega) hB.1 hB.2.1 hd ?_
  by_cases hlt : a1 < b1
  · rw [if_pos ((ol_lt32 i1 i2).mpr hlt)]
    have := kk (by rw [if_pos hlt]; exact i2) hB H locs ls hW hS hL
    rw [if_pos hlt] at this
    exact this
  · rw [if_neg (fun z => hlt ((ol_lt32 i1 i2).mp z))]
    have := kk (by rw [if_neg hlt]; exact i1) hB H locs ls hW hS hL
    rw [if_neg hlt] at this
    exact this
theorem ri_mi {index : Nat} {a b : ol_IE} (ha : IM_I x K M d p1 p2 a) (hb : IM_I x K M (d + 1) p2 p b) (hd : decode M.1 p = .ok (.invokestatic index, 3)) (hw : Cond.methodLink M.2.1 index Lib.Math.min.name ∈ ol_tb) (hw2 : Cond.static Lib.Math.min.name ∈ ol_tb ∧ Cond.initialized "java/lang/Math" ∈ ol_tb ∧ Cond.code Lib.Math.min.name Lib.Math.min.code 2 (some .int) ∈ ol_tb) (hlv : 1 ≤ ml M) (hdp : d ≤ 8) : IM_I x K M d p1 (p + 3) (ei_2 ol_min a b) := by
  intro ok L h stk v h' hcs hf kk
  simp only [ei_2, Option.bind_eq_some_iff] at hf
  obtain ⟨⟨a1, h1⟩, e1, ⟨b1, h2⟩, e2, n, e3, e4⟩ := hf
  cases e4
  cases e3
  refine ha ok L h stk a1 _ hcs e1 fun i1 => ?_
  refine hb ok L h1 _ b1 _ (ol_cs1 rfl hcs) e2 fun i2 => ?_
  intro hB H locs ls hW hS hL
  have hts := ok.2.2.2.1
  have hfr : ml M ≤ (xR x).frames := ok.2.2.2.2.2.2.2.2.2.1
  have hlo : 60 * ml M ≤ (xR x).locals := ok.2.2.2.2.2.2.2.2.2.2.1
  have hc : ol_cs stk ≤ 8 := Nat.le_trans hcs hdp
  refine va_mmin ok.1 ok.2.1 (by rw [hL.1]) ok.2.2.1 (hts _ hw) (hts _ hw2.1) (hts _ hw2.2.1) (hts _ hw2.2.2) (by omega) (by show ol_cs stk + 13 ≤ _; omega) hB.1 hB.2.1 hd ?_
  by_cases hlt : b1 < a1
  · rw [if_pos ((ol_lt32 i2 i1).mpr hlt)]
    have := kk (by rw [if_pos hlt]; exact i2) hB H locs ls hW hS hL
    rw [if_pos hlt] at this
    exact this
  · rw [if_neg (fun z => hlt ((ol_lt32 i2 i1).mp z))]
    have := kk (by rw [if_neg hlt]; exact i1) hB H locs ls hW hS hL
    rw [if_neg hlt] at this
    exact this
theorem ol_adx {a i : Nat} (h : a = 1000000 + i) : ol_ad K a = K.2.2.2 i := by
  unfold ol_ad
  rw [if_neg (by omega), show a - 1000000 = i by omega]
theorem ri_cs {index : Nat} (hd : decode M.1 p = .ok (.getstatic index, 3)) (hw : Cond.fieldLink M.2.1 index "java/lang/String" "COMPACT_STRINGS" "Z" ∈ ol_tb) : IM_I x K M d p (p + 3) ei_cs := by
  intro ok L h stk v h' hcs hf kk hb H locs ls hW hS hL
  cases hf
  exact va_gets ok.1 ok.2.1 ok.2.2.2.2.2.1.2.2.1 hS ok.2.2.1 (ok.2.2.2.1 _ hw) (fun _ q => q) hd (kk (by unfold ol_inR; omega) hb H locs ls hW hS hL)
theorem ri_sc {index : Nat} {r : ol_RE} (hr : IM_R x K M d p1 p r) (hd : decode M.1 p = .ok (.getfield index, 3)) (hw : Cond.fieldLink M.2.1 index "java/lang/String" "coder" "B" ∈ ol_tb) : IM_I x K M d p1 (p + 3) (ei_sc r) := by
  intro ok L h stk v h' hcs hf kk
  simp only [ei_sc, Option.bind_eq_some_iff] at hf
  obtain ⟨⟨a, h1⟩, e1, e2⟩ := hf
  dsimp only at e2
  split at e2
  case isFalse => cases e2
  rename_i ha
  cases e2
  refine hr ok L h stk a _ hcs e1 ?_
  intro hb H locs ls hW hS hL
  have hs := ok.2.2.2.2.2.1.2.1
  rcases ha with rfl | rfl
  · rw [ol_adx (i := 3) rfl]
    exact vk_getf ok.1 ok.2.1 (hs.1 0 (by decide)).2.1 hS ok.2.2.1 (ok.2.2.2.1 _ hw) (fun _ q => q) hd (kk ol_in0 hb H locs ls hW hS hL)
  · rw [ol_adx (i := 4) rfl]
    exact vk_getf ok.1 ok.2.1 (hs.1 1 (by decide)).2.1 hS ok.2.2.1 (ok.2.2.2.1 _ hw) (fun _ q => q) hd (kk ol_in0 hb H locs ls hW hS hL)
theorem rr_sv {index : Nat} {r : ol_RE} (hr : IM_R x K M d p1 p r) (hd : decode M.1 p = .ok (.getfield index, 3)) (hw : Cond.fieldLink M.2.1 index "java/lang/String" "value" "[B" ∈ ol_tb) : IM_R x K M d p1 (p + 3) (er_sv r) := by
  intro ok L h stk v h' hcs hf kk
  simp only [er_sv, Option.bind_eq_some_iff] at hf
  obtain ⟨⟨a, h1⟩, e1, e2⟩ := hf
  dsimp only at e2
  split at e2
  case isFalse => cases e2
  rename_i ha
  cases e2
  refine hr ok L h stk a _ hcs e1 ?_
  intro hb H locs ls hW hS hL
  have hs := ok.2.2.2.2.2.1.2.1
  have := kk hb H locs ls hW hS hL
  rcases ha with rfl | rfl
  · rw [ol_adx (i := 3) rfl]
    rw [ol_adx (i := 5) rfl] at this
    exact vk_getf ok.1 ok.2.1 (hs.1 0 (by decide)).2.2.1 hS ok.2.2.1 (ok.2.2.2.1 _ hw) (fun _ q => q) hd this
  · rw [ol_adx (i := 4) rfl]
    rw [ol_adx (i := 6) rfl] at this
    exact vk_getf ok.1 ok.2.1 (hs.1 1 (by decide)).2.2.1 hS ok.2.2.1 (ok.2.2.2.1 _ hw) (fun _ q => q) hd this
theorem ri_xl {r : ol_RE} (hr : IM_R x K M d p1 p r) (hd : decode M.1 p = .ok (.arraylength, 1)) : IM_I x K M d p1 (p + 1) (ei_xl r) := by
  intro ok L h stk v h' hcs hf kk
  simp only [ei_xl, Option.bind_eq_some_iff] at hf
  obtain ⟨⟨a, h1⟩, e1, e2⟩ := hf
  dsimp only at e2
  split at e2
  case isFalse => cases e2
  rename_i ha
  cases e2
  refine hr ok L h stk a _ hcs e1 ?_
  intro hb H locs ls hW hS hL
  have hs := ok.2.2.2.2.2.1.2.1
  rcases ha with rfl | rfl
  · rw [ol_adx (i := 5) rfl]
    exact va_tlen ok.1 ok.2.1 (hs.1 0 (by decide)).2.2.2 hS rfl hd (kk (show ol_inR 3 by unfold ol_inR; omega) hb H locs ls hW hS hL)
  · rw [ol_adx (i := 6) rfl]
    exact va_tlen ok.1 ok.2.1 (hs.1 1 (by decide)).2.2.2 hS rfl hd (kk (show ol_inR 5 by unfold ol_inR; omega) hb H locs ls hW hS hL)
theorem ri_xa {r : ol_RE} {e : ol_IE} (hr : IM_R x K M d p1 p2 r) (he : IM_I x K M (d + 1) p2 p e) (hd : decode M.1 p = .ok (.baload, 1)) : IM_I x K M d p1 (p + 1) (ei_xa r e) := by
  intro ok L h stk v h' hcs hf kk
  simp only [ei_xa, Option.bind_eq_some_iff] at hf
  obtain ⟨⟨a, h1⟩, e1, ⟨j, h2⟩, e2, e3⟩ := hf
  dsimp only at e3
  split at e3
  case isFalse => cases e3
  rename_i ha
  obtain ⟨rfl, rfl⟩ := Prod.mk.inj (Option.some.inj e3)
  obtain ⟨ha, hj0, hj1⟩ := ha
  refine hr ok L h stk a _ hcs e1 ?_
  refine he ok L h1 _ j _ (ol_cs1 rfl hcs) e2 fun hj => ?_
  intro hb H locs ls hW hS hL
  have hs := ok.2.2.2.2.2.1.2.1
  rcases ha with rfl | rfl
  · rw [ol_adx (i := 5) rfl]
    have hj2 : j < 3 := hj1
    have hjn : j.toNat < 3 := by omega
    refine va_tb ok.1 ok.2.1 (hs.1 0 (by decide)).2.2.2 hS (ol_vin hj hj0 hjn) rfl hd ?_
    rw [ol_nat32 hj hj0]
    have hb9 : ∀ k, k < 3 → (-2147483648 ≤ ol_bt 0 k ∧ ol_bt 0 k ≤ 2147483647) ∧ (([[108, 97, 121], [115, 116, 114, 105, 112]] : List (List Int32)).getD 0 []).getD k 0 = Int32.ofInt (ol_bt 0 k) := by decide
    have := kk (hb9 _ hjn).1 hb H locs ls hW hS hL
    show ol_W x H locs _ _ (F0 _ _ _ (.int ((([[108, 97, 121], [115, 116, 114, 105, 112]] : List (List Int32)).getD 0 []).getD j.toNat 0) :: stk))
    rw [(hb9 _ hjn).2]
    exact this
  · rw [ol_adx (i := 6) rfl]
    have hj2 : j < 5 := hj1
    have hjn : j.toNat < 5 := by omega
    refine va_tb ok.1 ok.2.1 (hs.1 1 (by decide)).2.2.2 hS (ol_vin hj hj0 hjn) rfl hd ?_
    rw [ol_nat32 hj hj0]
    have hb9 : ∀ k, k < 5 → (-2147483648 ≤ ol_bt 1 k ∧ ol_bt 1 k ≤ 2147483647) ∧ (([[108, 97, 121], [115, 116, 114, 105, 112]] : List (List Int32)).getD 1 []).getD k 0 = Int32.ofInt (ol_bt 1 k) := by decide
    have := kk (hb9 _ hjn).1 hb H locs ls hW hS hL
    show ol_W x H locs _ _ (F0 _ _ _ (.int ((([[108, 97, 121], [115, 116, 114, 105, 112]] : List (List Int32)).getD 1 []).getD j.toNat 0) :: stk))
    rw [(hb9 _ hjn).2]
    exact this
theorem ri_ch {e : ol_IE} (he : IM_I x K M d p1 p e) (hd : decode M.1 p = .ok (.i2c, 1)) : IM_I x K M d p1 (p + 1) (ei_ch e) := by
  intro ok L h stk v h' hcs hf kk
  simp only [ei_ch, Option.bind_eq_some_iff] at hf
  obtain ⟨⟨n, h1⟩, e1, e2⟩ := hf
  dsimp only at e2
  split at e2
  case isFalse => cases e2
  rename_i h01
  obtain ⟨rfl, rfl⟩ := Prod.mk.inj (Option.some.inj e2)
  refine he ok L h stk n _ hcs e1 fun hn => ?_
  intro hb H locs ls hW hS hL
  refine lv_i2c ok.1 ok.2.1 hd ?_ (kk hn hb H locs ls hW hS hL)
  obtain ⟨k, rfl⟩ : ∃ k : Nat, n = (k : Int) := ⟨n.toNat, by omega⟩
  have hk : k < 128 := by omega
  have hall : ∀ k : Fin 128, ((Int32.ofInt ((k.val : Nat) : Int)).toUInt32 % 65536).toInt32 = Int32.ofInt ((k.val : Nat) : Int) := by decide +kernel
  exact hall ⟨k, hk⟩
theorem rs_rtc {e : ol_IE} (he : IM_I x K M 0 p1 p e) (hr : mr M = some .char) (hd : decode M.1 p = .ok (.ireturn, 1)) : IM_S x K M p1 p2 (es_rtc e) := by
  intro ok L h c L' h' hf kn kr
  simp only [es_rtc, Option.bind_eq_some_iff] at hf
  obtain ⟨⟨v, h1⟩, e1, e2⟩ := hf
  dsimp only at e2
  split at e2
  · rename_i h01
    cases e2
    refine he ok L h [] v _ (Nat.le_refl _) e1 fun hv => ?_
    intro hb H locs ls hW hS hL
    exact kr _ rfl (by rw [hr]; exact h01) hb H locs ls p hW hS hd
  · cases e2
theorem rs_rtb {e : ol_IE} (he : IM_I x K M 0 p1 p e) (hr : mr M = some .byte) (hd : decode M.1 p = .ok (.ireturn, 1)) : IM_S x K M p1 p2 (es_rtb e) := by
  intro ok L h c L' h' hf kn kr
  simp only [es_rtb, Option.bind_eq_some_iff] at hf
  obtain ⟨⟨v, h1⟩, e1, e2⟩ := hf
  dsimp only at e2
  split at e2
  · rename_i h01
    cases e2
    refine he ok L h [] v _ (Nat.le_refl _) e1 fun hv => ?_
    intro hb H locs ls hW hS hL
    exact kr _ rfl (by rw [hr]; exact h01) hb H locs ls p hW hS hd
  · cases e2
theorem rk_x {index n : Nat} {y : MethodName} {f : ol_FE} {a : ol_AE} (hcon : ol_Con (xl x) K y Mc f) (ha : IM_A x K M d p1 p a) (hd : decode M.1 p = .ok (.invokevirtual index, 3)) (hcw : ol_cw M.2.1 index y Mc n) (hin : Cond.instanceMethod y ∈ ol_tb) (hse : Cond.selects y.cls y y ∈ ol_tb) (hq : y.cls = "java/lang/String") (hm : mc Mc = 0 ∧ ms Mc = 0 ∧ mn Mc ≤ 41) (hlv : ml Mc < ml M) (hdp : d ≤ 8)
    (hnn : ∀ L h vs h', a L h = some (vs, h') → vs.length = n + 1) : IM_K x K M d p1 (p + 3) (mr Mc) (ea_cx f a) := by
  intro ok L h stk r h' hcs hf kk
  simp only [ea_cx, Option.bind_eq_some_iff] at hf
  obtain ⟨⟨vs, h1⟩, e1, e2⟩ := hf
  dsimp only at e2
  split at e2
  case isFalse => cases e2
  rename_i hrc
  obtain ⟨cs', e3, rfl⟩ := ol_cal_inv e2
  refine ha ok L h stk vs _ hcs e1 fun hvs => ?_
  intro hb H locs ls hW hS hL
  refine ol_sz fun hsz => ?_
  have hlen := hnn _ _ _ _ e1
  have hs := ok.2.2.2.2.2.1.2.1
  obtain ⟨b, vt, rfl, hrv⟩ : ∃ (b : Nat) (vt : List ol_V), vs = .inr (.inl (some b)) :: vt ∧ ∃ cell : Cell, H[ol_ad K b]? = some cell ∧ cell.vm.isStatics = false ∧ (xs x).vm.findClass y.cls = some cell.cls := by
    cases vs with
    | nil => simp at hlen
    | cons w vt =>
      simp only [List.head?_cons, Option.some.injEq] at hrc
      rw [hq]
      rcases hrc with rfl | rfl
      · exact ⟨1000003, vt, rfl, by rw [ol_adx (i := 3) rfl]; exact vk_recv hs (i := 0) (by decide) hS⟩
      · exact ⟨1000004, vt, rfl, by rw [ol_adx (i := 4) rfl]; exact vk_recv hs (i := 1) (by decide) hS⟩
  have hM := hcon _ h1.1 r cs' hvs (by rw [hm.1, hm.2.1]; exact e3)
  have hcv : CallW (xR x) (xs x) (xa x) M.2.1 y.cls index y Mc.1 (mn Mc) (mr Mc) (ol_wd y Mc) (ol_rm Mc) (mc Mc) (ms Mc) n := ⟨ol_cB ok hcw hlv hm.2.2, ok.2.2.2.1 _ hin, ok.2.2.2.1 _ hse⟩
  have hrun := va_runV (e := xe x) (below := xb x) (meth := xt x) (locs := locs) (cells := h1.2.1) (slots := h1.2.2) (H := H) (g := F0 (xm x) p ls (((Sum.inr (Sum.inl (some b)) :: vt).map (ol_tv K)).reverse ++ stk)) (As := vt.map (ol_tv K)) (b := ol_ad K b) (rest := stk) ⟨ok.1, ok.2.1, ok.2.2.2.2.2.2.2.2.2.2.2.2.2.2.1, ok.2.2.1, ok.2.2.2.1⟩ hM hcv
    ⟨ol_Pc_blind _ _, hrv, fun U hU hWm => ⟨rfl, by rw [hU]; exact ol_size_eq ok hb hW hsz, by rw [hU]; exact hW, va_K.moved hWm.alike ok.2.2.2.2.1, ol_Ext_at ok hS hU hWm, ok.2.2.2.2.2.2.2.2.2.2.2.2.2.1.warm hWm⟩⟩
    rfl (by simp at hlen; simpa using hlen) (by show ls.size = mn M; rw [hL.1]; exact ok.2.2.2.2.2.2.2.2.2.2.2.2.2.2.1) (by simp [ol_tv]) (lv_room (Nat.le_trans hcs hdp)) hd ⟨by rw [hm.1]; exact hb.1, by rw [hm.2.1]; exact hb.2.1⟩
  refine ol_after hrun hS fun H1 locs1 hW1 hS1 hl1 hrt => ?_
  have h0 : h1.2.1 + mc Mc = h1.2.1 := by rw [hm.1]; rfl
  have h00 : h1.2.2 + ms Mc = h1.2.2 := by rw [hm.2.1]; rfl
  rw [h0, h00]
  exact kk hrt ⟨hb.1, hb.2.1, by have h9 := hb.2.2; have h8 := hm.1; show K.1 + cs'.length = (xs x).heap.size + h1.2.1; omega⟩ H1 locs1 ls hW1 hS1 hL
end OLT
