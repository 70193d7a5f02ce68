/-! how many arguments -/
def ol_al (a : ol_AE) (n : Nat) : Prop := ∀ L h vs h', a L h = some (vs, h') → vs.length = n
theorem al_0 : ol_al ea_0 0 := by
  intro L h vs h' e
  cases e
  rfl
theorem al_i {e : ol_IE} {r : ol_AE} {n : Nat} (hr : ol_al r n) : ol_al (ea_i e r) (n + 1) := by
  intro L h vs h' hf
  simp only [ea_i, Option.bind_eq_some_iff] at hf
  obtain ⟨⟨m, h1⟩, e1, ⟨ws, h2⟩, e2, e3⟩ := hf
  cases e3
  simp [hr _ _ _ _ e2]
theorem al_r {e : ol_RE} {r : ol_AE} {n : Nat} (hr : ol_al r n) : ol_al (ea_r e r) (n + 1) := by
  intro L h vs h' hf
  simp only [ea_r, Option.bind_eq_some_iff] at hf
  obtain ⟨⟨m, h1⟩, e1, ⟨ws, h2⟩, e2, e3⟩ := hf
  cases e3
  simp [hr _ _ _ _ e2]
theorem al_j {e : ol_JE} {r : ol_AE} {n : Nat} (hr : ol_al r n) : ol_al (ea_j e r) (n + 1) := by
  intro L h vs h' hf
  simp only [ea_j, Option.bind_eq_some_iff] at hf
  obtain ⟨⟨m, h1⟩, e1, ⟨ws, h2⟩, e2, e3⟩ := hf
  cases e3
  simp [hr _ _ _ _ e2]
/-! long numbers -/
def ej_c (j : Int64) : ol_JE := fun _ h => some (j, h)
def ej_i (e : ol_IE) : ol_JE := fun L h => (e L h).bind fun p => some ((Int32.ofInt p.1).toInt64, p.2)
def ej_2 (f : Int64 → Int64 → Int64) (a b : ol_JE) : ol_JE := fun L h => (a L h).bind fun p => (b L p.2).bind fun q => some (f p.1 q.1, q.2)
def ej_s (f : Int64 → Int32 → Int64) (a : ol_JE) (b : ol_IE) : ol_JE := fun L h => (a L h).bind fun p => (b L p.2).bind fun q => some (f p.1 (Int32.ofInt q.1), q.2)
def ei_j (a : ol_JE) : ol_IE := fun L h => (a L h).bind fun p => some (p.1.toInt32.toInt, p.2)
def ei_b (a : ol_IE) : ol_IE := fun L h => (a L h).bind fun p => some (ol_nb p.1, p.2)
def ej_add (x y : Int64) : Int64 := x + y
def ej_and (x y : Int64) : Int64 := x &&& y
def ej_or (x y : Int64) : Int64 := x ||| y
def ej_shl (x : Int64) (y : Int32) : Int64 := x <<< (y.toInt64 &&& 63)
def ej_shr (x : Int64) (y : Int32) : Int64 := x >>> (y.toInt64 &&& 63)
def ej_ush (x : Int64) (y : Int32) : Int64 := (x.toUInt64 >>> (y.toInt64.toUInt64 &&& Int64.toUInt64 63)).toInt64
def es_uj (ci j : Nat) (r : ol_RE) (e : ol_JE) : ol_SE := fun L h => (r L h).bind fun p => (ol_lng (ol_fld p.2 ci p.1 j)).bind fun v => (e L p.2).bind fun q => (ol_put q.2 ci p.1 j (.inr (.inr (v + q.1)))).bind fun h' => some (none, L, h')
def ec_j (a b : ol_JE) : ol_CE := fun L h => (a L h).bind fun p => (b L p.2).bind fun q => some (decide (¬ p.1 = q.1), q.2)
def ol_ush (x y : Int) : Option Int := some (((Int32.ofInt x).toUInt32 >>> ((Int32.ofInt y).toUInt32 &&& Int32.toUInt32 31)).toInt32).toInt
/-! copies of rows of numbers -/
def ol_cp (h : ol_H) (a b n : Nat) : Option ol_H := (h.1[a]?).bind fun c => (h.1[b]?).bind fun e => if c.1 = 100 ∧ e.1 = 100 ∧ n ≤ c.2.length ∧ n ≤ e.2.length then some (h.1.set b (100, c.2.take n ++ e.2.drop n), h.2) else none
def es_cp (r1 r2 : ol_RE) (n : Nat) : ol_SE := fun L h => (r1 L h).bind fun p => (r2 L p.2).bind fun q => (ol_cp q.2 p.1 q.1 n).bind fun h' => some (none, L, h')
/-! choices -/
def es_sw (e : ol_IE) (lo : Int) (bs : List ol_SE) (d : ol_SE) : ol_SE := fun L h => (e L h).bind fun p => if lo ≤ p.1 then (bs.getD (p.1 - lo).toNat d) L p.2 else d L p.2
section OLM
variable {x : ol_X} {K : ol_K} {M Mc : ol_M} {d p p1 p2 p3 p4 p5 pE pT pF pD : Nat}
theorem ol_op_ush : ol_op2 .iushr ol_ush := by
  intro p l e R s m args below meth c H locs cells slots Q cc pc ls rest a b n h1 h2 h3 ha hb hf kk
  cases hf
  have kk := kk (ol_in32 _)
  rw [Int32.ofInt_toInt] at kk
  exact lv_iushr h1 h2 h3 rfl kk
theorem rj_c {k : Fin 2} {j : Int64} (hd : decode M.1 p = .ok (.lconst k, 1)) (hv : Int64.ofNat (k : Nat) = j) : IM_J x K M d p (p + 1) (ej_c j) := by
  intro ok L h stk v h' hcs hf kk hb H locs ls hW hS hL
  cases hf
  exact lv_lconst ok.1 ok.2.1 hd hv (kk hb H locs ls hW hS hL)
theorem rj_ldc {index : Nat} {j : Int64} (hd : decode M.1 p = .ok (.ldc2_w index, 3)) (hw : Cond.constantLong M.2.1 index j ∈ ol_tb) : IM_J x K M d p (p + 3) (ej_c j) := by
  intro ok L h stk v h' hcs hf kk hb H locs ls hW hS hL
  cases hf
  exact lv_ldc2 ok.1 ok.2.1 ok.2.2.1 (ok.2.2.2.1 _ hw) hd (kk hb H locs ls hW hS hL)
theorem rj_i {e : ol_IE} (he : IM_I x K M d p1 p e) (hd : decode M.1 p = .ok (.i2l, 1)) : IM_J x K M d p1 (p + 1) (ej_i e) := by
  intro ok L h stk v h' hcs hf kk
  simp only [ej_i, Option.bind_eq_some_iff] at hf
  obtain ⟨⟨n, h1⟩, e1, e2⟩ := hf
  cases e2
  refine he ok L h stk n _ hcs e1 fun hn => ?_
  intro hb H locs ls hW hS hL
  exact lv_i2l ok.1 ok.2.1 hd rfl (kk hb H locs ls hW hS hL)
theorem ri_j {e : ol_JE} (he : IM_J x K M d p1 p e) (hd : decode M.1 p = .ok (.l2i, 1)) : IM_I x K M d p1 (p + 1) (ei_j e) := by
  intro ok L h stk v h' hcs hf kk
  simp only [ei_j, Option.bind_eq_some_iff] at hf
  obtain ⟨⟨n, h1⟩, e1, e2⟩ := hf
  cases e2
  refine he ok L h stk n _ hcs e1 ?_
  intro hb H locs ls hW hS hL
  have kk := kk (ol_in32 _) hb H locs ls hW hS hL
  rw [Int32.ofInt_toInt] at kk
  exact lv_l2i ok.1 ok.2.1 hd rfl kk
theorem ri_b {e : ol_IE} (he : IM_I x K M d p1 p e) (hd : decode M.1 p = .ok (.i2b, 1)) : IM_I x K M d p1 (p + 1) (ei_b e) := by
  intro ok L h stk v h' hcs hf kk
  simp only [ei_b, Option.bind_eq_some_iff] at hf
  obtain ⟨⟨n, h1⟩, e1, e2⟩ := hf
  cases e2
  refine he ok L h stk n _ hcs e1 fun hn => ?_
  intro hb H locs ls hW hS hL
  have kk := kk (ol_in32 _) hb H locs ls hW hS hL
  unfold ol_nb at kk
  rw [Int32.ofInt_toInt] at kk
  exact lv_i2b ok.1 ok.2.1 hd rfl kk
theorem rj_and {a b : ol_JE} (ha : IM_J x K M d p1 p2 a) (hb : IM_J x K M (d + 2) p2 p b) (hd : decode M.1 p = .ok (.land, 1)) : IM_J x K M d p1 (p + 1) (ej_2 ej_and a b) := by
  intro ok L h stk v h' hcs hf kk
  simp only [ej_2, Option.bind_eq_some_iff] at hf
  obtain ⟨⟨a1, h1⟩, e1, ⟨b1, h2⟩, e2, e4⟩ := hf
  cases e4
  refine ha ok L h stk a1 _ hcs e1 ?_
  refine hb ok L h1 _ b1 _ (ol_cs2 rfl hcs) e2 ?_
  intro hb H locs ls hW hS hL
  exact lv_land ok.1 ok.2.1 hd (kk hb H locs ls hW hS hL)
theorem rj_or {a b : ol_JE} (ha : IM_J x K M d p1 p2 a) (hb : IM_J x K M (d + 2) p2 p b) (hd : decode M.1 p = .ok (.lor, 1)) : IM_J x K M d p1 (p + 1) (ej_2 ej_or a b) := by
  intro ok L h stk v h' hcs hf kk
  simp only [ej_2, Option.bind_eq_some_iff] at hf
  obtain ⟨⟨a1, h1⟩, e1, ⟨b1, h2⟩, e2, e4⟩ := hf
  cases e4
  refine ha ok L h stk a1 _ hcs e1 ?_
  refine hb ok L h1 _ b1 _ (ol_cs2 rfl hcs) e2 ?_
  intro hb H locs ls hW hS hL
  exact lv_lor ok.1 ok.2.1 hd (kk hb H locs ls hW hS hL)
theorem rj_shl {a : ol_JE} {b : ol_IE} (ha : IM_J x K M d p1 p2 a) (hb : IM_I x K M (d + 2) p2 p b) (hd : decode M.1 p = .ok (.lshl, 1)) : IM_J x K M d p1 (p + 1) (ej_s ej_shl a b) := by
  intro ok L h stk v h' hcs hf kk
  simp only [ej_s, Option.bind_eq_some_iff] at hf
  obtain ⟨⟨a1, h1⟩, e1, ⟨b1, h2⟩, e2, e4⟩ := hf
  cases e4
  refine ha ok L h stk a1 _ hcs e1 ?_
  refine hb ok L h1 _ b1 _ (ol_cs2 rfl hcs) e2 fun hn => ?_
  intro hb H locs ls hW hS hL
  exact lv_lshl ok.1 ok.2.1 hd rfl (kk hb H locs ls hW hS hL)
theorem rj_shr {a : ol_JE} {b : ol_IE} (ha : IM_J x K M d p1 p2 a) (hb : IM_I x K M (d + 2) p2 p b) (hd : decode M.1 p = .ok (.lshr, 1)) : IM_J x K M d p1 (p + 1) (ej_s ej_shr a b) := by
  intro ok L h stk v h' hcs hf kk
  simp only [ej_s, Option.bind_eq_some_iff] at hf
  obtain ⟨⟨a1, h1⟩, e1, ⟨b1, h2⟩, e2, e4⟩ := hf
  cases e4
  refine ha ok L h stk a1 _ hcs e1 ?_
  refine hb ok L h1 _ b1 _ (ol_cs2 rfl hcs) e2 fun hn => ?_
  intro hb H locs ls hW hS hL
  exact lv_lshr ok.1 ok.2.1 hd rfl (kk hb H locs ls hW hS hL)
theorem rj_ush {a : ol_JE} {b : ol_IE} (ha : IM_J x K M d p1 p2 a) (hb : IM_I x K M (d + 2) p2 p b) (hd : decode M.1 p = .ok (.lushr, 1)) : IM_J x K M d p1 (p + 1) (ej_s ej_ush a b) := by
  intro ok L h stk v h' hcs hf kk
  simp only [ej_s, Option.bind_eq_some_iff] at hf
  obtain ⟨⟨a1, h1⟩, e1, ⟨b1, h2⟩, e2, e4⟩ := hf
  cases e4
  refine ha ok L h stk a1 _ hcs e1 ?_
  refine hb ok L h1 _ b1 _ (ol_cs2 rfl hcs) e2 fun hn => ?_
  intro hb H locs ls hW hS hL
  exact lv_lushr ok.1 ok.2.1 hd rfl (kk hb H locs ls hW hS hL)
theorem rs_uj {ci j index index2 : Nat} {C : String} {T : u_T} {N : Nat} {ty0 : Nat → FieldType} {r : ol_RE} {e : ol_JE} (hr : IM_R x K M 0 p1 p2 r) (hd1 : decode M.1 p2 = .ok (.dup, 1)) (hd2 : decode M.1 (p2 + 1) = .ok (.getfield index, 3)) (he : IM_J x K M 3 (p2 + 4) p e) (hd3 : decode M.1 p = .ok (.ladd, 1)) (hg0 : ol_gf M.2.1 index ci j C T N) (hg : ol_pf M.2.1 index2 ci j C T N ty0 false) (hty : ty0 j = .long) (hd4 : decode M.1 (p + 1) = .ok (.putfield index2, 3)) : IM_S x K M p1 (p + 4) (es_uj ci j r e) := by
  intro ok L h c L' h' hf kn kr
  simp only [es_uj, Option.bind_eq_some_iff] at hf
  obtain ⟨⟨a, h1⟩, e1, v, e2, ⟨n, h2⟩, e3, h3, e5, e6⟩ := hf
  cases e6
  refine hr ok L h [] a _ (Nat.le_refl _) e1 ?_
  intro hb H locs ls hW hS hL
  refine lv_dup ok.1 ok.2.1 hd1 rfl ?_
  refine ol_getf hg0 hd2 ok (ol_lng_inv e2) hW (fun _ => ?_)
  refine he ok L h1 _ n _ (ol_cs2 rfl (ol_cs1 rfl (Nat.le_refl _))) e3 ?_ hb H locs ls hW hS hL
  intro hb H locs ls hW hS hL
  refine lv_ladd ok.1 ok.2.1 hd3 ?_
  exact ol_putf (v := .inr (.inr (v + n))) hg hd4 ok trivial (by rw [hty]; rfl) (by rw [hty]; rfl) e5 hW hS fun H1 locs1 hW1 hS1 => by
    have := kn rfl (ol_put_B e5 hb) H1 locs1 ls hW1 hS1 hL
    rw [ol_put_2 e5] at this
    exact this
theorem ol_cmp_eq (a b : Int64) : lg_cmp a b = 0 ↔ a = b := by
  unfold lg_cmp
  constructor
  · intro h
    split at h
    · cases h
    · split at h
      · assumption
      · cases h
  · intro h
    subst h
    simp
theorem rc_j {a b : ol_JE} {off : Int} (ha : IM_J x K M d p1 p2 a) (hb : IM_J x K M (d + 2) p2 p b) (hd : decode M.1 p = .ok (.lcmp, 1)) (hd2 : decode M.1 (p + 1) = .ok (.ifCond .eq off, 3)) (ht : ((p + 1 : Nat) : Int) + off = (pF : Int)) : IM_C x K M d p1 (p + 4) pF (ec_j a b) := by
  intro ok L h stk v h' hcs hf kt kf
  simp only [ec_j, Option.bind_eq_some_iff] at hf
  obtain ⟨⟨a1, h1⟩, e1, ⟨b1, h2⟩, e2, e4⟩ := hf
  cases e4
  refine ha ok L h stk a1 _ hcs e1 ?_
  refine hb ok L h1 _ b1 _ (ol_cs2 rfl hcs) e2 ?_
  intro hb H locs ls hW hS hL
  refine W.lcmp ok.1 ok.2.1 hd ?_
  refine lv_if_eq ok.1 ok.2.1 hd2 ht (fun z => kf ?_ hb H locs ls hW hS hL) (fun z => kt ?_ hb H locs ls hW hS hL)
  · have := (ol_cmp_eq a1 b1).mp z
    simp [this]
  · have := (not_congr (ol_cmp_eq a1 b1)).mp z
    simp [this]
/-! PIN_PLACE, read by a nest mate -/
theorem ri_tn {t index : Nat} {i : ol_IE} (ht : t < 3) (hd1 : decode M.1 p1 = .ok (.getstatic index, 3)) (hw : ol_fn = Cond.fieldLinkNest M.2.1 index "OilLane" (ol_tabf t) "[I" "OilLane") (hi : IM_I x K M (d + 1) (p1 + 3) p i) (hd : decode M.1 p = .ok (.iaload, 1)) : IM_I x K M d p1 (p + 1) (ei_t t i) := by
  intro ok L h stk v h' hcs hf kk hb H locs ls hW hS hL
  simp only [ei_t, Option.bind_eq_some_iff] at hf
  obtain ⟨⟨j, h1⟩, e1, e2⟩ := hf
  dsimp only at e2
  split at e2
  · rename_i hj
    cases e2
    obtain ⟨z1, z2⟩ := ok.2.2.2.2.2.1.1 t ht
    have hfn := ok.2.2.2.2.2.2.2.2.2.2.2.2.2.1.2.2.1
    rw [hw] at hfn
    refine va_getsN ok.1 ok.2.1 z1 hS ok.2.2.1 (va_Nw.use rfl hfn) (fun _ q => q) hd1 ?_
    refine hi ok L h _ j _ (ol_cs1 rfl hcs) e1 (fun hj2 => ?_) hb H locs ls hW hS hL
    intro hb H locs ls hW hS hL
    obtain ⟨cell, t1, t2, t3, t4, t5, t6, t7⟩ := z2
    have hjn : j.toNat < ol_tabn t := by omega
    have hcell : H[K.2.2.2 t]? = some cell := by rw [hS.2.1 _ (Array.getElem?_eq_some_iff.mp t1).1 t7]; exact t1
    have hin : ol_inR (ol_tab t j.toNat) := by
      have hall : ∀ t, t < 3 → ∀ j, j < 10 → -2147483648 ≤ ol_tab t j ∧ ol_tab t j ≤ 2147483647 := by decide
      have h10 : ol_tabn t ≤ 10 := by
        have : ∀ t, t < 3 → ol_tabn t ≤ 10 := by decide
        exact this t ht
      exact hall t ht _ (by omega)
    refine W.iald (v := .int (Int32.ofInt (ol_tab t j.toNat))) ok.1 ok.2.1 hcell t2 t3 (fun hh => ?_) ?_ rfl rfl hd (kk hin hb H locs ls hW hS hL)
    · rw [ol_nat32 hj2 hj.1] at hh
      rcases hh with hh | hh
      · have : j < 0 := (ol_lt32 hj2 ol_in0).mp hh
        omega
      · omega
    · rw [ol_nat32 hj2 hj.1]
      exact t6 _ hjn
  · cases e2
/-! a choice by a table -/
def ol_sw (x : ol_X) (K : ol_K) (M : ol_M) (p pE : Nat) (offs : Array Int) : Nat → List ol_SE → Prop
  | _, [] => True
  | k, b :: t => (∃ (off : Int) (tgt : Nat), offs[k]? = some off ∧ (p : Int) + off = (tgt : Int) ∧ IM_S x K M tgt pE b) ∧ ol_sw x K M p pE offs (k + 1) t
theorem ol_sw_get {offs : Array Int} : ∀ (bs : List ol_SE) (k j : Nat) (b : ol_SE), ol_sw x K M p pE offs k bs → bs[j]? = some b → ∃ (off : Int) (tgt : Nat), offs[k + j]? = some off ∧ (p : Int) + off = (tgt : Int) ∧ IM_S x K M tgt pE b := by
  intro bs
  induction bs with
  | nil => intro k j b h hj; simp at hj
  | cons c t ih =>
    intro k j b h hj
    cases j with
    | zero =>
      simp at hj
      subst hj
      exact h.1
    | succ j =>
      simp only [List.getElem?_cons_succ] at hj
      have := ih (k + 1) j b h.2 hj
      rw [show k + (j + 1) = k + 1 + j by omega]
      exact this
theorem rs_sw {e : ol_IE} {lo hi dflt : Int} {offs : Array Int} {len : Nat} {bs : List ol_SE} {dd : ol_SE} (he : IM_I x K M 0 p1 p e) (hd : decode M.1 p = .ok (.tableswitch dflt lo hi offs, len)) (hhi : hi + 1 = lo + bs.length) (hb : ol_sw x K M p pE offs 0 bs) (ht : (p : Int) + dflt = (pD : Int)) (hD : IM_S x K M pD pE dd) : IM_S x K M p1 pE (es_sw e lo bs dd) := by
  intro ok L h c L' h' hf kn kr
  simp only [es_sw, Option.bind_eq_some_iff] at hf
  obtain ⟨⟨n, h1⟩, e1, e2⟩ := hf
  refine he ok L h [] n _ (Nat.le_refl _) e1 fun hn => ?_
  dsimp only at e2
  by_cases hlo : lo ≤ n
  · rw [if_pos hlo] at e2
    by_cases hk : (n - lo).toNat < bs.length
    · have hg : bs[(n - lo).toNat]? = some bs[(n - lo).toNat] := List.getElem?_eq_getElem hk
      rw [List.getD_eq_getElem?_getD, hg] at e2
      obtain ⟨off, tgt, q1, q2, q3⟩ := ol_sw_get bs 0 _ _ hb hg
      rw [Nat.zero_add] at q1
      have kk := q3 ok L h1 c L' h' e2 kn kr
      intro hB H locs ls hW hS hL
      exact lv_tableIn ok.1 ok.2.1 hd (by rw [ol_toInt hn]; omega) (by rw [ol_toInt hn]; omega) (by rw [ol_toInt hn]; exact q1) q2 (kk hB H locs ls hW hS hL)
    · have hg : bs[(n - lo).toNat]? = none := List.getElem?_eq_none (by omega)
      rw [List.getD_eq_getElem?_getD, hg] at e2
      have kk := hD ok L h1 c L' h' e2 kn kr
      intro hB H locs ls hW hS hL
      exact lv_tableOut ok.1 ok.2.1 hd (by rw [ol_toInt hn]; omega) ht (kk hB H locs ls hW hS hL)
  · rw [if_neg hlo] at e2
    have kk := hD ok L h1 c L' h' e2 kn kr
    intro hB H locs ls hW hS hL
    exact lv_tableOut ok.1 ok.2.1 hd (by rw [ol_toInt hn]; omega) ht (kk hB H locs ls hW hS hL)
end OLM
