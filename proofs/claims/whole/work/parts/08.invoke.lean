/-! calls of methods that have contracts -/
def ol_cal (f : ol_FE) (vs : List ol_V) (h : ol_H) : Option (Option ol_V × ol_H) := (f vs (h.1, 0, 0)).bind fun p => if p.2.2 = (0, 0) then some (p.1, (p.2.1, h.2)) else none
def ol_rcv (h : ol_H) (ci : Nat) : List ol_V → Bool
  | .inr (.inl (some a)) :: _ => ol_isC h a ci
  | _ => false
def ea_0 : ol_AE := fun _ h => some ([], h)
def ea_i (e : ol_IE) (r : ol_AE) : ol_AE := fun L h => (e L h).bind fun p => (r L p.2).bind fun q => some (.inl p.1 :: q.1, q.2)
def ea_r (e : ol_RE) (r : ol_AE) : ol_AE := fun L h => (e L h).bind fun p => (r L p.2).bind fun q => some (.inr (.inl (some p.1)) :: q.1, q.2)
def ea_j (e : ol_JE) (r : ol_AE) : ol_AE := fun L h => (e L h).bind fun p => (r L p.2).bind fun q => some (.inr (.inr p.1) :: q.1, q.2)
/-- an instance's method, a static one -/
def ea_cv (ci : Nat) (f : ol_FE) (a : ol_AE) (L : ol_L) (h : ol_H) : Option (Option ol_V × ol_H) := (a L h).bind fun p => if ol_rcv p.2 ci p.1 then ol_cal f p.1 p.2 else none
def ea_cs (f : ol_FE) (a : ol_AE) (L : ol_L) (h : ol_H) : Option (Option ol_V × ol_H) := (a L h).bind fun p => ol_cal f p.1 p.2
def ei_of (c : ol_L → ol_H → Option (Option ol_V × ol_H)) : ol_IE := fun L h => (c L h).bind fun q => (ol_int q.1).bind fun n => some (n, q.2)
def ej_of (c : ol_L → ol_H → Option (Option ol_V × ol_H)) : ol_JE := fun L h => (c L h).bind fun q => (ol_lng q.1).bind fun n => some (n, q.2)
def es_of (c : ol_L → ol_H → Option (Option ol_V × ol_H)) : ol_SE := fun L h => (c L h).bind fun q => some (none, L, q.2)
def IM_K (x : ol_X) (K : ol_K) (M : ol_M) (d p1 p2 : Nat) (ret : Option FieldType) (f : ol_L → ol_H → Option (Option ol_V × ol_H)) : Prop := ol_Ok x K M → ∀ (L : ol_L) (h : ol_H) (stk : List Value) (r : Option ol_V) (h' : ol_H), ol_cs stk ≤ d → f L h = some (r, h') → (ol_rt ret r → ol_WW x K p2 L h' ((r.map (ol_tv K)).toList ++ stk)) → ol_WW x K p1 L h stk
section OLI
variable {x : ol_X} {K : ol_K} {M Mc : ol_M} {d p p1 p2 p3 p4 : Nat}
theorem ra_0 : IM_A x K M d p p ea_0 := by
  intro ok L h stk vs h' hcs hf kk
  cases hf
  exact kk (fun v hv => by cases hv)
theorem ra_i {e : ol_IE} {r : ol_AE} (he : IM_I x K M d p1 p2 e) (hr : IM_A x K M (d + 1) p2 p3 r) : IM_A x K M d p1 p3 (ea_i e r) := by
  intro ok L h stk vs h' hcs hf kk
  simp only [ea_i, Option.bind_eq_some_iff] at hf
  obtain ⟨⟨n, h1⟩, e1, ⟨ws, h2⟩, e2, e3⟩ := hf
  cases e3
  refine he ok L h stk n _ hcs e1 fun hn => ?_
  refine hr ok L h1 _ ws _ (ol_cs1 rfl hcs) e2 fun hws => ?_
  have := kk (fun v hv => by rcases List.mem_cons.mp hv with rfl | hv; exact hn; exact hws v hv)
  simpa [ol_tv] using this
theorem ra_r {e : ol_RE} {r : ol_AE} (he : IM_R x K M d p1 p2 e) (hr : IM_A x K M (d + 1) p2 p3 r) : IM_A x K M d p1 p3 (ea_r e r) := by
  intro ok L h stk vs h' hcs hf kk
  simp only [ea_r, Option.bind_eq_some_iff] at hf
  obtain ⟨⟨n, h1⟩, e1, ⟨ws, h2⟩, e2, e3⟩ := hf
  cases e3
  refine he ok L h stk n _ hcs e1 ?_
  refine hr ok L h1 _ ws _ (ol_cs1 rfl hcs) e2 fun hws => ?_
  have := kk (fun v hv => by rcases List.mem_cons.mp hv with rfl | hv; exact trivial; exact hws v hv)
  simpa [ol_tv] using this
theorem ra_j {e : ol_JE} {r : ol_AE} (he : IM_J x K M d p1 p2 e) (hr : IM_A x K M (d + 2) p2 p3 r) : IM_A x K M d p1 p3 (ea_j e r) := by
  intro ok L h stk vs h' hcs hf kk
  simp only [ea_j, Option.bind_eq_some_iff] at hf
  obtain ⟨⟨n, h1⟩, e1, ⟨ws, h2⟩, e2, e3⟩ := hf
  cases e3
  refine he ok L h stk n _ hcs e1 ?_
  refine hr ok L h1 _ ws _ (ol_cs2 rfl hcs) e2 fun hws => ?_
  have := kk (fun v hv => by rcases List.mem_cons.mp hv with rfl | hv; exact trivial; exact hws v hv)
  simpa [ol_tv] using this
/-- a callee's start, blind to frames -/
theorem ol_Pc_blind (vs : List ol_V) (cs : List ol_C) : FrameBlind (ol_Pc K vs cs) := by
  intro a U g mk q
  obtain ⟨q0, q1, q2, q3, q4, q5⟩ := q
  exact ⟨q0, q1, q2, va_K.moved (u := U) (U := U.calling g mk a) (Vm.Alike.refl U.vm) q3, ol_Ext.moved (u := U) (U := U.calling g mk a) (Vm.Alike.refl U.vm) q4, ol_Str.same (s := U) (U := U.calling g mk a) rfl q5⟩
theorem ol_Ext_at (ok : ol_Ok x K M) {H : Heap} {locs : List Loc} (hS : va_S (ol_A K) (xs x).heap H locs) {U : State} (hU : U.heap = H) (hW : (xs x).WarmedH U.vm) : ol_Ext K U U.heap := by
  rw [hU]
  exact (ok.2.2.2.2.2.1.moved hW.alike).kept (fun a h1 h2 => hS.2.1 a h1 h2)
/-- what W knows of the heap's size -/
theorem ol_sz {H : Heap} {locs : List Loc} {cells slots : Nat} {g : JFrame} (h : H.size ≤ (xs x).heap.size + cells → ol_W x H locs cells slots g) : ol_W x H locs cells slots g := by
  intro T hT X
  exact h (by rw [← hT]; exact X.heapSize) T hT X
theorem ol_good {y : MethodName} (hc : Cond.code y Mc.1 (mn Mc) (mr Mc) ∈ ol_tb) : GoodIn ol_tb (ol_wd y Mc) := by
  intro w hw
  rcases List.mem_cons.mp hw with rfl | hw
  · exact ⟨hc, good_of_word (List.mem_filter.mp hc).2⟩
  · exact ⟨hw, good_of_word (List.mem_filter.mp hw).2⟩
/-- behind a call -/
theorem ol_after {rest : List Value} {cs' : List ol_C} {r : Option ol_V} {h : ol_H} {st0 : List Value} {ls : Array Slot} {H : Heap} {locs : List Loc} {av : Array Value} (hr : va_Run (xp x) (xl x) (xe x) (xR x) (xs x) (xm x) (xa x) (xb x) (xt x) (xc x) H locs h.2.1 h.2.2 (mc Mc) (ms Mc) (F0 (xm x) p ls st0) rest (ol_Qc K Mc h.1 r cs' av) (ol_A K)) (hS : va_S (ol_A K) (xs x).heap H locs)
    (kk : ∀ (H1 : Heap) (locs1 : List Loc), ol_Wd K (cs', 0, 0) H1 → va_S (ol_A K) (xs x).heap H1 locs1 → cs'.length = h.1.length + mc Mc → ol_rt (mr Mc) r → ol_W x H1 locs1 (h.2.1 + mc Mc) (h.2.2 + ms Mc) (F0 (xm x) (p + 3) ls ((r.map (ol_tv K)).toList ++ rest))) : ol_W x H locs h.2.1 h.2.2 (F0 (xm x) p ls st0) := by
  intro T hT X
  obtain ⟨v, st₀, t, T', L, h0, X', hL, e1, e2, ⟨hv, hlen, hW, hF, hrt⟩, st⟩ := hr T hT X
  cases hv
  have hS1 : va_S (ol_A K) (xs x).heap t.heap (locs ++ L) := by
    obtain ⟨f1, f2⟩ := hF
    rw [h0] at f1 f2
    refine ⟨Nat.le_trans hS.1 f1, fun q g1 g2 => (f2 q (Nat.lt_of_lt_of_le g1 hS.1) g2).trans (hS.2.1 q g1 g2), fun q hq => ?_⟩
    rcases List.mem_append.mp hq with hq | hq
    · exact hS.2.2 q hq
    · exact hL q hq
  obtain ⟨t2, a1, b1⟩ := kk t.heap (locs ++ L) hW hS1 hlen hrt T' e1 X'
  exact ⟨t2, st t2 a1, b1⟩
/-- the words that a call asks: its link and its callee's code -/
def ol_cw (own : String) (index : Nat) (y : MethodName) (Mc : ol_M) (n : Nat) : Prop := Cond.methodLink own index y ∈ ol_tb ∧ Cond.code y Mc.1 (mn Mc) (mr Mc) ∈ ol_tb ∧ Cond.initialized y.cls ∈ ol_tb ∧ y.cls ≠ "java/lang/invoke/MethodHandle" ∧ y.cls ≠ "java/lang/invoke/VarHandle" ∧ (parseMethodDescriptor y.desc).map (fun d => d.parameters.length) = some n
theorem ol_cB {index : Nat} {y : MethodName} {n : Nat} (ok : ol_Ok x K M) (hcw : ol_cw M.2.1 index y Mc n) (hlv : ml Mc < ml M) (hmn : mn Mc ≤ 41) : CallB (xR x) (xs x) (xa x) M.2.1 index y Mc.1 (mn Mc) (mr Mc) (ol_wd y Mc) (ol_rm Mc) (mc Mc) (ms Mc) n := by
  obtain ⟨c1, c2, c3, c4, c5, c6⟩ := hcw
  have hts := ok.2.2.2.1
  have hfr : ml M ≤ (xR x).frames := ok.2.2.2.2.2.2.2.2.2.1
  have hlo : 60 * ml M ≤ (xR x).locals := ok.2.2.2.2.2.2.2.2.2.2.1
  exact callB_of n hts (ol_good c2) rfl rfl rfl (hts _ c3) (hts _ c1) ⟨c4, c5, c6⟩ ⟨by show ml Mc + 1 ≤ _; omega, by show 8 + (mn Mc + 11) + 60 * ml Mc ≤ _; omega⟩
theorem ol_size_eq (ok : ol_Ok x K M) {h : ol_H} {H : Heap} (hb : ol_B x K h) (hW : ol_Wd K h H) (hs : H.size ≤ (xs x).heap.size + h.2.1) : H.size = K.1 + h.1.length := by
  have := hb.2.2
  have := hW.1
  omega
theorem ol_cal_inv {f : ol_FE} {vs : List ol_V} {h h' : ol_H} {r : Option ol_V} (e : ol_cal f vs h = some (r, h')) : ∃ cs', f vs (h.1, 0, 0) = some (r, (cs', 0, 0)) ∧ h' = (cs', h.2) := by
  simp only [ol_cal, Option.bind_eq_some_iff] at e
  obtain ⟨⟨r1, cs1, k1, n1⟩, e1, e2⟩ := e
  dsimp only at e2
  split at e2
  · rename_i hk
    cases hk
    cases e2
    exact ⟨cs1, e1, rfl⟩
  · cases e2
theorem rk_v {ci index n : Nat} {y : MethodName} {f : ol_FE} {a : ol_AE} {q : vw_C} (hcon : ol_Con (xl x) K y Mc f) (ha : IM_A x K M d p1 p a) (hd : decode M.1 p = .ok (.invokevirtual index, 3)) (hcw : ol_cw M.2.1 index y Mc n) (hin : Cond.instanceMethod y ∈ ol_tb) (hse : Cond.selects y.cls y y ∈ ol_tb) (hci : ci < 100) (hc : vwCl[ci]? = some q) (hq : q.1 = y.cls) (hm : mc Mc = 0 ∧ ms Mc = 0 ∧ mn Mc ≤ 41) (hlv : ml Mc < ml M) (hdp : d ≤ 8)
    (hnn : ∀ L h vs h', a L h = some (vs, h') → vs.length = n + 1) : IM_K x K M d p1 (p + 3) (mr Mc) (ea_cv ci f a) := by
  intro ok L h stk r h' hcs hf kk
  simp only [ea_cv, Option.bind_eq_some_iff] at hf
  obtain ⟨⟨vs, h1⟩, e1, e2⟩ := hf
  dsimp only at e2
  split at e2
  case isFalse => cases e2
  rename_i hrc
  obtain ⟨cs', e3, rfl⟩ := ol_cal_inv e2
  refine ha ok L h stk vs _ hcs e1 fun hvs => ?_
  intro hb H locs ls hW hS hL
  refine ol_sz fun hsz => ?_
  have hlen := hnn _ _ _ _ e1
  unfold ol_rcv at hrc
  split at hrc
  case h_2 => cases hrc
  rename_i _ b vt
  obtain ⟨ys, hy⟩ := ol_isC_inv hrc
  have hM := hcon _ h1.1 r cs' hvs (by rw [hm.1, hm.2.1]; exact e3)
  have hwz := ol_ws_get (K := K) hy
  rw [ol_E_obj hci] at hwz
  have hrv := va_recv ok.2.2.2.2.1 hW.2.2.1 hc hwz
  rw [hq, ← ol_ad_in hW.2.1 hy] at hrv
  have hcv : CallW (xR x) (xs x) (xa x) M.2.1 y.cls index y Mc.1 (mn Mc) (mr Mc) (ol_wd y Mc) (ol_rm Mc) (mc Mc) (ms Mc) n := ⟨ol_cB ok hcw hlv hm.2.2, ok.2.2.2.1 _ hin, ok.2.2.2.1 _ hse⟩
  have hrun := va_runV (e := xe x) (below := xb x) (meth := xt x) (locs := locs) (cells := h1.2.1) (slots := h1.2.2) (H := H) (g := F0 (xm x) p ls (((Sum.inr (Sum.inl (some b)) :: vt).map (ol_tv K)).reverse ++ stk)) (As := vt.map (ol_tv K)) (b := ol_ad K b) (rest := stk) ⟨ok.1, ok.2.1, ok.2.2.2.2.2.2.2.2.2.2.2.2.2.2.1, ok.2.2.1, ok.2.2.2.1⟩ hM hcv
    ⟨ol_Pc_blind _ _, hrv, fun U hU hWm => ⟨rfl, by rw [hU]; exact ol_size_eq ok hb hW hsz, by rw [hU]; exact hW, va_K.moved hWm.alike ok.2.2.2.2.1, ol_Ext_at ok hS hU hWm, ok.2.2.2.2.2.2.2.2.2.2.2.2.2.1.warm hWm⟩⟩
    rfl (by simp at hlen; simpa using hlen) (by show ls.size = mn M; rw [hL.1]; exact ok.2.2.2.2.2.2.2.2.2.2.2.2.2.2.1) (by simp [ol_tv]) (lv_room (Nat.le_trans hcs hdp)) hd ⟨by rw [hm.1]; exact hb.1, by rw [hm.2.1]; exact hb.2.1⟩
  refine ol_after hrun hS fun H1 locs1 hW1 hS1 hl1 hrt => ?_
  have h0 : h1.2.1 + mc Mc = h1.2.1 := by rw [hm.1]; rfl
  have h00 : h1.2.2 + ms Mc = h1.2.2 := by rw [hm.2.1]; rfl
  rw [h0, h00]
  exact kk hrt ⟨hb.1, hb.2.1, by have h9 := hb.2.2; have h8 := hm.1; show K.1 + cs'.length = (xs x).heap.size + h1.2.1; omega⟩ H1 locs1 ls hW1 hS1 hL
theorem rk_s {index n : Nat} {y : MethodName} {f : ol_FE} {a : ol_AE} (hcon : ol_Con (xl x) K y Mc f) (ha : IM_A x K M d p1 p a) (hd : decode M.1 p = .ok (.invokestatic index, 3)) (hcw : ol_cw M.2.1 index y Mc n) (hst : Cond.static y ∈ ol_tb) (hm : mc Mc = 0 ∧ ms Mc = 0 ∧ mn Mc ≤ 41) (hlv : ml Mc < ml M) (hdp : d ≤ 8)
    (hnn : ∀ L h vs h', a L h = some (vs, h') → vs.length = n) : IM_K x K M d p1 (p + 3) (mr Mc) (ea_cs f a) := by
  intro ok L h stk r h' hcs hf kk
  simp only [ea_cs, Option.bind_eq_some_iff] at hf
  obtain ⟨⟨vs, h1⟩, e1, e2⟩ := hf
  obtain ⟨cs', e3, rfl⟩ := ol_cal_inv e2
  refine ha ok L h stk vs _ hcs e1 fun hvs => ?_
  intro hb H locs ls hW hS hL
  refine ol_sz fun hsz => ?_
  have hlen := hnn _ _ _ _ e1
  have hM := hcon _ h1.1 r cs' hvs (by rw [hm.1, hm.2.1]; exact e3)
  have hrun := va_runS (e := xe x) (below := xb x) (meth := xt x) (locs := locs) (cells := h1.2.1) (slots := h1.2.2) (H := H) (g := F0 (xm x) p ls ((vs.map (ol_tv K)).reverse ++ stk)) (As := vs.map (ol_tv K)) (rest := stk) ⟨ok.1, ok.2.1, ok.2.2.2.2.2.2.2.2.2.2.2.2.2.2.1, ok.2.2.1, ok.2.2.2.1⟩ hM ⟨ol_cB ok hcw hlv hm.2.2, ok.2.2.2.1 _ hst⟩
    ⟨ol_Pc_blind _ _, fun U hU hWm => ⟨rfl, by rw [hU]; exact ol_size_eq ok hb hW hsz, by rw [hU]; exact hW, va_K.moved hWm.alike ok.2.2.2.2.1, ol_Ext_at ok hS hU hWm, ok.2.2.2.2.2.2.2.2.2.2.2.2.2.1.warm hWm⟩⟩
    rfl (by rw [List.length_map]; exact hlen) (by show ls.size = mn M; rw [hL.1]; exact ok.2.2.2.2.2.2.2.2.2.2.2.2.2.2.1) rfl (lv_room (Nat.le_trans hcs hdp)) hd ⟨by rw [hm.1]; exact hb.1, by rw [hm.2.1]; exact hb.2.1⟩
  refine ol_after hrun hS fun H1 locs1 hW1 hS1 hl1 hrt => ?_
  have h0 : h1.2.1 + mc Mc = h1.2.1 := by rw [hm.1]; rfl
  have h00 : h1.2.2 + ms Mc = h1.2.2 := by rw [hm.2.1]; rfl
  rw [h0, h00]
  exact kk hrt ⟨hb.1, hb.2.1, by have h9 := hb.2.2; have h8 := hm.1; show K.1 + cs'.length = (xs x).heap.size + h1.2.1; omega⟩ H1 locs1 ls hW1 hS1 hL
theorem ri_k {c : ol_L → ol_H → Option (Option ol_V × ol_H)} {ret : Option FieldType} (hk : IM_K x K M d p1 p2 ret c) (hr : ret = some .int ∨ ret = some .boolean ∨ ret = some .char ∨ ret = some .byte) : IM_I x K M d p1 p2 (ei_of c) := by
  intro ok L h stk n h' hcs hf kk
  simp only [ei_of, Option.bind_eq_some_iff] at hf
  obtain ⟨⟨r, h1⟩, e1, m, e2, e3⟩ := hf
  cases e3
  have e2 := ol_int_inv e2
  dsimp only at e2
  subst e2
  refine hk ok L h stk _ _ hcs e1 fun hrt => ?_
  rcases hr with rfl | rfl | rfl | rfl
  · exact kk hrt
  · exact kk (ol_z01 hrt).1
  · exact kk (ol_char hrt).1
  · exact kk (by have hz : n = 0 := hrt; rw [hz]; exact ol_in0)
theorem rj_k {c : ol_L → ol_H → Option (Option ol_V × ol_H)} {ret : Option FieldType} (hk : IM_K x K M d p1 p2 ret c) : IM_J x K M d p1 p2 (ej_of c) := by
  intro ok L h stk n h' hcs hf kk
  simp only [ej_of, Option.bind_eq_some_iff] at hf
  obtain ⟨⟨r, h1⟩, e1, m, e2, e3⟩ := hf
  cases e3
  have e2 := ol_lng_inv e2
  dsimp only at e2
  subst e2
  exact hk ok L h stk _ _ hcs e1 fun hrt => kk
theorem rs_k {c : ol_L → ol_H → Option (Option ol_V × ol_H)} (hk : IM_K x K M 0 p1 p2 none c) : IM_S x K M p1 p2 (es_of c) := by
  intro ok L h c' L' h' hf kn kr
  simp only [es_of, Option.bind_eq_some_iff] at hf
  obtain ⟨⟨r, h1⟩, e1, e3⟩ := hf
  cases e3
  refine hk ok L h [] r _ (Nat.le_refl _) e1 fun hrt => ?_
  rcases r with _ | v
  · exact kn rfl
  · exact hrt.elim
theorem rs_kp {c : ol_L → ol_H → Option (Option ol_V × ol_H)} (hk : IM_K x K M 0 p1 p (some .int) c) (hd : decode M.1 p = .ok (.pop, 1)) : IM_S x K M p1 (p + 1) (es_of c) := by
  intro ok L h c' L' h' hf kn kr
  simp only [es_of, Option.bind_eq_some_iff] at hf
  obtain ⟨⟨r, h1⟩, e1, e3⟩ := hf
  cases e3
  refine hk ok L h [] r _ (Nat.le_refl _) e1 fun hrt => ?_
  rcases r with _ | n | q | j
  · exact hrt.elim
  · intro hb H locs ls hW hS hL
    exact lv_pop ok.1 ok.2.1 hd rfl (kn rfl hb H locs ls hW hS hL)
  · exact hrt.elim
  · exact hrt.elim
end OLI
