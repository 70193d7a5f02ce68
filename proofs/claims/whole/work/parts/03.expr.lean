/-! expressions: what they do, and the code that does it -/
def ei_c (n : Int) : ol_IE := fun _ h => some (n, h)
def ei_v (i : Nat) : ol_IE := fun L h => (ol_int L[i]?).bind fun n => some (n, h)
def er_v (i : Nat) : ol_RE := fun L h => (ol_ref L[i]?).bind fun a => some (a, h)
def ej_v (i : Nat) : ol_JE := fun L h => (ol_lng L[i]?).bind fun a => some (a, h)
def ol_fld (h : ol_H) (ci a j : Nat) : Option ol_V := (h.1[a]?).bind fun c => if c.1 = ci then c.2[j]? else none
def ei_f (ci j : Nat) (r : ol_RE) : ol_IE := fun L h => (r L h).bind fun p => (ol_int (ol_fld p.2 ci p.1 j)).bind fun n => some (n, p.2)
def er_f (ci j : Nat) (r : ol_RE) : ol_RE := fun L h => (r L h).bind fun p => (ol_ref (ol_fld p.2 ci p.1 j)).bind fun n => some (n, p.2)
def ej_f (ci j : Nat) (r : ol_RE) : ol_JE := fun L h => (r L h).bind fun p => (ol_lng (ol_fld p.2 ci p.1 j)).bind fun n => some (n, p.2)
def ol_arr (h : ol_H) (k a : Nat) (i : Int) : Option ol_V := (h.1[a]?).bind fun c => if c.1 = k ∧ 0 ≤ i then c.2[i.toNat]? else none
def ei_a (k : Nat) (r : ol_RE) (e : ol_IE) : ol_IE := fun L h => (r L h).bind fun p => (e L p.2).bind fun q => (ol_int (ol_arr q.2 k p.1 q.1)).bind fun n => some (n, q.2)
def er_a (k : Nat) (r : ol_RE) (e : ol_IE) : ol_RE := fun L h => (r L h).bind fun p => (e L p.2).bind fun q => (ol_ref (ol_arr q.2 k p.1 q.1)).bind fun n => some (n, q.2)
def ei_t (t : Nat) (e : ol_IE) : ol_IE := fun L h => (e L h).bind fun q => if 0 ≤ q.1 ∧ q.1 < (ol_tabn t : Int) then some (ol_tab t q.1.toNat, q.2) else none
def ei_2 (f : Int → Int → Option Int) (a b : ol_IE) : ol_IE := fun L h => (a L h).bind fun p => (b L p.2).bind fun q => (f p.1 q.1).bind fun n => some (n, q.2)
def ei_neg (a : ol_IE) : ol_IE := fun L h => (a L h).bind fun p => some (ol_w (- p.1), p.2)
def ei_if (c : ol_CE) (a b : ol_IE) : ol_IE := fun L h => (c L h).bind fun p => if p.1 then a L p.2 else b L p.2
def ec_2 (f : Int → Int → Bool) (a b : ol_IE) : ol_CE := fun L h => (a L h).bind fun p => (b L p.2).bind fun q => some (f p.1 q.1, q.2)
def ec_z (f : Int → Int → Bool) (a : ol_IE) : ol_CE := fun L h => (a L h).bind fun p => some (f p.1 0, p.2)
def ec_and (a b : ol_CE) : ol_CE := fun L h => (a L h).bind fun p => if p.1 then b L p.2 else some (false, p.2)
def ec_or (a b : ol_CE) : ol_CE := fun L h => (a L h).bind fun p => if p.1 then some (true, p.2) else b L p.2
def ec_not (a : ol_CE) : ol_CE := fun L h => (a L h).bind fun p => some (!p.1, p.2)
/-! numbers -/
def ol_add (x y : Int) : Option Int := some (ol_w (x + y))
def ol_sub (x y : Int) : Option Int := some (ol_w (x - y))
def ol_mul (x y : Int) : Option Int := some (ol_w (x * y))
def ol_div (x y : Int) : Option Int := if y = 0 then none else some (ol_w (x.tdiv y))
def ol_rem (x y : Int) : Option Int := if y = 0 then none else some (ol_w (x.tmod y))
def ol_and (x y : Int) : Option Int := some (Int32.ofInt x &&& Int32.ofInt y).toInt
def ol_or (x y : Int) : Option Int := some (Int32.ofInt x ||| Int32.ofInt y).toInt
def ol_xor (x y : Int) : Option Int := some (Int32.ofInt x ^^^ Int32.ofInt y).toInt
def ol_shl (x y : Int) : Option Int := some (Int32.ofInt x <<< (Int32.ofInt y &&& 31)).toInt
def ol_shr (x y : Int) : Option Int := some (Int32.ofInt x >>> (Int32.ofInt y &&& 31)).toInt
def ol_lt (x y : Int) : Bool := decide (x < y)
def ol_le (x y : Int) : Bool := decide (x ≤ y)
def ol_gt (x y : Int) : Bool := decide (y < x)
def ol_ge (x y : Int) : Bool := decide (y ≤ x)
def ol_eq (x y : Int) : Bool := decide (x = y)
def ol_ne (x y : Int) : Bool := decide (¬ x = y)
theorem ol_cs1 {v : Value} {stk : List Value} {d : Nat} (hv : v.category = 1) (h : ol_cs stk ≤ d) : ol_cs (v :: stk) ≤ d + 1 := by
  simp only [ol_cs, List.map_cons, List.sum_cons, hv] at h ⊢
  omega
theorem ol_cs2 {v : Value} {stk : List Value} {d : Nat} (hv : v.category = 2) (h : ol_cs stk ≤ d) : ol_cs (v :: stk) ≤ d + 2 := by
  simp only [ol_cs, List.map_cons, List.sum_cons, hv] at h ⊢
  omega
section OLE
variable {x : ol_X} {K : ol_K} {M : ol_M} {d p p1 p2 p3 pT pF : Nat}
theorem ri_ic {n : Int} (hd : decode M.1 p = .ok (.iconst n, 1)) (hn : ol_inR n) : IM_I x K M d p (p + 1) (ei_c n) := by
  intro ok L h stk v h' hcs hf kk hb H locs ls hW hS hL
  cases hf
  exact lv_iconst ok.1 ok.2.1 hd rfl (kk hn hb H locs ls hW hS hL)
theorem ri_bi {n : Int} (hd : decode M.1 p = .ok (.bipush n, 2)) (hn : ol_inR n) (hv : (Int8.ofInt n).toInt32 = Int32.ofInt n) : IM_I x K M d p (p + 2) (ei_c n) := by
  intro ok L h stk v h' hcs hf kk hb H locs ls hW hS hL
  cases hf
  exact lv_bipush ok.1 ok.2.1 hd hv (kk hn hb H locs ls hW hS hL)
theorem ri_si {n : Int} (hd : decode M.1 p = .ok (.sipush n, 3)) (hn : ol_inR n) (hv : (Int16.ofInt n).toInt32 = Int32.ofInt n) : IM_I x K M d p (p + 3) (ei_c n) := by
  intro ok L h stk v h' hcs hf kk hb H locs ls hW hS hL
  cases hf
  exact lv_sipush ok.1 ok.2.1 hd hv (kk hn hb H locs ls hW hS hL)
theorem ri_ldc {n : Int} {index : Nat} (hd : decode M.1 p = .ok (.ldc index, 2)) (hn : ol_inR n) (hw : Cond.constant M.2.1 index (Int32.ofInt n) ∈ ol_tb) : IM_I x K M d p (p + 2) (ei_c n) := by
  intro ok L h stk v h' hcs hf kk hb H locs ls hW hS hL
  cases hf
  exact lv_ldc ok.1 ok.2.1 ok.2.2.1 (ok.2.2.2.1 _ hw) hd (kk hn hb H locs ls hW hS hL)
theorem ri_ldcw {n : Int} {index : Nat} (hd : decode M.1 p = .ok (.ldc_w index, 3)) (hn : ol_inR n) (hw : Cond.constant M.2.1 index (Int32.ofInt n) ∈ ol_tb) : IM_I x K M d p (p + 3) (ei_c n) := by
  intro ok L h stk v h' hcs hf kk hb H locs ls hW hS hL
  cases hf
  exact lv_ldcw ok.1 ok.2.1 ok.2.2.1 (ok.2.2.2.1 _ hw) hd (kk hn hb H locs ls hW hS hL)
theorem ol_int_inv {v : Option ol_V} {n : Int} (h : ol_int v = some n) : v = some (.inl n) := by
  unfold ol_int at h
  split at h
  · cases h; rfl
  · cases h
theorem ol_ref_inv {v : Option ol_V} {n : Nat} (h : ol_ref v = some n) : v = some (.inr (.inl (some n))) := by
  unfold ol_ref at h
  split at h
  · cases h; rfl
  · cases h
theorem ol_lng_inv {v : Option ol_V} {n : Int64} (h : ol_lng v = some n) : v = some (.inr (.inr n)) := by
  unfold ol_lng at h
  split at h
  · cases h; rfl
  · cases h
theorem ol_Lo.int {ls : Array Slot} {nL : Nat} {L : ol_L} (hL : ol_Lo K ls nL L) {i : Nat} {n : Int} (h : L[i]? = some (.inl n)) : ls[i]? = some (.val (.int (Int32.ofInt n))) ∧ ol_inR n := hL.2.2 i _ h (by simp)
theorem ol_Lo.ref {ls : Array Slot} {nL : Nat} {L : ol_L} (hL : ol_Lo K ls nL L) {i : Nat} {n : Nat} (h : L[i]? = some (.inr (.inl (some n)))) : ls[i]? = some (.val (.ref (ol_ad K n))) := (hL.2.2 i _ h (by simp)).1
theorem ol_Lo.lng {ls : Array Slot} {nL : Nat} {L : ol_L} (hL : ol_Lo K ls nL L) {i : Nat} {n : Int64} (h : L[i]? = some (.inr (.inr n))) : ls[i]? = some (.val (.long n)) := (hL.2.2 i _ h (by simp)).1
theorem ri_vn {k : Fin 4} {i : Nat} (hd : decode M.1 p = .ok (.iload_n k, 1)) (hi : (k : Nat) = i) : IM_I x K M d p (p + 1) (ei_v i) := by
  intro ok L h stk v h' hcs hf kk hb H locs ls hW hS hL
  simp only [ei_v, Option.bind_eq_some_iff] at hf
  obtain ⟨n, e1, e2⟩ := hf
  cases e2
  obtain ⟨g1, g2⟩ := hL.int (ol_int_inv e1)
  exact lv_iload_n ok.1 ok.2.1 hd hi g1 (kk g2 hb H locs ls hW hS hL)
theorem ri_vi {i : Nat} (hd : decode M.1 p = .ok (.iload i, 2)) : IM_I x K M d p (p + 2) (ei_v i) := by
  intro ok L h stk v h' hcs hf kk hb H locs ls hW hS hL
  simp only [ei_v, Option.bind_eq_some_iff] at hf
  obtain ⟨n, e1, e2⟩ := hf
  cases e2
  obtain ⟨g1, g2⟩ := hL.int (ol_int_inv e1)
  exact lv_iload ok.1 ok.2.1 hd g1 (kk g2 hb H locs ls hW hS hL)
theorem rr_vn {k : Fin 4} {i : Nat} (hd : decode M.1 p = .ok (.aload_n k, 1)) (hi : (k : Nat) = i) : IM_R x K M d p (p + 1) (er_v i) := by
  intro ok L h stk v h' hcs hf kk hb H locs ls hW hS hL
  simp only [er_v, Option.bind_eq_some_iff] at hf
  obtain ⟨n, e1, e2⟩ := hf
  cases e2
  exact lv_aload_n ok.1 ok.2.1 hd hi (hL.ref (ol_ref_inv e1)) (kk hb H locs ls hW hS hL)
theorem rr_vi {i : Nat} (hd : decode M.1 p = .ok (.aload i, 2)) : IM_R x K M d p (p + 2) (er_v i) := by
  intro ok L h stk v h' hcs hf kk hb H locs ls hW hS hL
  simp only [er_v, Option.bind_eq_some_iff] at hf
  obtain ⟨n, e1, e2⟩ := hf
  cases e2
  exact lv_aload ok.1 ok.2.1 hd (hL.ref (ol_ref_inv e1)) (kk hb H locs ls hW hS hL)
theorem rj_vn {k : Fin 4} {i : Nat} (hd : decode M.1 p = .ok (.lload_n k, 1)) (hi : (k : Nat) = i) : IM_J x K M d p (p + 1) (ej_v i) := by
  intro ok L h stk v h' hcs hf kk hb H locs ls hW hS hL
  simp only [ej_v, Option.bind_eq_some_iff] at hf
  obtain ⟨n, e1, e2⟩ := hf
  cases e2
  exact lv_lload_n ok.1 ok.2.1 hd hi (hL.lng (ol_lng_inv e1)) (kk hb H locs ls hW hS hL)
/-! fields -/
theorem ol_fld_inv {h : ol_H} {ci a j : Nat} {v : ol_V} (e : ol_fld h ci a j = some v) : ∃ ys, h.1[a]? = some (ci, ys) ∧ ys[j]? = some v := by
  simp only [ol_fld, Option.bind_eq_some_iff] at e
  obtain ⟨⟨k, ys⟩, e1, e2⟩ := e
  dsimp only at e2
  split at e2
  · rename_i hk; subst hk; exact ⟨ys, e1, e2⟩
  · cases e2
theorem ol_E_obj {ci : Nat} {ys : List ol_V} (h : ci < 100) : ol_E K (ci, ys) = .inr (ci, ys.map (ol_tv K)) := by simp [ol_E, h]
/-- the words that a field's reading asks -/
def ol_gf (own : String) (index ci j : Nat) (C : String) (T : u_T) (N : Nat) : Prop := vwCl[ci]? = some (C, T, N) ∧ ci < 100 ∧ j < N ∧ (∀ w ∈ u_ws C T N, w ∈ ol_tb) ∧ Cond.fieldLink own index C (T j).2.1 (T j).2.2.1 ∈ ol_tb ∧ (T j).1 = C
theorem ol_getf {ci j index : Nat} {C : String} {T : u_T} {N : Nat} (hg : ol_gf M.2.1 index ci j C T N) (hd : decode M.1 p = .ok (.getfield index, 3)) (ok : ol_Ok x K M) {h : ol_H} {a : Nat} {v : ol_V} (e : ol_fld h ci a j = some v) {H : Heap} {locs : List Loc} {ls : Array Slot} {cells slots : Nat} {rest : List Value} (hW : ol_Wd K h H)
    (kk : (∀ n, v = .inl n → ol_inR n) → ol_W x H locs cells slots (F0 (xm x) (p + 3) ls (ol_tv K v :: rest))) : ol_W x H locs cells slots (F0 (xm x) p ls (.ref (ol_ad K a) :: rest)) := by
  obtain ⟨ys, e1, e2⟩ := ol_fld_inv e
  obtain ⟨g1, g2, g3, g4, g5, g6⟩ := hg
  obtain ⟨w1, w2, w3, w4⟩ := hW
  rw [ol_ad_in w2 e1]
  have hws := ol_ws_get (K := K) e1
  rw [ol_E_obj g2] at hws
  exact va_get ok.1 ok.2.1 (Ts := ol_tb) ok.2.2.2.1 g4 ok.2.2.1 ok.2.2.2.2.1 w3 a hws g1 j g3 (ok.2.2.2.1 _ g5) (fun z hz => by rw [← g6]; exact hz) (by rw [List.getElem?_map, e2]; rfl) hd (kk (fun n hn => by subst hn; exact w4.get e1 e2))
theorem ri_f {ci j index : Nat} {C : String} {T : u_T} {N : Nat} {r : ol_RE} (hr : IM_R x K M d p1 p r) (hg : ol_gf M.2.1 index ci j C T N) (hd : decode M.1 p = .ok (.getfield index, 3)) : IM_I x K M d p1 (p + 3) (ei_f ci j r) := by
  intro ok L h stk v h' hcs hf kk
  simp only [ei_f, Option.bind_eq_some_iff] at hf
  obtain ⟨⟨a, h1⟩, e1, n, e2, e3⟩ := hf
  cases e3
  refine hr ok L h stk a _ hcs e1 fun hb H locs ls hW hS hL => ?_
  exact ol_getf hg hd ok (ol_int_inv e2) hW (fun hn => kk (hn _ rfl) hb H locs ls hW hS hL)
theorem rr_f {ci j index : Nat} {C : String} {T : u_T} {N : Nat} {r : ol_RE} (hr : IM_R x K M d p1 p r) (hg : ol_gf M.2.1 index ci j C T N) (hd : decode M.1 p = .ok (.getfield index, 3)) : IM_R x K M d p1 (p + 3) (er_f ci j r) := by
  intro ok L h stk v h' hcs hf kk
  simp only [er_f, Option.bind_eq_some_iff] at hf
  obtain ⟨⟨a, h1⟩, e1, n, e2, e3⟩ := hf
  cases e3
  refine hr ok L h stk a _ hcs e1 fun hb H locs ls hW hS hL => ?_
  exact ol_getf hg hd ok (ol_ref_inv e2) hW (fun hn => kk hb H locs ls hW hS hL)
theorem rj_f {ci j index : Nat} {C : String} {T : u_T} {N : Nat} {r : ol_RE} (hr : IM_R x K M d p1 p r) (hg : ol_gf M.2.1 index ci j C T N) (hd : decode M.1 p = .ok (.getfield index, 3)) : IM_J x K M d p1 (p + 3) (ej_f ci j r) := by
  intro ok L h stk v h' hcs hf kk
  simp only [ej_f, Option.bind_eq_some_iff] at hf
  obtain ⟨⟨a, h1⟩, e1, n, e2, e3⟩ := hf
  cases e3
  refine hr ok L h stk a _ hcs e1 fun hb H locs ls hW hS hL => ?_
  exact ol_getf hg hd ok (ol_lng_inv e2) hW (fun hn => kk hb H locs ls hW hS hL)
/-! arrays -/
theorem ol_arr_inv {h : ol_H} {k a : Nat} {i : Int} {v : ol_V} (e : ol_arr h k a i = some v) : ∃ ys, h.1[a]? = some (k, ys) ∧ 0 ≤ i ∧ ys[i.toNat]? = some v := by
  simp only [ol_arr, Option.bind_eq_some_iff] at e
  obtain ⟨⟨k', ys⟩, e1, e2⟩ := e
  dsimp only at e2
  split at e2
  · rename_i hk; obtain ⟨rfl, hi⟩ := hk; exact ⟨ys, e1, hi, e2⟩
  · cases e2
theorem ol_E_int {k : Nat} {ys : List ol_V} (h : k = 100 ∨ k = 101 ∨ k = 102) : ol_E K (k, ys) = .inl (K.2.2.1 k, ys.length, .inl (fun j => Int32.ofInt (ol_gi ys j))) := by rcases h with rfl | rfl | rfl <;> rfl
theorem ol_E_ref {k : Nat} {ys : List ol_V} (h : 103 ≤ k) : ol_E K (k, ys) = .inl (K.2.2.1 k, ys.length, .inr (.inr (.inr (.inr (fun j => (ol_gr ys j).map (ol_ad K)))))) := by
  have h1 : ¬ k < 100 := by omega
  have h2 : ¬ k < 103 := by omega
  simp [ol_E, h1, h2]
theorem ol_vin {i : Int} {n : Nat} (hi : ol_inR i) (h0 : 0 ≤ i) (hn : i.toNat < n) : vp_in (Int32.ofInt i) n := by
  unfold vp_in
  rw [ol_nat32 hi h0]
  intro h
  rcases h with h | h
  · have : i < 0 := (ol_lt32 hi ol_in0).mp h
    omega
  · omega
theorem ol_gi_of {ys : List ol_V} {j : Nat} {n : Int} (h : ys[j]? = some (.inl n)) : ol_gi ys j = n := by simp [ol_gi, h, ol_int]
theorem ol_gr_of {ys : List ol_V} {j : Nat} {n : Nat} (h : ys[j]? = some (.inr (.inl (some n)))) : ol_gr ys j = some n := by simp [ol_gr, h, ol_ref]
theorem ri_a {k : Nat} {r : ol_RE} {i : ol_IE} (hr : IM_R x K M d p1 p2 r) (hi : IM_I x K M (d + 1) p2 p i) (hk : k = 100) (hd : decode M.1 p = .ok (.iaload, 1)) : IM_I x K M d p1 (p + 1) (ei_a k r i) := by
  intro ok L h stk v h' hcs hf kk
  simp only [ei_a, Option.bind_eq_some_iff] at hf
  obtain ⟨⟨a, h1⟩, e1, ⟨j, h2⟩, e2, n, e3, e4⟩ := hf
  cases e4
  refine hr ok L h stk a _ hcs e1 ?_
  refine hi ok L h1 _ j _ (ol_cs1 rfl hcs) e2 fun hj => ?_
  intro hb H locs ls hW hS hL
  obtain ⟨ys, q1, q2, q3⟩ := ol_arr_inv (ol_int_inv e3)
  have hws := ol_ws_get (K := K) q1
  rw [ol_E_int (Or.inl hk)] at hws
  rw [ol_ad_in hW.2.1 q1]
  subst hk
  refine va_iald ok.1 ok.2.1 ok.2.2.2.2.1 hW.2.2.1 a 0 hws rfl (ol_vin hj q2 (List.getElem?_eq_some_iff.mp q3).1) hd ?_
  rw [ol_nat32 hj q2, ol_gi_of q3]
  exact kk (hW.2.2.2.get q1 q3) hb H locs ls hW hS hL
theorem ri_ba {k : Nat} {r : ol_RE} {i : ol_IE} (hr : IM_R x K M d p1 p2 r) (hi : IM_I x K M (d + 1) p2 p i) (hk : k = 101) (hd : decode M.1 p = .ok (.baload, 1)) : IM_I x K M d p1 (p + 1) (ei_a k r i) := by
  intro ok L h stk v h' hcs hf kk
  simp only [ei_a, Option.bind_eq_some_iff] at hf
  obtain ⟨⟨a, h1⟩, e1, ⟨j, h2⟩, e2, n, e3, e4⟩ := hf
  cases e4
  refine hr ok L h stk a _ hcs e1 ?_
  refine hi ok L h1 _ j _ (ol_cs1 rfl hcs) e2 fun hj => ?_
  intro hb H locs ls hW hS hL
  obtain ⟨ys, q1, q2, q3⟩ := ol_arr_inv (ol_int_inv e3)
  have hws := ol_ws_get (K := K) q1
  rw [ol_E_int (Or.inr (Or.inl hk))] at hws
  rw [ol_ad_in hW.2.1 q1]
  subst hk
  refine va_bald ok.1 ok.2.1 ok.2.2.2.2.1 hW.2.2.1 a 1 hws rfl (ol_vin hj q2 (List.getElem?_eq_some_iff.mp q3).1) hd ?_
  rw [ol_nat32 hj q2, ol_gi_of q3]
  exact kk (hW.2.2.2.get q1 q3) hb H locs ls hW hS hL
theorem ri_za {k : Nat} {r : ol_RE} {i : ol_IE} (hr : IM_R x K M d p1 p2 r) (hi : IM_I x K M (d + 1) p2 p i) (hk : k = 102) (hd : decode M.1 p = .ok (.baload, 1)) : IM_I x K M d p1 (p + 1) (ei_a k r i) := by
  intro ok L h stk v h' hcs hf kk
  simp only [ei_a, Option.bind_eq_some_iff] at hf
  obtain ⟨⟨a, h1⟩, e1, ⟨j, h2⟩, e2, n, e3, e4⟩ := hf
  cases e4
  refine hr ok L h stk a _ hcs e1 ?_
  refine hi ok L h1 _ j _ (ol_cs1 rfl hcs) e2 fun hj => ?_
  intro hb H locs ls hW hS hL
  obtain ⟨ys, q1, q2, q3⟩ := ol_arr_inv (ol_int_inv e3)
  have hws := ol_ws_get (K := K) q1
  rw [ol_E_int (Or.inr (Or.inr hk))] at hws
  rw [ol_ad_in hW.2.1 q1]
  subst hk
  refine va_zald ok.1 ok.2.1 ok.2.2.2.2.1 hW.2.2.1 a 2 hws rfl (ol_vin hj q2 (List.getElem?_eq_some_iff.mp q3).1) hd ?_
  rw [ol_nat32 hj q2, ol_gi_of q3]
  exact kk (hW.2.2.2.get q1 q3) hb H locs ls hW hS hL
theorem rr_a {k t : Nat} {C : String} {r : ol_RE} {i : ol_IE} (hr : IM_R x K M d p1 p2 r) (hi : IM_I x K M (d + 1) p2 p i) (hk : 103 ≤ k) (ht : (ol_tys K)[t]? = some (K.2.2.1 k, .object C)) (hd : decode M.1 p = .ok (.aaload, 1)) : IM_R x K M d p1 (p + 1) (er_a k r i) := by
  intro ok L h stk v h' hcs hf kk
  simp only [er_a, Option.bind_eq_some_iff] at hf
  obtain ⟨⟨a, h1⟩, e1, ⟨j, h2⟩, e2, n, e3, e4⟩ := hf
  cases e4
  refine hr ok L h stk a _ hcs e1 ?_
  refine hi ok L h1 _ j _ (ol_cs1 rfl hcs) e2 fun hj => ?_
  intro hb H locs ls hW hS hL
  obtain ⟨ys, q1, q2, q3⟩ := ol_arr_inv (ol_ref_inv e3)
  have hws := ol_ws_get (K := K) q1
  rw [ol_E_ref hk] at hws
  rw [ol_ad_in hW.2.1 q1]
  refine va_aldq ok.1 ok.2.1 ok.2.2.2.2.1 hW.2.2.1 a t hws ht (ol_vin hj q2 (List.getElem?_eq_some_iff.mp q3).1) hd ?_
  rw [ol_nat32 hj q2, ol_gr_of q3]
  exact kk hb H locs ls hW hS hL
end OLE
