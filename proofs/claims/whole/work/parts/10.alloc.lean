/-! copies and new cells -/
def ol_psh (h : ol_H) (c : ol_C) (bc bs : Nat) : Option ol_H := if h.1.length + 1 ≤ 1000000 ∧ h.2.1 + 1 ≤ bc ∧ h.2.2 + c.2.length ≤ bs then some (h.1 ++ [c], h.2.1 + 1, h.2.2 + c.2.length) else none
def ol_caN (f : ol_FE) (Bc Bs bc bs : Nat) (vs : List ol_V) (h : ol_H) : Option (Option ol_V × ol_H) := (f vs (h.1, 0, 0)).bind fun p => if p.2.2 = (Bc, Bs) ∧ h.2.1 + Bc ≤ bc ∧ h.2.2 + Bs ≤ bs then some (p.1, (p.2.1, h.2.1 + Bc, h.2.2 + Bs)) else none
def ol_dv : FieldType → ol_V
  | .object _ => .inr (.inl none)
  | .array _ => .inr (.inl none)
  | .long => .inr (.inr 0)
  | _ => .inl 0
def ol_okt : FieldType → Bool
  | .float => false
  | .double => false
  | _ => true
def ol_dvs (ty : Nat → FieldType) (N : Nat) : List ol_V := (List.range N).map (fun j => ol_dv (ty j))
def er_n (ci : Nat) (ty : Nat → FieldType) (N bc bs : Nat) (f : ol_FE) (Bc Bs : Nat) (a : ol_AE) : ol_RE := fun L h => (ol_psh h (ci, ol_dvs ty N) bc bs).bind fun h1 => (a L h1).bind fun p => (ol_caN f Bc Bs bc bs (.inr (.inl (some h.1.length)) :: p.1) p.2).bind fun q => some (h.1.length, q.2)
def er_na (k bc bs : Nat) (n : Nat) : ol_RE := fun _ h => (ol_psh h (k, List.replicate n (.inl 0)) bc bs).bind fun h1 => some (h.1.length, h1)
def er_nr (k bc bs : Nat) (n : Nat) : ol_RE := fun _ h => (ol_psh h (k, List.replicate n (.inr (.inl none))) bc bs).bind fun h1 => some (h.1.length, h1)
def er_st (r : ol_RE) (i v : Int) : ol_RE := fun L h => (r L h).bind fun p => (ol_ast p.2 100 p.1 i (.inl v)).bind fun h' => some (p.1, h')
theorem ol_cp_inv {h h' : ol_H} {a b n : Nat} (e : ol_cp h a b n = some h') : ∃ zs ys, h.1[a]? = some (100, zs) ∧ h.1[b]? = some (100, ys) ∧ n ≤ zs.length ∧ n ≤ ys.length ∧ h' = (h.1.set b (100, zs.take n ++ ys.drop n), h.2) := by
  simp only [ol_cp, Option.bind_eq_some_iff] at e
  obtain ⟨⟨k1, zs⟩, e1, ⟨k2, ys⟩, e2, e3⟩ := e
  dsimp only at e3
  split at e3
  · rename_i hk
    obtain ⟨rfl, rfl, h1, h2⟩ := hk
    cases e3
    exact ⟨zs, ys, e1, e2, h1, h2, rfl⟩
  · cases e3
theorem ol_R.put {cs : List ol_C} (h : ol_R cs) {a : Nat} {c : ol_C} (hc : ∀ (j : Nat) (v : ol_V), c.2[j]? = some v → ol_rv v) : ol_R (cs.set a c) := by
  intro b e hb
  rw [List.getElem?_set] at hb
  by_cases hab : a = b
  · subst hab
    by_cases hl : a < cs.length
    · simp [hl] at hb
      subst hb
      exact hc
    · simp [hl] at hb
  · simp [hab] at hb
    exact h b e hb
theorem ol_psh_inv {h h' : ol_H} {c : ol_C} {bc bs : Nat} (e : ol_psh h c bc bs = some h') : h.1.length + 1 ≤ 1000000 ∧ h.2.1 + 1 ≤ bc ∧ h.2.2 + c.2.length ≤ bs ∧ h' = (h.1 ++ [c], h.2.1 + 1, h.2.2 + c.2.length) := by
  unfold ol_psh at e
  split at e
  · rename_i hh
    cases e
    exact ⟨hh.1, hh.2.1, hh.2.2, rfl⟩
  · cases e
section OLN
variable {x : ol_X} {K : ol_K} {M Mc : ol_M} {d p p1 p2 p3 p4 p5 pE : Nat}
theorem rs_cp {r1 r2 : ol_RE} {n index : Nat} (h1 : IM_R x K M 0 p1 p2 r1) (h2 : IM_I x K M 1 p2 p3 (ei_c 0)) (h3 : IM_R x K M 2 p3 p4 r2) (h4 : IM_I x K M 3 p4 p5 (ei_c 0)) (h5 : IM_I x K M 4 p5 p (ei_c (n : Int))) (hd : decode M.1 p = .ok (.invokestatic index, 3)) (hl : Cond.methodLink M.2.1 index arraycopyName ∈ ol_tb) (hw : Cond.native arraycopyName ∈ ol_tb ∧ Cond.static arraycopyName ∈ ol_tb ∧ Cond.initialized "java/lang/System" ∈ ol_tb) (hlv : 1 ≤ ml M) : IM_S x K M p1 (p + 3) (es_cp r1 r2 n) := by
  intro ok L h c L' h' hf kn kr
  simp only [es_cp, Option.bind_eq_some_iff] at hf
  obtain ⟨⟨a, g1⟩, e1, ⟨b, g2⟩, e2, g3, e3, e4⟩ := hf
  cases e4
  refine h1 ok L h [] a _ (Nat.le_refl _) e1 ?_
  refine h2 ok L g1 _ 0 _ (ol_cs1 rfl (Nat.le_refl _)) rfl fun _ => ?_
  refine h3 ok L g1 _ b _ (ol_cs1 rfl (ol_cs1 rfl (Nat.le_refl _))) e2 ?_
  refine h4 ok L g2 _ 0 _ (ol_cs1 rfl (ol_cs1 rfl (ol_cs1 rfl (Nat.le_refl _)))) rfl fun _ => ?_
  refine h5 ok L g2 _ (n : Int) _ (ol_cs1 rfl (ol_cs1 rfl (ol_cs1 rfl (ol_cs1 rfl (Nat.le_refl _))))) rfl fun hn => ?_
  intro hb H locs ls hW hS hL
  obtain ⟨zs, ys, q1, q2, q3, q4, rfl⟩ := ol_cp_inv e3
  have w1 := ol_ws_get (K := K) q1
  have w2 := ol_ws_get (K := K) q2
  rw [ol_E_int (Or.inl rfl)] at w1 w2
  have hts := ok.2.2.2.1
  have hfr : ml M ≤ (xR x).frames := ok.2.2.2.2.2.2.2.2.2.1
  have hlo : 60 * ml M ≤ (xR x).locals := ok.2.2.2.2.2.2.2.2.2.2.1
  have hnw : nativeFrameWords "java/lang/System" "arraycopy" 5 + 11 ≤ 60 := by decide
  rw [ol_ad_in hW.2.1 q1, ol_ad_in hW.2.1 q2]
  have z0 : (Int32.ofInt 0).toNatClampNeg = 0 := rfl
  have zn : (Int32.ofInt (n : Int)).toNatClampNeg = n := by rw [ol_nat32 hn (by omega)]; rfl
  refine va_copyi (A := ol_A K) (H0 := H) (ty := .int) ok.1 ok.2.1 (by rw [hL.1]) ok.2.2.1 (hts _ hl) (hts _ hw.1) (hts _ hw.2.1) (hts _ hw.2.2) ok.2.2.2.2.1 hW.2.2.1 (ol_ws_D K _) (ol_S_self hS) a b 0 0 w1 w2 rfl rfl rfl (by decide) (by decide) (fun z => by have := (ol_lt32 hn ol_in0).mp z; omega) (by rw [z0, zn]; omega) (by rw [z0, zn]; omega) (fun i _ => rfl) (by omega) (by simp; omega) hd fun H1 locs1 hP1 _ hS1 => ?_
  refine kn rfl hb.set H1 locs1 ls ?_ (ol_S_trans hS hS1) hL
  have hlen : (zs.take n ++ ys.drop n).length = ys.length := by
    rw [List.length_append, List.length_take, List.length_drop]
    omega
  refine ⟨?_, ?_, ?_, hW.2.2.2.put (fun j v hv => ?_)⟩
  · show K.1 + (g2.1.set b _).length ≤ _
    rw [List.length_set]
    exact Nat.le_trans hW.1 hS1.1
  · show (g2.1.set b _).length ≤ _
    rw [List.length_set]
    exact hW.2.1
  · show va_P _ _ (ol_ws K (g2.1.set b _)) H1
    rw [← ol_ws_set, ol_E_int (Or.inl rfl), hlen]
    have hfun : (fun j => Int32.ofInt (ol_gi (zs.take n ++ ys.drop n) j)) = va_cpy (fun j => Int32.ofInt (ol_gi zs j)) (fun j => Int32.ofInt (ol_gi ys j)) (Int32.ofInt 0).toNatClampNeg (Int32.ofInt 0).toNatClampNeg (Int32.ofInt (n : Int)).toNatClampNeg := by
      funext j
      rw [z0, zn]
      unfold va_cpy ol_gi
      by_cases hj : j < n
      · rw [if_pos ⟨Nat.zero_le _, by omega⟩, List.getElem?_append_left (by rw [List.length_take]; omega), List.getElem?_take_of_lt hj]
        simp
      · rw [if_neg (by omega), List.getElem?_append_right (by rw [List.length_take]; omega), List.getElem?_drop, List.length_take]
        rw [show n + (j - min n zs.length) = j by omega]
    rw [hfun]
    exact hP1
  · by_cases hj : j < n
    · rw [List.getElem?_append_left (by rw [List.length_take]; omega), List.getElem?_take_of_lt hj] at hv
      exact hW.2.2.2 a _ q1 j v hv
    · rw [List.getElem?_append_right (by rw [List.length_take]; omega), List.getElem?_drop, List.length_take] at hv
      exact hW.2.2.2 b _ q2 _ v hv
/-- the world with one cell more -/
theorem ol_Wd.push {h : ol_H} {H H1 : Heap} {c : ol_C} {k n : Nat} (hW : ol_Wd K h H) (hsz : H.size = K.1 + h.1.length) (hl : h.1.length + 1 ≤ 1000000) (hr : ∀ (j : Nat) (v : ol_V), c.2[j]? = some v → ol_rv v) (z1 : H1.size = H.size + 1) (o1 : ∀ q, q < H.size → H1[q]? = H[q]?) (hat : va_at K.2.1 vwCl (K.1 + h.1.length, ol_E K c) H1) : ol_Wd K (h.1 ++ [c], k, n) H1 := by
  refine ⟨?_, ?_, ?_, hW.2.2.2.push hr⟩
  · show K.1 + (h.1 ++ [c]).length ≤ _
    rw [List.length_append, List.length_singleton]
    omega
  · show (h.1 ++ [c]).length ≤ _
    rw [List.length_append, List.length_singleton]
    exact hl
  · show va_P _ _ (ol_ws K (h.1 ++ [c])) H1
    rw [ol_ws_push]
    refine (hW.2.2.1.kept fun k q hk => o1 q.1 (hW.2.2.1 k q hk).lt).app fun k q hk => ?_
    have hz : k < 1 := (List.getElem?_eq_some_iff.mp hk).1
    rw [show k = 0 by omega] at hk
    cases hk
    exact hat
theorem ol_S_push {H H1 : Heap} {locs : List Loc} (hS : va_S (ol_A K) (xs x).heap H locs) (z1 : H1.size = H.size + 1) (o1 : ∀ q, q < H.size → H1[q]? = H[q]?) : va_S (ol_A K) (xs x).heap H1 locs := ⟨Nat.le_trans hS.1 (by omega), fun q h1 h2 => (o1 q (Nat.lt_of_lt_of_le h1 hS.1)).trans (hS.2.1 q h1 h2), hS.2.2⟩
theorem ol_psh_B {h h' : ol_H} {c : ol_C} {bc bs : Nat} (ok : ol_Ok x K M) (hbc : bc = mc M) (hbs : bs = ms M) (e : ol_psh h c bc bs = some h') (hb : ol_B x K h) : ol_B x K h' := by
  obtain ⟨p1, p2, p3, rfl⟩ := ol_psh_inv e
  have h1 : mc M ≤ (xR x).cells := ok.2.2.2.2.2.2.2.2.2.2.2.1
  have h2 : ms M ≤ (xR x).slots := ok.2.2.2.2.2.2.2.2.2.2.2.2.1
  refine ⟨by show h.2.1 + 1 ≤ _; omega, by show h.2.2 + c.2.length ≤ _; omega, ?_⟩
  show K.1 + (h.1 ++ [c]).length = (xs x).heap.size + (h.2.1 + 1)
  rw [List.length_append, List.length_singleton]
  have := hb.2.2
  omega
theorem rr_na {k t n : Nat} {ty : FieldType} {atype : ArrayType} (he : IM_I x K M d p1 p (ei_c (n : Int))) (hk : k = 100 ∨ k = 101 ∨ k = 102) (ht : (ol_tys K)[t]? = some (K.2.2.1 k, ty)) (hty : newarray.typeOf atype = ty) (hdef : defaultValue ty = .int 0) (hra : ∀ U cA, va_RA U cA ty = (U.vm.findClass ("[" ++ ty.toString) = some cA)) (hw : Cond.arrayClass ty ∈ ol_tb) (hby : n * componentBytes ty ≤ 536870912) (hd : decode M.1 p = .ok (.newarray atype, 2)) : IM_R x K M d p1 (p + 2) (er_na k (mc M) (ms M) n) := by
  intro ok L h stk a h' hcs hf kk
  simp only [er_na, Option.bind_eq_some_iff] at hf
  obtain ⟨h1, e1, e2⟩ := hf
  cases e2
  refine he ok L h stk _ _ hcs rfl fun hn => ?_
  intro hb H locs ls hW hS hL
  refine ol_sz fun hsz => ?_
  have hs := ol_size_eq ok hb hW hsz
  obtain ⟨g1, g2, g3, rfl⟩ := ol_psh_inv e1
  have hB := ol_psh_B ok rfl rfl e1 hb
  have zn : (Int32.ofInt (n : Int)).toNatClampNeg = n := by rw [ol_nat32 hn (by omega)]; rfl
  have m1 : mc M ≤ (xR x).cells := ok.2.2.2.2.2.2.2.2.2.2.2.1
  have m2 : ms M ≤ (xR x).slots := ok.2.2.2.2.2.2.2.2.2.2.2.2.1
  have hlr : (List.replicate n (Sum.inl 0 : ol_V)).length = n := List.length_replicate
  dsimp only at g3
  rw [hlr] at g3
  subst hty
  refine va_newaK (N := n) (h := H.size) ok.1 ok.2.1 (ok.2.2.2.1 _ hw) rfl hd rfl (fun z => by have := (ol_lt32 hn ol_in0).mp z; omega) zn hby (by omega) (by omega) rfl fun H1 cA f1 z1 o1 hAr hNm => ?_
  have hcA : cA = K.2.2.1 k := by
    have h9 := (ok.2.2.2.2.1.2 t _ ht).2
    rw [hra] at h9
    exact Option.some.inj (hNm.symm.trans h9)
  subst hcA
  have := kk hB H1 locs ls (hW.push hs g1 (fun j v hv => by
    have := List.eq_of_mem_replicate (List.mem_of_getElem? hv)
    subst this
    exact ol_in0) z1 o1 (by
    rw [ol_E_int hk]
    show H1[K.1 + h.1.length]? = some (vp_cell _ _)
    rw [← hs, f1, vp_cell_i, hlr, hdef]
    congr 2
    funext j
    have : ol_gi (List.replicate n (Sum.inl 0)) j = 0 := by
      unfold ol_gi
      rw [List.getElem?_replicate]
      split <;> rfl
    rw [this]
    rfl)) (ol_S_push hS z1 o1) hL
  rw [hlr] at this
  have had : ol_ad K h.1.length = H.size := by unfold ol_ad; rw [if_pos (by omega), hs]
  rw [had] at this
  exact this
theorem rr_nr {k t n index : Nat} {C : String} (he : IM_I x K M d p1 p (ei_c (n : Int))) (hk : 103 ≤ k) (ht : (ol_tys K)[t]? = some (K.2.2.1 k, .object C)) (hao : C ∈ ol_ao) (hw : Cond.classLink M.2.1 index C ∈ ol_tb) (hby : n * 4 ≤ 536870912) (hd : decode M.1 p = .ok (.anewarray index, 3)) : IM_R x K M d p1 (p + 3) (er_nr k (mc M) (ms M) n) := by
  intro ok L h stk a h' hcs hf kk
  simp only [er_nr, Option.bind_eq_some_iff] at hf
  obtain ⟨h1, e1, e2⟩ := hf
  cases e2
  refine he ok L h stk _ _ hcs rfl fun hn => ?_
  intro hb H locs ls hW hS hL
  refine ol_sz fun hsz => ?_
  have hs := ol_size_eq ok hb hW hsz
  obtain ⟨g1, g2, g3, rfl⟩ := ol_psh_inv e1
  have hB := ol_psh_B ok rfl rfl e1 hb
  have zn : (Int32.ofInt (n : Int)).toNatClampNeg = n := by rw [ol_nat32 hn (by omega)]; rfl
  have m1 : mc M ≤ (xR x).cells := ok.2.2.2.2.2.2.2.2.2.2.2.1
  have m2 : ms M ≤ (xR x).slots := ok.2.2.2.2.2.2.2.2.2.2.2.2.1
  have hlr : (List.replicate n (Sum.inr (Sum.inl none) : ol_V)).length = n := List.length_replicate
  dsimp only at g3
  rw [hlr] at g3
  refine W.anew ok.1 ok.2.1 ok.2.2.1 (ok.2.2.2.1 _ hw) (va_AO.use (ok.2.2.2.2.2.2.2.2.2.2.2.2.2.1.2.2.2 C hao)) rfl hd rfl (fun z => by have := (ol_lt32 hn ol_in0).mp z; omega) (by rw [zn]; exact hby) (by omega) (by rw [zn]; omega) fun cA kA comp f1 f2 f3 f4 => ?_
  rw [zn]
  generalize hH1 : H.push ({ cls := cA, slots := Array.replicate n .null, vm := .none } : Cell) = H1
  have z1 : H1.size = H.size + 1 := by rw [← hH1, Array.size_push]
  have e1 : H1[H.size]? = some (arrV cA n (fun _ => .null)) := by rw [← hH1, Array.getElem?_push_size, ← arrV_new]
  have o1 : ∀ q : Nat, q < H.size → H1[q]? = H[q]? := fun q hq => by rw [← hH1, Array.getElem?_push, if_neg (Nat.ne_of_lt hq)]
  have hcA : cA = K.2.2.1 k := by
    obtain ⟨kA', comp', -, -, -, h9⟩ := (ok.2.2.2.2.1.2 t _ ht).2
    exact Option.some.inj (f1.symm.trans h9)
  subst hcA
  have := kk hB H1 locs ls (hW.push hs g1 (fun j v hv => by
    have := List.eq_of_mem_replicate (List.mem_of_getElem? hv)
    subst this
    exact trivial) z1 o1 (by
    rw [ol_E_ref hk]
    show H1[K.1 + h.1.length]? = some (vp_cell _ _)
    rw [← hs, e1, vp_cell_q, hlr]
    congr 2
    funext j
    have : ol_gr (List.replicate n (Sum.inr (Sum.inl none))) j = none := by
      unfold ol_gr
      rw [List.getElem?_replicate]
      split <;> rfl
    rw [this]
    rfl)) (ol_S_push hS z1 o1) hL
  rw [hlr] at this
  have had : ol_ad K h.1.length = H.size := by unfold ol_ad; rw [if_pos (by omega), hs]
  rw [had] at this
  exact this
theorem rr_st {r : ol_RE} {i v : Int} (hr : IM_R x K M d p1 p2 r) (hd1 : decode M.1 p2 = .ok (.dup, 1)) (hi : IM_I x K M (d + 2) (p2 + 1) p3 (ei_c i)) (hv : IM_I x K M (d + 3) p3 p (ei_c v)) (hd : decode M.1 p = .ok (.iastore, 1)) : IM_R x K M d p1 (p + 1) (er_st r i v) := by
  intro ok L h stk a h' hcs hf kk
  simp only [er_st, Option.bind_eq_some_iff] at hf
  obtain ⟨⟨b, h1⟩, e1, h2, e2, e3⟩ := hf
  cases e3
  refine hr ok L h stk b _ hcs e1 ?_
  intro hb H locs ls hW hS hL
  refine lv_dup ok.1 ok.2.1 hd1 rfl ?_
  refine hi ok L h1 _ i _ (ol_cs1 rfl (ol_cs1 rfl hcs)) rfl (fun hn1 => ?_) hb H locs ls hW hS hL
  refine hv ok L h1 _ v _ (ol_cs1 rfl (ol_cs1 rfl (ol_cs1 rfl hcs))) rfl fun hn2 => ?_
  intro hb H locs ls hW hS hL
  exact ol_astI hd ok hn1 hn2 e2 hW hS fun H1 locs1 hW1 hS1 => by
    have := kk (ol_ast_B e2 hb) H1 locs1 ls hW1 hS1 hL
    rw [ol_ast_2 e2] at this
    exact this
/-- the super constructor -/
theorem rs_obj {index : Nat} {r : ol_RE} (hr : IM_R x K M 0 p1 p r) (hd : decode M.1 p = .ok (.invokespecial index, 3)) (hw : Cond.methodLink M.2.1 index objectInit ∈ ol_tb ∧ Cond.instanceMethod objectInit ∈ ol_tb ∧ Cond.code objectInit ⟨#[0xb1]⟩ 1 none ∈ ol_tb) (hlv : 1 ≤ ml M) : IM_S x K M p1 (p + 3) (fun L h => (r L h).bind fun q => some (none, L, q.2)) := by
  intro ok L h c L' h' hf kn kr
  simp only [Option.bind_eq_some_iff] at hf
  obtain ⟨⟨a, h1⟩, e1, e2⟩ := hf
  cases e2
  refine hr ok L h [] a _ (Nat.le_refl _) e1 ?_
  intro hb H locs ls hW hS hL
  have hts := ok.2.2.2.1
  have hfr : ml M ≤ (xR x).frames := ok.2.2.2.2.2.2.2.2.2.1
  have hlo : 60 * ml M ≤ (xR x).locals := ok.2.2.2.2.2.2.2.2.2.2.1
  refine W.objInit ok.1 ok.2.1 ok.2.2.1 (hts _ hw.1) (hts _ hw.2.1) (hts _ hw.2.2) rfl hL.1 rfl hd (by omega) ?_ (kn rfl hb H locs ls hW hS hL)
  have : (F0 (xm x) p ls [Value.ref (ol_ad K a)]).monitorRoom = 0 := rfl
  rw [this]
  simp
  omega
theorem ol_dv_tv {t : FieldType} (h : ol_okt t = true) : defaultValue t = ol_tv K (ol_dv t) := by
  cases t <;> first | rfl | (cases h)
theorem ol_dv_rv (t : FieldType) : ol_rv (ol_dv t) := by
  cases t <;> first | exact ol_in0 | exact trivial
theorem ol_caN_inv {f : ol_FE} {Bc Bs bc bs : Nat} {vs : List ol_V} {h h' : ol_H} {r : Option ol_V} (e : ol_caN f Bc Bs bc bs vs h = some (r, h')) : ∃ cs', f vs (h.1, 0, 0) = some (r, (cs', Bc, Bs)) ∧ h.2.1 + Bc ≤ bc ∧ h.2.2 + Bs ≤ bs ∧ h' = (cs', h.2.1 + Bc, h.2.2 + Bs) := by
  simp only [ol_caN, Option.bind_eq_some_iff] at e
  obtain ⟨⟨r1, cs1, k1, n1⟩, e1, e2⟩ := e
  dsimp only at e2
  split at e2
  · rename_i hk
    obtain ⟨hk, h1, h2⟩ := hk
    cases hk
    cases e2
    exact ⟨cs1, e1, h1, h2, rfl⟩
  · cases e2
/-- the link of a constructor: a common one, or a nest mate's -/
def ol_lk (own : String) (index : Nat) (y : MethodName) : Prop := Cond.methodLink own index y ∈ ol_tb ∨ ∃ host, (own, index, y, host) ∈ ol_nm
theorem rr_n {ci index index2 n N : Nat} {C : String} {T : u_T} {ty : Nat → FieldType} {y : MethodName} {f : ol_FE} {a : ol_AE} (hcon : ol_Con (xl x) K y Mc f) (hd1 : decode M.1 p1 = .ok (.new index, 3)) (hd2 : decode M.1 (p1 + 3) = .ok (.dup, 1)) (ha : IM_A x K M (d + 2) (p1 + 4) p a) (hd : decode M.1 p = .ok (.invokespecial index2, 3)) (hc : vwCl[ci]? = some (C, T, N)) (hci : ci < 100) (hin : ∀ w ∈ u_ws C T N, w ∈ ol_tb) (hty : ∀ k, k < N → parseFieldDescriptor (T k).2.2.1 = some (ty k)) (hokt : ∀ k, k < N → ol_okt (ty k) = true)
    (hw : Cond.classLink M.2.1 index C ∈ ol_tb ∧ Cond.instantiable C N ∈ ol_tb ∧ Cond.initialized C ∈ ol_tb) (hlk : ol_lk M.2.1 index2 y) (hy : y.name = "<init>" ∧ Cond.instanceMethod y ∈ ol_tb ∧ Cond.code y Mc.1 (mn Mc) none ∈ ol_tb ∧ Cond.initialized y.cls ∈ ol_tb ∧ y.cls ≠ "java/lang/invoke/MethodHandle" ∧ y.cls ≠ "java/lang/invoke/VarHandle" ∧ (parseMethodDescriptor y.desc).map (fun d => d.parameters.length) = some n) (hret : mr Mc = none) (hlv : ml Mc < ml M) (hmn : mn Mc ≤ 41) (hdp : d + 1 ≤ 8) (hal : ol_al a n) : IM_R x K M d p1 (p + 3) (er_n ci ty N (mc M) (ms M) f (mc Mc) (ms Mc) a) := by
  intro ok L h stk b h' hcs hf kk
  simp only [er_n, Option.bind_eq_some_iff] at hf
  obtain ⟨h1, e1, ⟨vs, h2⟩, e2, ⟨r, h3⟩, e3, e4⟩ := hf
  cases e4
  have hts := ok.2.2.2.1
  have hfr : ml M ≤ (xR x).frames := ok.2.2.2.2.2.2.2.2.2.1
  have hlo : 60 * ml M ≤ (xR x).locals := ok.2.2.2.2.2.2.2.2.2.2.1
  have m1 : mc M ≤ (xR x).cells := ok.2.2.2.2.2.2.2.2.2.2.2.1
  have m2 : ms M ≤ (xR x).slots := ok.2.2.2.2.2.2.2.2.2.2.2.2.1
  intro hb H locs ls hW hS hL
  refine ol_sz fun hsz => ?_
  have hs := ol_size_eq ok hb hW hsz
  have hB := ol_psh_B ok rfl rfl e1 hb
  obtain ⟨g1, g2, g3, rfl⟩ := ol_psh_inv e1
  have hlr : (ol_dvs ty N).length = N := by simp [ol_dvs]
  dsimp only at g3
  rw [hlr] at g3
  have hKn := ok.2.2.2.2.1.1 ci _ hc
  have had : ol_ad K h.1.length = H.size := by unfold ol_ad; rw [if_pos (by omega), hs]
  refine W.newcK (n := N) ok.1 ok.2.1 ok.2.2.1 (hts _ hw.1) (hts _ hw.2.1) (hts _ hw.2.2) rfl hd1 (by omega) (by omega) hKn.2.1 rfl fun H1 kC hkC f1 z1 o1 => ?_
  have hW1 : ol_Wd K (h.1 ++ [(ci, ol_dvs ty N)], h.2.1 + 1, h.2.2 + (ol_dvs ty N).length) H1 := hW.push hs g1 (fun j v hv => by
    obtain ⟨k, -, rfl⟩ := List.mem_map.mp (List.mem_of_getElem? hv)
    exact ol_dv_rv _) z1 o1 (by
    rw [ol_E_obj hci]
    refine ⟨_, hc, ?_⟩
    have hborn := u_born ty hts hin hKn hkC f1 hty
    rw [hs] at hborn
    refine hborn.to fun j hj => ?_
    rw [ol_dv_tv (K := K) (hokt j hj)]
    simp [vp_V, ol_dvs, hj])
  have hS1 := ol_S_push (x := x) hS z1 o1
  refine lv_dup ok.1 ok.2.1 hd2 rfl ?_
  rw [hlr] at hB hW1
  have key : ol_WW x K (p1 + 4) L (h.1 ++ [(ci, ol_dvs ty N)], h.2.1 + 1, h.2.2 + N) (.ref H.size :: .ref H.size :: stk) := by
    rw [hlr] at e2
    refine ha ok L _ _ vs h2 (ol_cs1 rfl (ol_cs1 rfl hcs)) e2 fun hvs => ?_
    intro hb2 H2 locs2 ls2 hW2 hS2 hL2
    refine ol_sz fun hsz2 => ?_
    have hs2 := ol_size_eq ok hb2 hW2 hsz2
    obtain ⟨cs', q1, q2, q3, rfl⟩ := ol_caN_inv e3
    dsimp only at q1 q2 q3
    have hM := hcon _ h2.1 r cs' (fun v hv => by rcases List.mem_cons.mp hv with rfl | hv; exact trivial; exact hvs v hv) q1
    have hpre : PreS (xs x) H2 (ol_Pc K (.inr (.inl (some h.1.length)) :: vs) h2.1) (.ref H.size :: vs.map (ol_tv K)) := ⟨ol_Pc_blind _ _, fun U hU hWm => ⟨by rw [← had]; rfl, by rw [hU]; exact hs2, by rw [hU]; exact hW2, va_K.moved hWm.alike ok.2.2.2.2.1, ol_Ext_at ok hS2 hU hWm, ok.2.2.2.2.2.2.2.2.2.2.2.2.2.1.warm hWm⟩⟩
    have hrun : va_Run (xp x) (xl x) (xe x) (xR x) (xs x) (xm x) (xa x) (xb x) (xt x) (xc x) H2 locs2 h2.2.1 h2.2.2 (mc Mc) (ms Mc) (F0 (xm x) p ls2 ((vs.map (ol_tv K)).reverse ++ .ref H.size :: .ref H.size :: stk)) (.ref H.size :: stk) (ol_Qc K Mc h2.1 r cs' (Value.ref H.size :: vs.map (ol_tv K)).toArray) (ol_A K) := by
      have hlen := hal _ _ _ _ e2
      have hnl : ls2.size = mn M := by rw [hL2.1]; exact ok.2.2.2.2.2.2.2.2.2.2.2.2.2.2.1
      have hgood : GoodIn ol_tb (ol_wd y Mc) := ol_good (by rw [hret]; exact hy.2.2.1)
      have hwd : ol_wd y Mc = Cond.code y Mc.1 (mn Mc) none :: ol_tb := by unfold ol_wd; rw [hret]
      have hR : (ol_rm Mc).frames + 1 ≤ (xR x).frames ∧ 8 + (mn Mc + 11) + (ol_rm Mc).locals ≤ (xR x).locals := ⟨by show ml Mc + 1 ≤ _; omega, by show 8 + (mn Mc + 11) + 60 * ml Mc ≤ _; omega⟩
      rcases hlk with hlk | ⟨host, hlk⟩
      · exact va_runI (Ts := ol_tb) ⟨ok.1, ok.2.1, ok.2.2.2.2.2.2.2.2.2.2.2.2.2.2.1, ok.2.2.1, hts⟩ hM (cwI (bytes := Mc.1) (maxL := mn Mc) n hts hgood hwd rfl rfl (hts _ hy.2.2.2.1) (hts _ hlk) (hts _ hy.2.1) hy.1 hy.2.2.2.2 hR) hpre rfl (by rw [List.length_map]; exact hlen) hnl rfl (lv_room (Nat.le_trans (ol_cs1 rfl hcs) hdp)) hd ⟨by omega, by omega⟩
      · exact va_runIN (Ts := ol_tb) ⟨ok.1, ok.2.1, ok.2.2.2.2.2.2.2.2.2.2.2.2.2.2.1, ok.2.2.1, hts⟩ hM ⟨va_cnB (bytes := Mc.1) (maxL := mn Mc) n hts hgood hwd rfl rfl (ok.2.2.2.2.2.2.2.2.2.2.2.2.2.1.2.1 _ hlk) (hts _ hy.2.2.2.1) hy.2.2.2.2 hR, hy.1, hts _ hy.2.1⟩ hpre rfl (by rw [List.length_map]; exact hlen) hnl rfl (lv_room (Nat.le_trans (ol_cs1 rfl hcs) hdp)) hd ⟨by omega, by omega⟩
    refine ol_after hrun hS2 fun H3 locs3 hW3 hS3 hl3 hrt => ?_
    have hrn : r = none := by
      rw [hret] at hrt
      rcases r with _ | v
      · rfl
      · exact hrt.elim
    subst hrn
    have := kk ⟨by show h2.2.1 + mc Mc ≤ _; omega, by show h2.2.2 + ms Mc ≤ _; omega, by have := hb2.2.2; show K.1 + cs'.length = (xs x).heap.size + (h2.2.1 + mc Mc); omega⟩ H3 locs3 ls2 hW3 hS3 hL2
    rw [had] at this
    exact this
  exact key hB H1 locs ls hW1 hS1 hL
end OLN
