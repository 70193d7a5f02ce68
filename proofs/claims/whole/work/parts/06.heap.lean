/-! stores -/
theorem ol_S_self {A : Nat → Prop} {H0 H : Heap} {locs : List Loc} (hS : va_S A H0 H locs) : va_S A H H locs := ⟨Nat.le_refl _, fun _ _ _ => rfl, hS.2.2⟩
theorem ol_S_trans {A : Nat → Prop} {H0 H H1 : Heap} {locs locs1 : List Loc} (hS : va_S A H0 H locs) (h1 : va_S A H H1 locs1) : va_S A H0 H1 locs1 := ⟨Nat.le_trans hS.1 h1.1, fun q g1 g2 => (h1.2.1 q (Nat.lt_of_lt_of_le g1 hS.1) g2).trans (hS.2.1 q g1 g2), h1.2.2⟩
def ol_put (h : ol_H) (ci a j : Nat) (v : ol_V) : Option ol_H := (h.1[a]?).bind fun c => if c.1 = ci ∧ j < c.2.length then some (h.1.set a (c.1, c.2.set j v), h.2) else none
def ol_ast (h : ol_H) (k a : Nat) (i : Int) (v : ol_V) : Option ol_H := (h.1[a]?).bind fun c => if c.1 = k ∧ 0 ≤ i ∧ i.toNat < c.2.length then some (h.1.set a (c.1, c.2.set i.toNat v), h.2) else none
def ol_nb (n : Int) : Int := ((Int32.ofInt n).toInt8.toInt32).toInt
def es_pf (ci j : Nat) (r : ol_RE) (e : ol_IE) : ol_SE := fun L h => (r L h).bind fun p => (e L p.2).bind fun q => (ol_put q.2 ci p.1 j (.inl q.1)).bind fun h' => some (none, L, h')
def es_pz (ci j : Nat) (r : ol_RE) (e : ol_IE) : ol_SE := fun L h => (r L h).bind fun p => (e L p.2).bind fun q => if q.1 = 0 ∨ q.1 = 1 then (ol_put q.2 ci p.1 j (.inl q.1)).bind fun h' => some (none, L, h') else none
def es_pr (ci j : Nat) (r e : ol_RE) : ol_SE := fun L h => (r L h).bind fun p => (e L p.2).bind fun q => (ol_put q.2 ci p.1 j (.inr (.inl (some q.1)))).bind fun h' => some (none, L, h')
def es_as (k : Nat) (r : ol_RE) (i e : ol_IE) : ol_SE := fun L h => (r L h).bind fun p => (i L p.2).bind fun q => (e L q.2).bind fun s => (ol_ast s.2 k p.1 q.1 (.inl s.1)).bind fun h' => some (none, L, h')
def es_bs (k : Nat) (r : ol_RE) (i e : ol_IE) : ol_SE := fun L h => (r L h).bind fun p => (i L p.2).bind fun q => (e L q.2).bind fun s => (ol_ast s.2 k p.1 q.1 (.inl (ol_nb s.1))).bind fun h' => some (none, L, h')
def es_zs (k : Nat) (r : ol_RE) (i e : ol_IE) : ol_SE := fun L h => (r L h).bind fun p => (i L p.2).bind fun q => (e L q.2).bind fun s => if s.1 = 0 ∨ s.1 = 1 then (ol_ast s.2 k p.1 q.1 (.inl s.1)).bind fun h' => some (none, L, h') else none
def ol_isC (h : ol_H) (a ci : Nat) : Bool := match h.1[a]? with
  | some c => decide (c.1 = ci)
  | none => false
def es_rs (k ci : Nat) (r : ol_RE) (i : ol_IE) (e : ol_RE) : ol_SE := fun L h => (r L h).bind fun p => (i L p.2).bind fun q => (e L q.2).bind fun s => if ol_isC s.2 s.1 ci then (ol_ast s.2 k p.1 q.1 (.inr (.inl (some s.1)))).bind fun h' => some (none, L, h') else none
def es_uf (ci j : Nat) (r : ol_RE) (f : Int → Int → Option Int) (e : ol_IE) : ol_SE := fun L h => (r L h).bind fun p => (ol_int (ol_fld p.2 ci p.1 j)).bind fun v => (e L p.2).bind fun q => (f v q.1).bind fun n => (ol_put q.2 ci p.1 j (.inl n)).bind fun h' => some (none, L, h')
def es_ua (k : Nat) (r : ol_RE) (i : ol_IE) (f : Int → Int → Option Int) (e : ol_IE) : ol_SE := fun L h => (r L h).bind fun p => (i L p.2).bind fun q => (ol_int (ol_arr q.2 k p.1 q.1)).bind fun v => (e L q.2).bind fun s => (f v s.1).bind fun n => (ol_ast s.2 k p.1 q.1 (.inl n)).bind fun h' => some (none, L, h')
theorem ol_put_inv {h h' : ol_H} {ci a j : Nat} {v : ol_V} (e : ol_put h ci a j v = some h') : ∃ ys, h.1[a]? = some (ci, ys) ∧ j < ys.length ∧ h' = (h.1.set a (ci, ys.set j v), h.2) := by
  simp only [ol_put, Option.bind_eq_some_iff] at e
  obtain ⟨⟨k, ys⟩, e1, e2⟩ := e
  dsimp only at e2
  split at e2
  · rename_i hk; obtain ⟨rfl, hj⟩ := hk; cases e2; exact ⟨ys, e1, hj, rfl⟩
  · cases e2
theorem ol_ast_inv {h h' : ol_H} {k a : Nat} {i : Int} {v : ol_V} (e : ol_ast h k a i v = some h') : ∃ ys, h.1[a]? = some (k, ys) ∧ 0 ≤ i ∧ i.toNat < ys.length ∧ h' = (h.1.set a (k, ys.set i.toNat v), h.2) := by
  simp only [ol_ast, Option.bind_eq_some_iff] at e
  obtain ⟨⟨k', ys⟩, e1, e2⟩ := e
  dsimp only at e2
  split at e2
  · rename_i hk; obtain ⟨rfl, hi, hj⟩ := hk; cases e2; exact ⟨ys, e1, hi, hj, rfl⟩
  · cases e2
/-- a world in which one cell has changed -/
theorem ol_Wd.put {K : ol_K} {h : ol_H} {H H1 : Heap} {a k j : Nat} {ys : List ol_V} {v : ol_V} (hW : ol_Wd K h H) (hc : h.1[a]? = some (k, ys)) (hv : ol_rv v) (hz : H.size ≤ H1.size) (hP : va_P K.2.1 vwCl ((ol_ws K h.1).set a (K.1 + a, ol_E K (k, ys.set j v))) H1) : ol_Wd K (h.1.set a (k, ys.set j v), h.2) H1 := by
  rw [ol_ws_set] at hP
  refine ⟨?_, ?_, hP, hW.2.2.2.set hc hv⟩
  · show K.1 + (h.1.set a _).length ≤ _
    rw [List.length_set]
    exact Nat.le_trans hW.1 hz
  · show (h.1.set a _).length ≤ _
    rw [List.length_set]
    exact hW.2.1
theorem ol_B.set {x : ol_X} {K : ol_K} {h : ol_H} {a : Nat} {c : ol_C} (hb : ol_B x K h) : ol_B x K (h.1.set a c, h.2) := ⟨hb.1, hb.2.1, by show K.1 + (h.1.set a _).length = _; rw [List.length_set]; exact hb.2.2⟩
theorem ol_B.back {x : ol_X} {K : ol_K} {h : ol_H} {a : Nat} {c : ol_C} (hb : ol_B x K (h.1.set a c, h.2)) : ol_B x K h := ⟨hb.1, hb.2.1, by have := hb.2.2; rw [show (h.1.set a c, h.2).1.length = h.1.length from List.length_set] at this; exact this⟩
def ol_pf (own : String) (index ci j : Nat) (C : String) (T : u_T) (N : Nat) (ty0 : Nat → FieldType) (fin : Bool) : Prop := ol_gf own index ci j C T N ∧ (∀ k, k < N → parseFieldDescriptor (T k).2.2.1 = some (ty0 k)) ∧ (∀ a, a < N → ∀ b, b < N → a ≠ b → (T a).2.1 ≠ (T b).2.1) ∧ (T j).2.2.2 = fin
section OLH
variable {x : ol_X} {K : ol_K} {M : ol_M} {d p p1 p2 p3 p4 : Nat}
theorem ol_putf {ci j index : Nat} {C : String} {T : u_T} {N : Nat} {ty0 : Nat → FieldType} (hg : ol_pf M.2.1 index ci j C T N ty0 false) (hd : decode M.1 p = .ok (.putfield index, 3)) (ok : ol_Ok x K M) {h h' : ol_H} {a : Nat} {v : ol_V} (hv : ol_rv v) (hn : narrow (ty0 j) (ol_tv K v) = ol_tv K v) (hfit : fits (ty0 j) (ol_tv K v) = true) (e : ol_put h ci a j v = some h') {H : Heap} {locs : List Loc} {ls : Array Slot} {cells slots : Nat} {rest : List Value} (hW : ol_Wd K h H) (hS : va_S (ol_A K) (xs x).heap H locs)
    (kk : ∀ (H1 : Heap) (locs1 : List Loc), ol_Wd K h' H1 → va_S (ol_A K) (xs x).heap H1 locs1 → ol_W x H1 locs1 cells slots (F0 (xm x) (p + 3) ls rest)) : ol_W x H locs cells slots (F0 (xm x) p ls (ol_tv K v :: .ref (ol_ad K a) :: rest)) := by
  obtain ⟨ys, e1, e2, rfl⟩ := ol_put_inv e
  obtain ⟨⟨g1, g2, g3, g4, g5, g6⟩, g7, g8, g9⟩ := hg
  have hws := ol_ws_get (K := K) e1
  rw [ol_E_obj g2] at hws
  rw [ol_ad_in hW.2.1 e1]
  refine va_put (A := ol_A K) (H0 := H) ok.1 ok.2.1 (Ts := ol_tb) ok.2.2.2.1 g4 ty0 g7 g8 ok.2.2.1 ok.2.2.2.2.1 hW.2.2.1 (ol_ws_D K _) (ol_S_self hS) a hws g1 j g3 (ok.2.2.2.1 _ g5) (fun z hz => by rw [← g6]; exact hz) g9 (g7 j g3) hn hfit (by rw [List.length_map]; exact e2) hd fun H1 locs1 hP1 _ hS1 => ?_
  refine kk H1 locs1 (hW.put e1 hv hS1.1 ?_) (ol_S_trans hS hS1)
  rw [ol_E_obj g2, List.map_set]
  exact hP1
theorem ol_putF {ci j index : Nat} {C : String} {T : u_T} {N : Nat} {ty0 : Nat → FieldType} (hg : ol_pf M.2.1 index ci j C T N ty0 true) (hown : C = M.2.1) (hini : M.2.2.1 = "<init>") (hd : decode M.1 p = .ok (.putfield index, 3)) (ok : ol_Ok x K M) {h h' : ol_H} {a : Nat} {v : ol_V} (hv : ol_rv v) (hn : narrow (ty0 j) (ol_tv K v) = ol_tv K v) (hfit : fits (ty0 j) (ol_tv K v) = true) (e : ol_put h ci a j v = some h') {H : Heap} {locs : List Loc} {ls : Array Slot} {cells slots : Nat} {rest : List Value} (hW : ol_Wd K h H) (hS : va_S (ol_A K) (xs x).heap H locs)
    (kk : ∀ (H1 : Heap) (locs1 : List Loc), ol_Wd K h' H1 → va_S (ol_A K) (xs x).heap H1 locs1 → ol_W x H1 locs1 cells slots (F0 (xm x) (p + 3) ls rest)) : ol_W x H locs cells slots (F0 (xm x) p ls (ol_tv K v :: .ref (ol_ad K a) :: rest)) := by
  obtain ⟨ys, e1, e2, rfl⟩ := ol_put_inv e
  obtain ⟨⟨g1, g2, g3, g4, g5, g6⟩, g7, g8, g9⟩ := hg
  have hws := ol_ws_get (K := K) e1
  rw [ol_E_obj g2] at hws
  rw [ol_ad_in hW.2.1 e1]
  refine va_putF (A := ol_A K) (H0 := H) ok.1 ok.2.1 (Ts := ol_tb) ok.2.2.2.1 g4 ty0 g7 g8 ok.2.2.1 ok.2.2.2.2.1 hW.2.2.1 (ol_ws_D K _) (ol_S_self hS) a hws g1 j g3 (ok.2.2.2.1 _ g5) (fun z hz => by rw [← g6]; exact hz) g9 (ok.2.2.2.2.2.2.2.1 hini) (g6.trans hown) (g7 j g3) hn hfit (by rw [List.length_map]; exact e2) hd fun H1 locs1 hP1 _ hS1 => ?_
  refine kk H1 locs1 (hW.put e1 hv hS1.1 ?_) (ol_S_trans hS hS1)
  rw [ol_E_obj g2, List.map_set]
  exact hP1
theorem ol_put_B {h h' : ol_H} {ci a j : Nat} {v : ol_V} (e : ol_put h ci a j v = some h') (hb : ol_B x K h) : ol_B x K h' := by
  obtain ⟨ys, -, -, rfl⟩ := ol_put_inv e
  exact hb.set
theorem ol_ast_B {h h' : ol_H} {k a : Nat} {i : Int} {v : ol_V} (e : ol_ast h k a i v = some h') (hb : ol_B x K h) : ol_B x K h' := by
  obtain ⟨ys, -, -, -, rfl⟩ := ol_ast_inv e
  exact hb.set
theorem ol_put_2 {h h' : ol_H} {ci a j : Nat} {v : ol_V} (e : ol_put h ci a j v = some h') : h'.2 = h.2 := by
  obtain ⟨ys, -, -, rfl⟩ := ol_put_inv e
  rfl
theorem ol_ast_2 {h h' : ol_H} {k a : Nat} {i : Int} {v : ol_V} (e : ol_ast h k a i v = some h') : h'.2 = h.2 := by
  obtain ⟨ys, -, -, -, rfl⟩ := ol_ast_inv e
  rfl
theorem rs_pf {ci j index : Nat} {C : String} {T : u_T} {N : Nat} {ty0 : Nat → FieldType} {r : ol_RE} {e : ol_IE} (hr : IM_R x K M 0 p1 p2 r) (he : IM_I x K M 1 p2 p e) (hg : ol_pf M.2.1 index ci j C T N ty0 false) (hty : ty0 j = .int) (hd : decode M.1 p = .ok (.putfield index, 3)) : IM_S x K M p1 (p + 3) (es_pf ci j r e) := by
  intro ok L h c L' h' hf kn kr
  simp only [es_pf, Option.bind_eq_some_iff] at hf
  obtain ⟨⟨a, h1⟩, e1, ⟨n, h2⟩, e2, h3, e3, e4⟩ := hf
  cases e4
  refine hr ok L h [] a _ (Nat.le_refl _) e1 ?_
  refine he ok L h1 _ n _ (ol_cs1 rfl (Nat.le_refl _)) e2 fun hn => ?_
  intro hb H locs ls hW hS hL
  exact ol_putf (v := .inl n) hg hd ok hn (by rw [hty]; rfl) (by rw [hty]; rfl) e3 hW hS fun H1 locs1 hW1 hS1 => by
    have := kn rfl (ol_put_B e3 hb) H1 locs1 ls hW1 hS1 hL
    rw [ol_put_2 e3] at this
    exact this
theorem ol_z01 {n : Int} (h : n = 0 ∨ n = 1) : ol_inR n ∧ narrow .boolean (.int (Int32.ofInt n)) = .int (Int32.ofInt n) ∧ fits .boolean (.int (Int32.ofInt n)) = true ∧ vp_nar .boolean (Int32.ofInt n) = Int32.ofInt n := by
  rcases h with rfl | rfl
  · exact ⟨by unfold ol_inR; omega, by decide, by decide, by decide⟩
  · exact ⟨by unfold ol_inR; omega, by decide, by decide, by decide⟩
theorem rs_pz {ci j index : Nat} {C : String} {T : u_T} {N : Nat} {ty0 : Nat → FieldType} {r : ol_RE} {e : ol_IE} (hr : IM_R x K M 0 p1 p2 r) (he : IM_I x K M 1 p2 p e) (hg : ol_pf M.2.1 index ci j C T N ty0 false) (hty : ty0 j = .boolean) (hd : decode M.1 p = .ok (.putfield index, 3)) : IM_S x K M p1 (p + 3) (es_pz ci j r e) := by
  intro ok L h c L' h' hf kn kr
  simp only [es_pz, Option.bind_eq_some_iff] at hf
  obtain ⟨⟨a, h1⟩, e1, ⟨n, h2⟩, e2, e3⟩ := hf
  dsimp only at e3
  split at e3
  · rename_i h01
    simp only [Option.bind_eq_some_iff] at e3
    obtain ⟨h3, e3, e4⟩ := e3
    cases e4
    refine hr ok L h [] a _ (Nat.le_refl _) e1 ?_
    refine he ok L h1 _ n _ (ol_cs1 rfl (Nat.le_refl _)) e2 fun hn => ?_
    intro hb H locs ls hW hS hL
    exact ol_putf (v := .inl n) hg hd ok hn (by rw [hty]; exact (ol_z01 h01).2.1) (by rw [hty]; exact (ol_z01 h01).2.2.1) e3 hW hS fun H1 locs1 hW1 hS1 => by
      have := kn rfl (ol_put_B e3 hb) H1 locs1 ls hW1 hS1 hL
      rw [ol_put_2 e3] at this
      exact this
  · cases e3
theorem rs_pr {ci j index : Nat} {C : String} {T : u_T} {N : Nat} {ty0 : Nat → FieldType} {r e : ol_RE} (hr : IM_R x K M 0 p1 p2 r) (he : IM_R x K M 1 p2 p e) (hg : ol_pf M.2.1 index ci j C T N ty0 true) (hown : C = M.2.1) (hini : M.2.2.1 = "<init>") (hty : (∃ c, ty0 j = .object c) ∨ ∃ t, ty0 j = .array t) (hd : decode M.1 p = .ok (.putfield index, 3)) : IM_S x K M p1 (p + 3) (es_pr ci j r e) := by
  intro ok L h c L' h' hf kn kr
  simp only [es_pr, Option.bind_eq_some_iff] at hf
  obtain ⟨⟨a, h1⟩, e1, ⟨n, h2⟩, e2, h3, e3, e4⟩ := hf
  cases e4
  refine hr ok L h [] a _ (Nat.le_refl _) e1 ?_
  refine he ok L h1 _ n _ (ol_cs1 rfl (Nat.le_refl _)) e2 ?_
  intro hb H locs ls hW hS hL
  exact ol_putF (v := .inr (.inl (some n))) hg hown hini hd ok trivial (by rcases hty with ⟨c, hty⟩ | ⟨c, hty⟩ <;> rw [hty] <;> rfl) (by rcases hty with ⟨c, hty⟩ | ⟨c, hty⟩ <;> rw [hty] <;> rfl) e3 hW hS fun H1 locs1 hW1 hS1 => by
    have := kn rfl (ol_put_B e3 hb) H1 locs1 ls hW1 hS1 hL
    rw [ol_put_2 e3] at this
    exact this
/-! arrays -/
theorem ol_gi_set {ys : List ol_V} {i : Nat} {n : Int} (hi : i < ys.length) : (fun j => Int32.ofInt (ol_gi (ys.set i (.inl n)) j)) = upd (fun j => Int32.ofInt (ol_gi ys j)) i (Int32.ofInt n) := by
  funext j
  by_cases h : j = i
  · subst h
    simp [upd, ol_gi, hi, ol_int]
  · have h2 : ¬ i = j := fun e => h e.symm
    simp [upd, ol_gi, h, h2, List.getElem?_set]
theorem ol_gr_set {K : ol_K} {ys : List ol_V} {i : Nat} {n : Nat} (hi : i < ys.length) : (fun j => (ol_gr (ys.set i (.inr (.inl (some n)))) j).map (ol_ad K)) = va_up (fun j => (ol_gr ys j).map (ol_ad K)) i (some (ol_ad K n)) := by
  funext j
  by_cases h : j = i
  · subst h
    simp [va_up, ol_gr, hi, ol_ref]
  · have h2 : ¬ i = j := fun e => h e.symm
    simp [va_up, ol_gr, h, h2, List.getElem?_set]
theorem ol_astI (hd : decode M.1 p = .ok (.iastore, 1)) (ok : ol_Ok x K M) {h h' : ol_H} {a : Nat} {i n : Int} (hi : ol_inR i) (hn : ol_inR n) (e : ol_ast h 100 a i (.inl n) = some h') {H : Heap} {locs : List Loc} {ls : Array Slot} {cells slots : Nat} {rest : List Value} (hW : ol_Wd K h H) (hS : va_S (ol_A K) (xs x).heap H locs)
    (kk : ∀ (H1 : Heap) (locs1 : List Loc), ol_Wd K h' H1 → va_S (ol_A K) (xs x).heap H1 locs1 → ol_W x H1 locs1 cells slots (F0 (xm x) (p + 1) ls rest)) : ol_W x H locs cells slots (F0 (xm x) p ls (.int (Int32.ofInt n) :: .int (Int32.ofInt i) :: .ref (ol_ad K a) :: rest)) := by
  obtain ⟨ys, e1, e2, e3, rfl⟩ := ol_ast_inv e
  have hws := ol_ws_get (K := K) e1
  rw [ol_E_int (Or.inl rfl)] at hws
  rw [ol_ad_in hW.2.1 e1]
  refine va_iast (A := ol_A K) (H0 := H) ok.1 ok.2.1 ok.2.2.2.2.1 hW.2.2.1 (ol_ws_D K _) (ol_S_self hS) a 0 hws rfl (ol_vin hi e2 e3) hd fun H1 locs1 hP1 _ hS1 => ?_
  refine kk H1 locs1 (hW.put e1 (v := .inl n) hn hS1.1 ?_) (ol_S_trans hS hS1)
  rw [ol_E_int (Or.inl rfl), List.length_set, ol_gi_set e3, ← ol_nat32 hi e2]
  exact hP1
theorem ol_astB (hd : decode M.1 p = .ok (.bastore, 1)) (ok : ol_Ok x K M) {h h' : ol_H} {a : Nat} {i n : Int} (hi : ol_inR i) (e : ol_ast h 101 a i (.inl (ol_nb n)) = some h') {H : Heap} {locs : List Loc} {ls : Array Slot} {cells slots : Nat} {rest : List Value} (hW : ol_Wd K h H) (hS : va_S (ol_A K) (xs x).heap H locs)
    (kk : ∀ (H1 : Heap) (locs1 : List Loc), ol_Wd K h' H1 → va_S (ol_A K) (xs x).heap H1 locs1 → ol_W x H1 locs1 cells slots (F0 (xm x) (p + 1) ls rest)) : ol_W x H locs cells slots (F0 (xm x) p ls (.int (Int32.ofInt n) :: .int (Int32.ofInt i) :: .ref (ol_ad K a) :: rest)) := by
  obtain ⟨ys, e1, e2, e3, rfl⟩ := ol_ast_inv e
  have hws := ol_ws_get (K := K) e1
  rw [ol_E_int (Or.inr (Or.inl rfl))] at hws
  rw [ol_ad_in hW.2.1 e1]
  refine va_bast (A := ol_A K) (H0 := H) ok.1 ok.2.1 ok.2.2.2.2.1 hW.2.2.1 (ol_ws_D K _) (ol_S_self hS) a 1 hws rfl (ol_vin hi e2 e3) hd fun H1 locs1 hP1 _ hS1 => ?_
  refine kk H1 locs1 (hW.put e1 (v := .inl (ol_nb n)) (ol_in32 _) hS1.1 ?_) (ol_S_trans hS hS1)
  rw [ol_E_int (Or.inr (Or.inl rfl)), List.length_set, ol_gi_set e3, ← ol_nat32 hi e2, show Int32.ofInt (ol_nb n) = vp_nar .byte (Int32.ofInt n) from Int32.ofInt_toInt _]
  exact hP1
theorem ol_astZ (hd : decode M.1 p = .ok (.bastore, 1)) (ok : ol_Ok x K M) {h h' : ol_H} {a : Nat} {i n : Int} (hi : ol_inR i) (h01 : n = 0 ∨ n = 1) (e : ol_ast h 102 a i (.inl n) = some h') {H : Heap} {locs : List Loc} {ls : Array Slot} {cells slots : Nat} {rest : List Value} (hW : ol_Wd K h H) (hS : va_S (ol_A K) (xs x).heap H locs)
    (kk : ∀ (H1 : Heap) (locs1 : List Loc), ol_Wd K h' H1 → va_S (ol_A K) (xs x).heap H1 locs1 → ol_W x H1 locs1 cells slots (F0 (xm x) (p + 1) ls rest)) : ol_W x H locs cells slots (F0 (xm x) p ls (.int (Int32.ofInt n) :: .int (Int32.ofInt i) :: .ref (ol_ad K a) :: rest)) := by
  obtain ⟨ys, e1, e2, e3, rfl⟩ := ol_ast_inv e
  have hws := ol_ws_get (K := K) e1
  rw [ol_E_int (Or.inr (Or.inr rfl))] at hws
  rw [ol_ad_in hW.2.1 e1]
  refine va_zast (A := ol_A K) (H0 := H) ok.1 ok.2.1 ok.2.2.2.2.1 hW.2.2.1 (ol_ws_D K _) (ol_S_self hS) a 2 hws rfl (ol_vin hi e2 e3) hd fun H1 locs1 hP1 _ hS1 => ?_
  refine kk H1 locs1 (hW.put e1 (v := .inl n) (ol_z01 h01).1 hS1.1 ?_) (ol_S_trans hS hS1)
  rw [ol_E_int (Or.inr (Or.inr rfl)), List.length_set, ol_gi_set e3, ← ol_nat32 hi e2, ← (ol_z01 h01).2.2.2]
  exact hP1
theorem rs_as {r : ol_RE} {i e : ol_IE} (hr : IM_R x K M 0 p1 p2 r) (hi : IM_I x K M 1 p2 p3 i) (he : IM_I x K M 2 p3 p e) (hd : decode M.1 p = .ok (.iastore, 1)) : IM_S x K M p1 (p + 1) (es_as 100 r i e) := by
  intro ok L h c L' h' hf kn kr
  simp only [es_as, Option.bind_eq_some_iff] at hf
  obtain ⟨⟨a, h1⟩, e1, ⟨j, h2⟩, e2, ⟨n, h3⟩, e3, h4, e4, e5⟩ := hf
  cases e5
  refine hr ok L h [] a _ (Nat.le_refl _) e1 ?_
  refine hi ok L h1 _ j _ (ol_cs1 rfl (Nat.le_refl _)) e2 fun hj => ?_
  refine he ok L h2 _ n _ (ol_cs1 rfl (ol_cs1 rfl (Nat.le_refl _))) e3 fun hn => ?_
  intro hb H locs ls hW hS hL
  exact ol_astI hd ok hj hn e4 hW hS fun H1 locs1 hW1 hS1 => by
    have := kn rfl (ol_ast_B e4 hb) H1 locs1 ls hW1 hS1 hL
    rw [ol_ast_2 e4] at this
    exact this
theorem rs_bs {r : ol_RE} {i e : ol_IE} (hr : IM_R x K M 0 p1 p2 r) (hi : IM_I x K M 1 p2 p3 i) (he : IM_I x K M 2 p3 p e) (hd : decode M.1 p = .ok (.bastore, 1)) : IM_S x K M p1 (p + 1) (es_bs 101 r i e) := by
  intro ok L h c L' h' hf kn kr
  simp only [es_bs, Option.bind_eq_some_iff] at hf
  obtain ⟨⟨a, h1⟩, e1, ⟨j, h2⟩, e2, ⟨n, h3⟩, e3, h4, e4, e5⟩ := hf
  cases e5
  refine hr ok L h [] a _ (Nat.le_refl _) e1 ?_
  refine hi ok L h1 _ j _ (ol_cs1 rfl (Nat.le_refl _)) e2 fun hj => ?_
  refine he ok L h2 _ n _ (ol_cs1 rfl (ol_cs1 rfl (Nat.le_refl _))) e3 fun hn => ?_
  intro hb H locs ls hW hS hL
  exact ol_astB hd ok hj e4 hW hS fun H1 locs1 hW1 hS1 => by
    have := kn rfl (ol_ast_B e4 hb) H1 locs1 ls hW1 hS1 hL
    rw [ol_ast_2 e4] at this
    exact this
theorem rs_zs {r : ol_RE} {i e : ol_IE} (hr : IM_R x K M 0 p1 p2 r) (hi : IM_I x K M 1 p2 p3 i) (he : IM_I x K M 2 p3 p e) (hd : decode M.1 p = .ok (.bastore, 1)) : IM_S x K M p1 (p + 1) (es_zs 102 r i e) := by
  intro ok L h c L' h' hf kn kr
  simp only [es_zs, Option.bind_eq_some_iff] at hf
  obtain ⟨⟨a, h1⟩, e1, ⟨j, h2⟩, e2, ⟨n, h3⟩, e3, e4⟩ := hf
  dsimp only at e4
  split at e4
  · rename_i h01
    simp only [Option.bind_eq_some_iff] at e4
    obtain ⟨h4, e4, e5⟩ := e4
    cases e5
    refine hr ok L h [] a _ (Nat.le_refl _) e1 ?_
    refine hi ok L h1 _ j _ (ol_cs1 rfl (Nat.le_refl _)) e2 fun hj => ?_
    refine he ok L h2 _ n _ (ol_cs1 rfl (ol_cs1 rfl (Nat.le_refl _))) e3 fun hn => ?_
    intro hb H locs ls hW hS hL
    exact ol_astZ hd ok hj h01 e4 hW hS fun H1 locs1 hW1 hS1 => by
      have := kn rfl (ol_ast_B e4 hb) H1 locs1 ls hW1 hS1 hL
      rw [ol_ast_2 e4] at this
      exact this
  · cases e4
theorem ol_isC_inv {h : ol_H} {a ci : Nat} (e : ol_isC h a ci = true) : ∃ ys, h.1[a]? = some (ci, ys) := by
  unfold ol_isC at e
  split at e
  · rename_i c hc
    obtain ⟨k, ys⟩ := c
    have := of_decide_eq_true e
    dsimp only at this
    subst this
    exact ⟨ys, hc⟩
  · cases e
theorem rs_rs {k ci t : Nat} {q : vw_C} {r : ol_RE} {i : ol_IE} {e : ol_RE} (hr : IM_R x K M 0 p1 p2 r) (hi : IM_I x K M 1 p2 p3 i) (he : IM_R x K M 2 p3 p e) (hk : 103 ≤ k) (hci : ci < 100) (hc : vwCl[ci]? = some q) (ht : (ol_tys K)[t]? = some (K.2.2.1 k, .object q.1)) (hd : decode M.1 p = .ok (.aastore, 1)) : IM_S x K M p1 (p + 1) (es_rs k ci r i e) := by
  intro ok L h c L' h' hf kn kr
  simp only [es_rs, Option.bind_eq_some_iff] at hf
  obtain ⟨⟨a, h1⟩, e1, ⟨j, h2⟩, e2, ⟨n, h3⟩, e3, e4⟩ := hf
  dsimp only at e4
  split at e4
  · rename_i hC
    simp only [Option.bind_eq_some_iff] at e4
    obtain ⟨h4, e4, e5⟩ := e4
    cases e5
    refine hr ok L h [] a _ (Nat.le_refl _) e1 ?_
    refine hi ok L h1 _ j _ (ol_cs1 rfl (Nat.le_refl _)) e2 fun hj => ?_
    refine he ok L h2 _ n _ (ol_cs1 rfl (ol_cs1 rfl (Nat.le_refl _))) e3 ?_
    intro hb H locs ls hW hS hL
    obtain ⟨zs, hz⟩ := ol_isC_inv hC
    obtain ⟨ys, q1, q2, q3, rfl⟩ := ol_ast_inv e4
    have hws := ol_ws_get (K := K) q1
    rw [ol_E_ref hk] at hws
    have hwz := ol_ws_get (K := K) hz
    rw [ol_E_obj hci] at hwz
    rw [ol_ad_in hW.2.1 q1, ol_ad_in hW.2.1 hz]
    refine va_astq (A := ol_A K) (H0 := H) ok.1 ok.2.1 ok.2.2.2.2.1 hW.2.2.1 (ol_ws_D K _) (ol_S_self hS) a t n ci hws ht hwz hc (ol_vin hj q2 q3) hd fun H1 locs1 hP1 _ hS1 => ?_
    refine kn rfl hb.set H1 locs1 ls (hW.put q1 (v := .inr (.inl (some n))) trivial hS1.1 ?_) (ol_S_trans hS hS1) hL
    rw [ol_E_ref hk, List.length_set, ol_gr_set q3, ← ol_nat32 hj q2, ol_ad_in hW.2.1 hz]
    exact hP1
  · cases e4
/-! a field, an element that becomes more -/
theorem rs_uf {ci j index index2 : Nat} {C : String} {T : u_T} {N : Nat} {ty0 : Nat → FieldType} {ins : Instr} {f : Int → Int → Option Int} {r : ol_RE} {e : ol_IE} (hop : ol_op2 ins f) (hr : IM_R x K M 0 p1 p2 r) (hd1 : decode M.1 p2 = .ok (.dup, 1)) (hd2 : decode M.1 (p2 + 1) = .ok (.getfield index, 3)) (he : IM_I x K M 2 (p2 + 4) p e) (hd3 : decode M.1 p = .ok (ins, 1)) (hg0 : ol_gf M.2.1 index ci j C T N) (hg : ol_pf M.2.1 index2 ci j C T N ty0 false) (hty : ty0 j = .int) (hd4 : decode M.1 (p + 1) = .ok (.putfield index2, 3)) : IM_S x K M p1 (p + 4) (es_uf ci j r f e) := by
  intro ok L h c L' h' hf kn kr
  simp only [es_uf, Option.bind_eq_some_iff] at hf
  obtain ⟨⟨a, h1⟩, e1, v, e2, ⟨n, h2⟩, e3, m, e4, h3, e5, e6⟩ := hf
  cases e6
  refine hr ok L h [] a _ (Nat.le_refl _) e1 ?_
  intro hb H locs ls hW hS hL
  refine lv_dup ok.1 ok.2.1 hd1 rfl ?_
  refine ol_getf hg0 hd2 ok (ol_int_inv e2) hW (fun hv => ?_)
  have hv := hv _ rfl
  refine he ok L h1 _ n _ (ol_cs1 rfl (ol_cs1 rfl (Nat.le_refl _))) e3 (fun hn => ?_) hb H locs ls hW hS hL
  intro hb H locs ls hW hS hL
  refine hop _ _ _ _ _ _ _ _ _ _ _ _ _ _ _ _ _ _ _ _ _ _ ok.1 ok.2.1 hd3 hv hn e4 (fun hm => ?_)
  exact ol_putf (v := .inl m) hg hd4 ok hm (by rw [hty]; rfl) (by rw [hty]; rfl) e5 hW hS fun H1 locs1 hW1 hS1 => by
    have := kn rfl (ol_put_B e5 hb) H1 locs1 ls hW1 hS1 hL
    rw [ol_put_2 e5] at this
    exact this
theorem rs_ua {ins : Instr} {f : Int → Int → Option Int} {r : ol_RE} {i e : ol_IE} (hop : ol_op2 ins f) (hr : IM_R x K M 0 p1 p2 r) (hi : IM_I x K M 1 p2 p3 i) (hd1 : decode M.1 p3 = .ok (.dup2, 1)) (hd2 : decode M.1 (p3 + 1) = .ok (.iaload, 1)) (he : IM_I x K M 3 (p3 + 2) p e) (hd3 : decode M.1 p = .ok (ins, 1)) (hd4 : decode M.1 (p + 1) = .ok (.iastore, 1)) : IM_S x K M p1 (p + 2) (es_ua 100 r i f e) := by
  intro ok L h c L' h' hf kn kr
  simp only [es_ua, Option.bind_eq_some_iff] at hf
  obtain ⟨⟨a, h1⟩, e1, ⟨j, h2⟩, e2, v, e3, ⟨n, h3⟩, e4, m, e5, h4, e6, e7⟩ := hf
  cases e7
  refine hr ok L h [] a _ (Nat.le_refl _) e1 ?_
  refine hi ok L h1 _ j _ (ol_cs1 rfl (Nat.le_refl _)) e2 fun hj => ?_
  intro hb H locs ls hW hS hL
  refine lv_dup2_11 ok.1 ok.2.1 hd1 rfl rfl ?_
  obtain ⟨ys, q1, q2, q3⟩ := ol_arr_inv (ol_int_inv e3)
  have hws := ol_ws_get (K := K) q1
  rw [ol_E_int (Or.inl rfl)] at hws
  rw [ol_ad_in hW.2.1 q1]
  refine va_iald ok.1 ok.2.1 ok.2.2.2.2.1 hW.2.2.1 a 0 hws rfl (ol_vin hj q2 (List.getElem?_eq_some_iff.mp q3).1) hd2 ?_
  rw [ol_nat32 hj q2, ol_gi_of q3, ← ol_ad_in hW.2.1 q1]
  have hv : ol_inR v := hW.2.2.2.get q1 q3
  refine he ok L h2 _ n _ (ol_cs1 rfl (ol_cs1 rfl (ol_cs1 rfl (Nat.le_refl _)))) e4 (fun hn => ?_) hb H locs ls hW hS hL
  intro hb H locs ls hW hS hL
  refine hop _ _ _ _ _ _ _ _ _ _ _ _ _ _ _ _ _ _ _ _ _ _ ok.1 ok.2.1 hd3 hv hn e5 (fun hm => ?_)
  exact ol_astI hd4 ok hj hm e6 hW hS fun H1 locs1 hW1 hS1 => by
    have := kn rfl (ol_ast_B e6 hb) H1 locs1 ls hW1 hS1 hL
    rw [ol_ast_2 e6] at this
    exact this
end OLH
