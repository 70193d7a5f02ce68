/-! THE CLAIM OUT OF ONE WALK OF THE LAW'S BODY. Your part is whole_start (and what it stands on); all else here is the same for every law, but numbers. -/
def R_law : String := "OilLaneLaw"
def lw_P (b : Addr) (xs : List Int32) (args : Array Value) (s : State) : Prop := args = #[.ref b] ∧ s.IntsAt b xs ∧ xs.length ≤ 384 ∧ (Jvm.Cond.and given_1 narrow_1).before args s = true
def lw_Q (_ : Array Value) (s : State) (o : Outcome) (t : State) : Prop := o = .returned (some (.int 1)) ∧ Framed s o t [] 600000 7302250
def lw_Z (below : List Frame) (a : Array Value) (s : State) : State → Prop := fun t => ∃ o, t.status = .running ∧ Ended t below o ∧ lw_Q a s o t
/-- the law's own end, with 1 on the stack, nothing written that was there before, its room as the claim has it -/
theorem lw_ret {p : Program} {l : Launch} {e : Env} {s : State} {m : MethodId} {below : List Frame} {meth : Method} {c : Code} {b : Nat} (hx : p.tables.exec = Jvm.exec) (hb : c.code = code) (hr : meth.sig.returnType = ret) (hlocks : meth.locks = false) {pc : Nat} {H : Heap} {ls : Array Slot} (hdg : decode code pc = .ok (.ireturn, 1)) : W p l e room_1 s m #[Value.ref b] below meth c H [] 600000 7302250 (lw_Z below #[Value.ref b] s) (F0 m pc ls [.int 1]) := by
  intro T hT X
  obtain ⟨fs, hret, hrun, hended, hW, hframe⟩ := X.leave (v := some (.int 1)) (hlocks := hlocks) (fun h => by rw [hr] at h; cases h)
  have hmeth' : T.vm.method? m = some meth := X.method'
  refine ⟨T.setFrames fs, ?_, .returned (some (.int 1)), hrun, hended, rfl, ⟨_, rfl⟩, hW, hframe⟩
  jvm_step X.here [X.here.top, hx, hb, hdg, hmeth', hr, ret, narrow_b1]
  (try refine ⟨rfl, ?_⟩); (try refine ⟨rfl, ?_⟩)
  first | (intro acts; rw [hret _ acts rfl rfl rfl]) | rw [hret _ _ rfl rfl rfl]
  exact Steps.refl _
/-- what holds at the law's entry: the machine, the code, the tables' words (any of lw_tbl by 'hts w (by decide +kernel)'), the script of L ints xs at the cell b, what the Statement gives of the start (any of its parts by flat_of_before) -/
def lw_At (p : Program) (s : State) (m : MethodId) (meth : Method) (c : Code) (b L : Nat) (xs : Nat → Int32) : Prop :=
  p.tables.exec = Jvm.exec ∧ c.code = code ∧ meth.sig.returnType = ret ∧ c.maxLocals = 4 ∧ s.vm.findClass R_law = some m.cls ∧ (∀ w ∈ lw_tbl, w.before #[Value.ref b] s = true) ∧ va_X b L xs s s.heap ∧ b < s.heap.size ∧ meth.locks = false ∧ (Jvm.Cond.and given_1 narrow_1).before #[Value.ref b] s = true
theorem st_tab {s : State} {args : Array Value} {A : Nat → Prop} {n : String} {N : Nat} {f : Nat → Int} (hN : N < 2 ^ 31) (hl : (Cond.laysStatic "OilLane" n "[I").before args s = true) (hini : (Cond.initialized "OilLane").before args s = true) (harr : (Cond.arrayOf (.static "OilLane" n "[I") .int).before args s = true) (hlen : (Cond.eq (.length (.static "OilLane" n "[I")) (.int (Int32.ofNat N))).before args s = true) (hel : ∀ j, j < N → (Cond.eq (.elem (.static "OilLane" n "[I") (.int (Int32.ofNat j))) (.int (Int32.ofInt (f j)))).before args s = true) (hA : ∀ a : Nat, a < s.heap.size → ¬ A a) : ∃ t : Nat, va_Z "OilLane" n "[I" (.ref t) A s s.heap ∧ va_T .int t N (fun j => .int (Int32.ofInt (f j))) A s s.heap := by
  obtain ⟨t, h1, h2⟩ := va_Tof (f := fun j => .int (Int32.ofInt (f j))) hN harr (va_eqt hlen) (fun j hj => va_eqt (hel j hj)) hA
  exact ⟨t, va_Zof hl hini h1 hA, h2⟩
theorem st_arr {s : State} {args : Array Value} {ty : FieldType} (h : (Cond.arrayClass ty).before args s = true) (hra : ∀ U cA, va_RA U cA ty = (U.vm.findClass ("[" ++ ty.toString) = some cA)) : ∃ cA, ArrOfT s cA ty ∧ va_RA s cA ty := by
  obtain ⟨cA, kA, comp, h1, h2, h3⟩ := Cond.arrayClass_spec h
  exact ⟨cA, fun n z => ⟨fun k h => (by cases h), kA, h2, comp, h3⟩, by rw [hra]; exact h1⟩
theorem st_arq {s : State} {args : Array Value} {C : String} (h : (Cond.arrayOver (.object C)).before args s = true) : ∃ cA, ArrOfT s cA (.object C) ∧ va_RA s cA (.object C) := by
  obtain ⟨comp, c, k, h1, h2, h3, h4, h5⟩ := Cond.arrayOver_spec h
  exact ⟨c, fun n z => ⟨fun k h => (by cases h), k, h3, comp, h4⟩, k, comp, h3, h4, h1, h5⟩
theorem st_fmt {s : State} {A : Nat → Prop} {C n d : String} (h : va_Zq C n d A s s.heap) : ∃ t : Nat, va_Z C n d .null A s s.heap ∨ va_Z C n d (.ref t) A s s.heap := by
  rcases h with h | ⟨t, h⟩
  · exact ⟨0, Or.inl h⟩
  · exact ⟨t, Or.inr h⟩
theorem st_7 {α : Type} (a0 a1 a2 a3 a4 a5 a6 : α) (P : Nat → α → Prop) (h0 : P 0 a0) (h1 : P 1 a1) (h2 : P 2 a2) (h3 : P 3 a3) (h4 : P 4 a4) (h5 : P 5 a5) (h6 : P 6 a6) : ∃ f : Nat → α, ∀ k, k < 7 → P k (f (100 + k)) := by
  refine ⟨fun k => if k = 100 then a0 else if k = 101 then a1 else if k = 102 then a2 else if k = 103 then a3 else if k = 104 then a4 else if k = 105 then a5 else a6, fun k hk => ?_⟩
  rcases (show k = 0 ∨ k = 1 ∨ k = 2 ∨ k = 3 ∨ k = 4 ∨ k = 5 ∨ k = 6 by omega) with rfl | rfl | rfl | rfl | rfl | rfl | rfl
  · exact h0
  · exact h1
  · exact h2
  · exact h3
  · exact h4
  · exact h5
  · exact h6
set_option maxRecDepth 20000 in
theorem st_kls {s : State} {args : Array Value} (hts : ∀ w ∈ ol_tb, w.before args s = true) : ∃ (dC : Nat → ClassId) (dI : Nat → Nat → Nat), ∀ (k : Nat) (q : vw_C), vwCl[k]? = some q → u_Kn s q.1 q.2.1 q.2.2 (dC k) (dI k) := by
  obtain ⟨c0, i0, h0⟩ := u_known (C := RX0) (T := TX0) (N := 2) (n := 2) hts inX0 (hts _ tw_329)
  obtain ⟨c1, i1, h1⟩ := u_known (C := RX1) (T := TX1) (N := 8) (n := 8) hts inX1 (hts _ tw_201)
  obtain ⟨c2, i2, h2⟩ := u_known (C := RX2) (T := TX2) (N := 3) (n := 3) hts inX2 (hts _ tw_133)
  obtain ⟨c3, i3, h3⟩ := u_known (C := RX3) (T := TX3) (N := 6) (n := 6) hts inX3 (hts _ tw_260)
  obtain ⟨c4, i4, h4⟩ := u_known (C := RX4) (T := TX4) (N := 1) (n := 1) hts inX4 (hts _ tw_139)
  obtain ⟨c5, i5, h5⟩ := u_known (C := RX5) (T := TX5) (N := 3) (n := 3) hts inX5 (hts _ tw_86)
  obtain ⟨c6, i6, h6⟩ := u_known (C := RX6) (T := TX6) (N := 3) (n := 3) hts inX6 (hts _ tw_207)
  obtain ⟨c7, i7, h7⟩ := u_known (C := RX7) (T := TX7) (N := 7) (n := 7) hts inX7 (hts _ tw_80)
  obtain ⟨c8, i8, h8⟩ := u_known (C := RX8) (T := TX8) (N := 8) (n := 8) hts inX8 (hts _ tw_290)
  obtain ⟨c9, i9, h9⟩ := u_known (C := RX9) (T := TX9) (N := 6) (n := 6) hts inX9 (hts _ tw_152)
  obtain ⟨c10, i10, h10⟩ := u_known (C := RX10) (T := TX10) (N := 18) (n := 18) hts inX10 (hts _ tw_72)
  obtain ⟨c11, i11, h11⟩ := u_known (C := RX11) (T := TX11) (N := 42) (n := 42) hts inX11 (hts _ tw_844)
  refine ⟨fun k => ([c0, c1, c2, c3, c4, c5, c6, c7, c8, c9, c10, c11] : List ClassId).getD k c0, fun k => ([i0, i1, i2, i3, i4, i5, i6, i7, i8, i9, i10, i11] : List (Nat → Nat)).getD k i0, ?_⟩
  intro k q hq
  match k, hq with
  | 0, hq => cases hq; exact h0
  | 1, hq => cases hq; exact h1
  | 2, hq => cases hq; exact h2
  | 3, hq => cases hq; exact h3
  | 4, hq => cases hq; exact h4
  | 5, hq => cases hq; exact h5
  | 6, hq => cases hq; exact h6
  | 7, hq => cases hq; exact h7
  | 8, hq => cases hq; exact h8
  | 9, hq => cases hq; exact h9
  | 10, hq => cases hq; exact h10
  | 11, hq => cases hq; exact h11
  | k + 12, hq => simp [vwCl] at hq
set_option maxRecDepth 20000 in
set_option maxHeartbeats 2000000 in
theorem st_ext {s : State} {args : Array Value} (hts : ∀ w ∈ lw_tbl, w.before args s = true) (hgv : (Jvm.Cond.and given_1 narrow_1).before args s = true) (b : Nat) (A : Nat → Prop) (hA : ∀ a : Nat, a < s.heap.size → ¬ A a) : ∃ ext : Nat → Nat, ext 8 = b ∧ (∀ t, t < 3 → va_Z "OilLane" (ol_tabf t) "[I" (.ref (ext t)) A s s.heap ∧ va_T .int (ext t) (ol_tabn t) (fun j => .int (Int32.ofInt (ol_tab t j))) A s s.heap) ∧ vk_S 2 [3, 5] [[108, 97, 121], [115, 116, 114, 105, 112]] (fun i => ext (3 + i)) (fun i => ext (5 + i)) A s s.heap ∧ va_Z "java/lang/String" "COMPACT_STRINGS" "Z" (.int 1) A s s.heap ∧ (va_Z "jdk/internal/util/Preconditions" "SIOOBE_FORMATTER" "Ljava/util/function/BiFunction;" .null A s s.heap ∨ va_Z "jdk/internal/util/Preconditions" "SIOOBE_FORMATTER" "Ljava/util/function/BiFunction;" (.ref (ext 7)) A s s.heap) ∧ ol_s1 s (ext 3) (ext 4) := by
  have hs := flat_of_before _ hgv
  obtain ⟨t0, z0, y0⟩ := st_tab (n := "PIN_PLACE") (N := 10) (f := ol_tab 0) (by decide) (hts _ (List.mem_of_getElem? (i := 596) (by decide +kernel))) (hts _ (List.mem_of_getElem? (i := 52) (by decide +kernel))) (hs _ (by decide +kernel)) (hs _ (by decide +kernel)) (fun j hj => by
    have hall : ∀ j, j < 10 → (Cond.eq (.elem (.static "OilLane" "PIN_PLACE" "[I") (.int (Int32.ofNat j))) (.int (Int32.ofInt (ol_tab 0 j)))) ∈ flatC (Jvm.Cond.and given_1 narrow_1) := by decide +kernel
    exact hs _ (hall j hj)) hA
  obtain ⟨t1, z1, y1⟩ := st_tab (n := "KIND_ABOVE") (N := 6) (f := ol_tab 1) (by decide) (hts _ (List.mem_of_getElem? (i := 822) (by decide +kernel))) (hts _ (List.mem_of_getElem? (i := 52) (by decide +kernel))) (hs _ (by decide +kernel)) (hs _ (by decide +kernel)) (fun j hj => by
    have hall : ∀ j, j < 6 → (Cond.eq (.elem (.static "OilLane" "KIND_ABOVE" "[I") (.int (Int32.ofNat j))) (.int (Int32.ofInt (ol_tab 1 j)))) ∈ flatC (Jvm.Cond.and given_1 narrow_1) := by decide +kernel
    exact hs _ (hall j hj)) hA
  obtain ⟨t2, z2, y2⟩ := st_tab (n := "KIND_MARK") (N := 6) (f := ol_tab 2) (by decide) (hts _ (List.mem_of_getElem? (i := 820) (by decide +kernel))) (hts _ (List.mem_of_getElem? (i := 52) (by decide +kernel))) (hs _ (by decide +kernel)) (hs _ (by decide +kernel)) (fun j hj => by
    have hall : ∀ j, j < 6 → (Cond.eq (.elem (.static "OilLane" "KIND_MARK" "[I") (.int (Int32.ofNat j))) (.int (Int32.ofInt (ol_tab 2 j)))) ∈ flatC (Jvm.Cond.and given_1 narrow_1) := by decide +kernel
    exact hs _ (hall j hj)) hA
  obtain ⟨adK, adV, hS, hE⟩ := vk_Sof (args := args) (s := s) (N := 2) (tm := fun i => if i = 0 then Term.string "OilLane$Reader" 73 else Term.string "OilLane$Reader" 79) (len := [3, 5]) (byt := [[108, 97, 121], [115, 116, 114, 105, 112]]) (A := A) (by decide)
    (fun i hi => hs _ ((show ∀ i, i < 2 → Cond.exactly (if i = 0 then Term.string "OilLane$Reader" 73 else Term.string "OilLane$Reader" 79) "java/lang/String" ∈ flatC (Jvm.Cond.and given_1 narrow_1) by decide +kernel) i hi))
    (fun i hi => hs _ ((show ∀ i, i < 2 → Cond.eq (.field (if i = 0 then Term.string "OilLane$Reader" 73 else Term.string "OilLane$Reader" 79) "java/lang/String" "coder" "B") (.int 0) ∈ flatC (Jvm.Cond.and given_1 narrow_1) by decide +kernel) i hi))
    (fun i hi => hs _ ((show ∀ i, i < 2 → Cond.arrayOf (.field (if i = 0 then Term.string "OilLane$Reader" 73 else Term.string "OilLane$Reader" 79) "java/lang/String" "value" "[B") .byte ∈ flatC (Jvm.Cond.and given_1 narrow_1) by decide +kernel) i hi))
    (fun i hi => hs _ ((show ∀ i, i < 2 → Cond.eq (.length (.field (if i = 0 then Term.string "OilLane$Reader" 73 else Term.string "OilLane$Reader" 79) "java/lang/String" "value" "[B")) (.int (Int32.ofNat (([3, 5] : List Nat).getD i 0))) ∈ flatC (Jvm.Cond.and given_1 narrow_1) by decide +kernel) i hi))
    (fun i hi j hj => hs _ ((show ∀ i, i < 2 → ∀ j, j < ([3, 5] : List Nat).getD i 0 → Cond.eq (.elem (.field (if i = 0 then Term.string "OilLane$Reader" 73 else Term.string "OilLane$Reader" 79) "java/lang/String" "value" "[B") (.int (Int32.ofNat j))) (.int ((([[108, 97, 121], [115, 116, 114, 105, 112]] : List (List Int32)).getD i []).getD j 0)) ∈ flatC (Jvm.Cond.and given_1 narrow_1) by decide +kernel) i hi j hj))
    (fun i j hi hj hij => by
      have hq := hs (Cond.not (Cond.eq (Term.string "OilLane$Reader" 73) (Term.string "OilLane$Reader" 79))) (by decide +kernel)
      rcases (show (i = 0 ∧ j = 1) ∨ (i = 1 ∧ j = 0) by omega) with ⟨rfl, rfl⟩ | ⟨rfl, rfl⟩
      · exact Or.inl hq
      · exact Or.inr hq) hA
  have hcs : va_Z "java/lang/String" "COMPACT_STRINGS" "Z" (.int 1) A s s.heap := va_Zof (hts _ (List.mem_of_getElem? (i := 455) (by decide +kernel))) (hts _ (List.mem_of_getElem? (i := 64) (by decide +kernel))) (va_eqi (hs _ (by decide +kernel))) hA
  obtain ⟨t7, h7⟩ := st_fmt (va_Zqof (C := "jdk/internal/util/Preconditions") (n := "SIOOBE_FORMATTER") (d := "Ljava/util/function/BiFunction;") (hts _ (List.mem_of_getElem? (i := 471) (by decide +kernel))) (hts _ (List.mem_of_getElem? (i := 66) (by decide +kernel))) (hs _ (by decide +kernel)) hA)
  refine ⟨fun i => if i = 0 then t0 else if i = 1 then t1 else if i = 2 then t2 else if i = 3 then adK 0 else if i = 4 then adK 1 else if i = 5 then adV 0 else if i = 6 then adV 1 else if i = 7 then t7 else b, rfl, ?_, ?_, hcs, h7, ?_⟩
  · intro t ht
    rcases (show t = 0 ∨ t = 1 ∨ t = 2 by omega) with rfl | rfl | rfl
    · exact ⟨z0, y0⟩
    · exact ⟨z1, y1⟩
    · exact ⟨z2, y2⟩
  · refine ⟨fun i hi => ?_, fun i j hi hj e => ?_⟩
    · rcases (show i = 0 ∨ i = 1 by omega) with rfl | rfl
      · exact hS.1 0 (by decide)
      · exact hS.1 1 (by decide)
    · refine hS.2 i j hi hj ?_
      rcases (show i = 0 ∨ i = 1 by omega) with rfl | rfl <;> rcases (show j = 0 ∨ j = 1 by omega) with rfl | rfl <;> exact e
  · exact ⟨vk_R.of (hts _ (List.mem_of_getElem? (i := 441) (by decide +kernel))) (hE 0 (by decide)), vk_R.of (hts _ (List.mem_of_getElem? (i := 494) (by decide +kernel))) (hE 1 (by decide))⟩
set_option maxRecDepth 20000 in
theorem st_str {s : State} {args : Array Value} (hts : ∀ w ∈ lw_tbl, w.before args s = true) : (∀ w ∈ ol_nm, va_Nw (.methodLinkNest w.1 w.2.1 w.2.2.1 w.2.2.2) s) ∧ va_Nw ol_fn s ∧ ∀ C ∈ ol_ao, va_AO C s := by
  have h1 : ∀ w ∈ ol_nm, Cond.methodLinkNest w.1 w.2.1 w.2.2.1 w.2.2.2 ∈ lw_tbl := by decide +kernel
  have h2 : ol_fn ∈ lw_tbl := by decide +kernel
  have h3 : ∀ C ∈ ol_ao, Cond.arrayOver (.object C) ∈ lw_tbl := by decide +kernel
  exact ⟨fun w hw => va_Nw.of rfl (hts _ (h1 w hw)), va_Nw.of rfl (hts _ h2), fun C hC => va_AO.of (hts _ (h3 C hC))⟩
/-- from the entry, for every script, the law comes to its end with true -/
theorem whole_start {p : Program} {e : Env} {s : State} {m : MethodId} {below : List Frame} {meth : Method} {c : Code} (l : Launch) {b L : Nat} {xs : Nat → Int32} (hL : L ≤ 384) (C0 : lw_At p s m meth c b L xs) : W p l e room_1 s m #[Value.ref b] below meth c s.heap [] 0 0 (lw_Z below #[Value.ref b] s) (entryFrame m ([Value.ref b] : List Value).toArray 4) := by
  obtain ⟨hx, hb, hr, hml, hown, hts, hX, hbl, hlocks, hgv⟩ := C0
  have htb : ∀ w ∈ ol_tb, w.before #[Value.ref b] s = true := fun w hw => hts w (List.mem_filter.mp hw).1
  obtain ⟨dC, dI, hKc⟩ := st_kls htb
  obtain ⟨ext, x8, x0, xS, xC, xF, xR⟩ := st_ext hts hgv b (fun q => s.heap.size ≤ q) (fun a h => Nat.not_le.mpr h)
  obtain ⟨n1, n2, n3⟩ := st_str hts
  obtain ⟨a0, g0⟩ := st_arr (ty := .int) (hts _ (List.mem_of_getElem? (i := 103) (by decide +kernel))) (fun _ _ => rfl)
  obtain ⟨a1, g1⟩ := st_arr (ty := .byte) (hts _ (List.mem_of_getElem? (i := 518) (by decide +kernel))) (fun _ _ => rfl)
  obtain ⟨a2, g2⟩ := st_arr (ty := .boolean) (hts _ (List.mem_of_getElem? (i := 222) (by decide +kernel))) (fun _ _ => rfl)
  obtain ⟨a3, g3⟩ := st_arq (C := "OilLane$Pattern") (hts _ (List.mem_of_getElem? (i := 129) (by decide +kernel)))
  obtain ⟨a4, g4⟩ := st_arq (C := "OilLane$Ball") (hts _ (List.mem_of_getElem? (i := 131) (by decide +kernel)))
  obtain ⟨a5, g5⟩ := st_arq (C := "OilLane$Floor") (hts _ (List.mem_of_getElem? (i := 199) (by decide +kernel)))
  obtain ⟨a6, g6⟩ := st_arq (C := "OilLane$Thrower") (hts _ (List.mem_of_getElem? (i := 151) (by decide +kernel)))
  obtain ⟨K, hK1, hK2, hK3, hK4⟩ : ∃ K : ol_K, K.1 = s.heap.size ∧ K.2.1 = (dC, dI) ∧ K.2.2.1 = (fun k => if k = 100 then a0 else if k = 101 then a1 else if k = 102 then a2 else if k = 103 then a3 else if k = 104 then a4 else if k = 105 then a5 else a6) ∧ K.2.2.2 = ext := ⟨(s.heap.size, (dC, dI), _, ext), rfl, rfl, rfl, rfl⟩
  have hA : ol_A K = fun q => s.heap.size ≤ q := by unfold ol_A; rw [hK1]
  have hKK : va_K K.2.1 vwCl (ol_tys K) s := by
    refine ⟨by rw [hK2]; exact hKc, fun k q hk => ?_⟩
    unfold ol_tys at hk
    rw [hK3] at hk
    match k, hk with
    | 0, hk => cases hk; exact g0
    | 1, hk => cases hk; exact g1
    | 2, hk => cases hk; exact g2
    | 3, hk => cases hk; exact g3
    | 4, hk => cases hk; exact g4
    | 5, hk => cases hk; exact g5
    | 6, hk => cases hk; exact g6
    | k + 7, hk => simp at hk
  have hExt : ol_Ext K s s.heap := by
    unfold ol_Ext
    rw [hA, hK4]
    exact ⟨x0, xS, xC, xF⟩
  have hStr : ol_Str K s := by
    unfold ol_Str
    rw [hK4]
    exact ⟨xR, n1, n2, n3⟩
  have hX8 : ol_X8 (p, l, e, room_1, s, m, #[Value.ref b], below, meth, c, lw_Z below #[Value.ref b] s) K L (fun j => (xs j).toInt) := by
    refine ⟨xs, ?_, ?_, ?_, fun _ => rfl, by omega⟩
    · rw [hK4, x8]; exact hX
    · rw [hK4, x8]; exact hbl
    · rw [hA, hK4, x8]; exact Nat.not_le.mpr hbl
  obtain ⟨L', h', hrun⟩ := law_pure L (fun j => (xs j).toInt) hL (fun j => ol_in32 _)
  have hl := lv_entry ([.ref b]) (n := 4) (Nat.le_of_ble_eq_true rfl)
  rw [lg_entry_eq]
  generalize (lg_sl ([.ref b]) ++ List.replicate (4 - (lg_sl ([.ref b])).length) Slot.unset).toArray = ls at hl ⊢
  have hLo : ol_Lo K ls c.maxLocals [.inr (.inl (some 1000008)), .inr (.inl none), .inr (.inl none), .inr (.inl none)] := by
    have := ol_ent_Lo (K := K) (vs := [.inr (.inl (some 1000008))]) (n := 4) (by decide) (fun v hv => by rw [List.mem_singleton.mp hv]; exact trivial) (ls := ls) (by
      show lv_has ls 4 (lv_args 0 [.ref (ol_ad K 1000008)])
      rw [ol_adx (i := 8) rfl, hK4, x8]
      exact hl)
    rw [hml]
    exact this
  have hmain := imL_law (p, l, e, room_1, s, m, #[Value.ref b], below, meth, c, lw_Z below #[Value.ref b] s) K hX8
  have hok : ol_Ok (p, l, e, room_1, s, m, #[Value.ref b], below, meth, c, lw_Z below #[Value.ref b] s) K mL_law := ⟨hx, hb, hown, htb, hKK, hExt, by rw [hK1]; exact Nat.le_refl _, fun h => absurd h (by decide), hlocks, Nat.le_of_ble_eq_true rfl, Nat.le_of_ble_eq_true rfl, Nat.le_of_ble_eq_true rfl, Nat.le_of_ble_eq_true rfl, hStr, hml, hr⟩
  refine hmain hok _ _ _ L' h' hrun (fun q => by cases q) (fun r q => ?_) ⟨Nat.zero_le _, Nat.zero_le _, by show K.1 + 0 = s.heap.size + 0; rw [hK1]⟩ s.heap [] ls ⟨by show K.1 + 0 ≤ s.heap.size; rw [hK1]; exact Nat.le_refl _, by decide, fun k q h => by simp [ol_ws] at h, fun a c h => by simp at h⟩ va_S.rf hLo
  cases q
  intro _ hB H locs ls pc hW hS hd
  refine va_forget (fun q hq => by have := hS.2.2 q hq; rw [hA] at this; exact this) ?_
  refine W.widen hB.1 hB.2.1 ?_
  exact lw_ret hx hb hr hlocks hd

-- ===== YOUR PART ENDS =====
set_option maxHeartbeats 4000000 in
theorem lw_walk (l : Launch) (b : Addr) (xs : List Int32) : MetFree l x (headSpec (Jvm.Cond.code x code maxLocals ret :: tables_1) room_1) (lw_P b xs) (fun _ _ _ _ _ => True) lw_Q := by
  refine MetFree.of_bodyS (code := code) (maxLocals := maxLocals) (ret := ret) (by decide) ?_ ?_
  · intro args s m h hn
    obtain ⟨meth, c, h1, h2, h3, h4, h5, h6, -, -⟩ := Cond.code_spec hn (atoms_spec (ws := Jvm.Cond.code x code maxLocals ret :: tables_1) h _ List.mem_cons_self)
    exact ⟨meth, c, h1, h2, h3, h4, h5, h6⟩
  · intro p e s m args below meth c s₁ B hml0 hP _
    obtain ⟨rfl, hx, hbd, hgv⟩ := hP
    obtain ⟨scr, harrAt, hlist, hof, hsmall⟩ := hx
    obtain ⟨hcb, hkn, -, -⟩ := State.arrayAt?_spec harrAt
    have hown : s.vm.findClass R_law = some m.cls := findClass_of_methodNamed B.named
    have hts0 : ∀ c ∈ (Jvm.Cond.code x code maxLocals ret :: tables_1), c.before #[Value.ref b] s = true := atoms_spec (ws := Jvm.Cond.code x code maxLocals ret :: tables_1) B.pre
    have hts : ∀ w ∈ lw_tbl, w.before #[Value.ref b] s = true := k2_hts_sels lw_privs (fun w hw => hts0 w (List.mem_cons_of_mem _ hw)) lw_privs_ok
    have hml : c.maxLocals = 4 := B.maxLocals_eq (hts0 _ List.mem_cons_self)
    have X₀ : Stand p l e room_1 s m #[Value.ref b] below meth c s₁ [] 0 0 := Stand.of_body B
    have hh0 : s₁.heap = s.heap := by rw [B.state]; rfl
    have hsz : scr.slots.size = xs.length := by rw [← Array.length_toList, hlist, List.length_map]
    have hval : ∀ j : Nat, j < xs.length → scr.slots[j]? = some (.int (xs.getD j 0)) := fun j hj => by
      rw [← Array.getElem?_toList, hlist]
      simp [hj]
    have hbl : b < s.heap.size := (Array.getElem?_eq_some_iff.mp hcb).1
    have hX : va_X b xs.length (fun j => xs.getD j 0) s s.heap := ⟨scr, hcb, hof, hkn, hsz, hval⟩
    have K : W p l e room_1 s m #[Value.ref b] below meth c s₁.heap [] 0 0 (lw_Z below #[Value.ref b] s) (entryFrame m ([Value.ref b] : List Value).toArray 4) := by
      rw [hh0]
      exact whole_start l hbd ⟨B.exec, B.bytes, B.returns, hml, hown, hts, hX, hbl, B.notSynchronized, hgv⟩
    obtain ⟨t, a1, o, b1, b2, b3⟩ := K s₁ rfl X₀
    exact ⟨t, o, a1, b1, b2, b3⟩
theorem lw_pre_spec {args : Array Value} {s : State} (h : (Jvm.Cond.and given_1 narrow_1).before args s = true) (hr : rest_1_c.before args s = true) : ∃ (b : Addr) (xs : List Int32), lw_P b xs args s := by
  have hs := flat_of_before _ h
  have hq := flat_of_before _ hr
  have hc : (Cond.count 1).before args s = true := hs _ (by decide +kernel)
  have harr : (Cond.arrayOf (.arg 0) .int).before args s = true := hs _ (by decide +kernel)
  have hle : (Cond.le (.length (.arg 0)) (.int 384)).before args s = true := hs _ (by decide +kernel)
  have hlen : (Cond.isInt (.length (.arg 0))).before args s = true := hq _ (by decide +kernel)
  have hall : (Cond.all (.arg 0) (.isInt (.elem (.arg 0) (.index 0)))).before args s = true := hq _ (by decide +kernel)
  obtain ⟨b, xs, hb, hx⟩ := State.ints_of_pre rfl harr hlen hall
  have hsm : xs.length < 2 ^ 31 := hx.choose_spec.2.2.2
  have hev : (Term.length (.arg 0)).eval args s none [] s = some (.int xs.length.toInt32) := hx.length_eval hb
  have hv := Cond.le_ints hev (show (Term.int 384).eval args s none [] s = some (.int 384) from rfl)
  have hd : xs.length.toInt32 ≤ 384 := by
    simpa [Cond.before, Cond.holds, hv] using hle
  have hN : xs.length ≤ 384 := (Int32.ofNat_le_ofNat hsm (by decide)).mp (show Int32.ofNat xs.length ≤ Int32.ofNat 384 from hd)
  exact ⟨b, xs, Cond.one_arg hc (show args[0]? = some (.ref b) from hb), hx, hN, h⟩
theorem lw_comes (l : Launch) : Comes l x (Jvm.Cond.code x code maxLocals ret :: tables_1) room_1 (fun tb e args s => Calls_1 tb e args s ∧ rest_1 tb e args s ∧ Pre_1 tb e args s)
    (fun _ _ args s o t => lw_Q args s o t) := by
  intro p e ha hc hk s m args below hf hfit hheap happ hpre
  obtain ⟨b, xs, hP⟩ := lw_pre_spec hpre.2.2 hpre.2.1
  obtain ⟨k, o, h1, h2, h3, hQ⟩ := lw_walk l b xs p e ha hc hk s m args below hf ((Spec.applies_iff_loose hf).mp happ).1 hP trivial
  exact ⟨k, o, h1, h2, h3, hQ⟩
theorem lw_frame {s t : State} {o : Outcome} {args : Array Value} (h : Framed s o t [] 600000 7302250) :
    Framed s o t (fieldLocs frame_1_writes args s ++ arrayLocs frame_1_arrays args s ++ staticLocs frame_1_statics s) 600000 7302250 := h
theorem lw_limb (L : Cond) (hL : ∀ (args : Array Value) (s t : State), L.after args s (.returned (some (.int 1))) t = true) :
    ArmFor flags0 classFile x code maxLocals ret World_1 tables_1 room_1 Calls_1 rest_1 Pre_1
      (fun tb e a s o t => postC L tb e a s o t ∧ Framed s o t (fieldLocs frame_1_writes a s ++ arrayLocs frame_1_arrays a s ++ staticLocs frame_1_statics s) 600000 7302250) := by
  intro l _ _ _ p e ha hc hk s m args below hf hfit hheap happ hpre
  obtain ⟨k, o, h1, h2, h3, rfl, hF⟩ := lw_comes l p e ha hc hk s m args below hf hfit hheap happ hpre
  exact ⟨k, _, h1, h2, h3, hL args s _, lw_frame hF⟩
theorem i_vc : Claimed_1_1 ∧ Claimed_1_2 := ⟨lw_limb limb_1_1 (fun args s t => by simp [limb_1_1, Cond.after, Cond.holds, Cond.value]), lw_limb limb_1_2 (fun args s t => Cond.after_iff.mpr (by
  first | (rw [show limb_1_2 = Cond.eq .result (.int 1) from rfl, Cond.eq_ints (x := 1) (y := 1) rfl rfl]; simp; done) | (simp [limb_1_2, Cond.value, Term.eval]; done)))⟩
