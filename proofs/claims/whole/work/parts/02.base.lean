/-! the abstract machine: values, cells, heaps, and how the machine's heap holds them -/
abbrev ol_V : Type := Int ⊕ (Option Nat ⊕ Int64)
abbrev ol_C : Type := Nat × List ol_V
abbrev ol_H : Type := List ol_C × Nat × Nat
abbrev ol_L : Type := List ol_V
def ol_inR (n : Int) : Prop := -2147483648 ≤ n ∧ n ≤ 2147483647
def ol_w (n : Int) : Int := (Int32.ofInt n).toInt
theorem ol_w_in (n : Int) : ol_inR (ol_w n) := by
  have h1 := Int32.le_toInt (Int32.ofInt n)
  have h2 := Int32.toInt_lt (Int32.ofInt n)
  unfold ol_inR ol_w
  omega
theorem ol_toInt {n : Int} (h : ol_inR n) : (Int32.ofInt n).toInt = n := Int32.toInt_ofInt_of_le h.1 (by have := h.2; omega)
theorem ol_w_id {n : Int} (h : ol_inR n) : ol_w n = n := ol_toInt h
theorem ol_of_w (n : Int) : Int32.ofInt (ol_w n) = Int32.ofInt n := by
  unfold ol_w
  exact Int32.ofInt_toInt _
theorem ol_in32 (x : Int32) : ol_inR x.toInt := by
  have h1 := Int32.le_toInt x
  have h2 := Int32.toInt_lt x
  unfold ol_inR
  omega
theorem ol_lt32 {x y : Int} (hx : ol_inR x) (hy : ol_inR y) : (Int32.ofInt x < Int32.ofInt y) ↔ x < y := by
  rw [Int32.lt_iff_toInt_lt, ol_toInt hx, ol_toInt hy]
theorem ol_le32 {x y : Int} (hx : ol_inR x) (hy : ol_inR y) : (Int32.ofInt x ≤ Int32.ofInt y) ↔ x ≤ y := by
  rw [Int32.le_iff_toInt_le, ol_toInt hx, ol_toInt hy]
theorem ol_eq32 {x y : Int} (hx : ol_inR x) (hy : ol_inR y) : (Int32.ofInt x = Int32.ofInt y) ↔ x = y := by
  constructor
  · intro h
    have := congrArg Int32.toInt h
    rwa [ol_toInt hx, ol_toInt hy] at this
  · intro h; rw [h]
theorem ol_zero32 : (0 : Int32) = Int32.ofInt 0 := rfl
theorem ol_in0 : ol_inR 0 := by unfold ol_inR; omega
theorem ol_nat32 {n : Int} (h : ol_inR n) (h0 : 0 ≤ n) : (Int32.ofInt n).toNatClampNeg = n.toNat := by
  show (Int32.ofInt n).toInt.toNat = n.toNat
  rw [ol_toInt h]
/-! K: the first address of ours, the classes' numbers, the arrays' classes by kind, addresses of what is not ours -/
abbrev ol_K : Type := Nat × va_G × (Nat → ClassId) × (Nat → Nat)
def ol_ad (K : ol_K) (a : Nat) : Nat := if a < 1000000 then K.1 + a else K.2.2.2 (a - 1000000)
def ol_tv (K : ol_K) : ol_V → Value
  | .inl n => .int (Int32.ofInt n)
  | .inr (.inl none) => .null
  | .inr (.inl (some a)) => .ref (ol_ad K a)
  | .inr (.inr j) => .long j
def ol_int : Option ol_V → Option Int
  | some (.inl n) => some n
  | _ => none
def ol_ref : Option ol_V → Option Nat
  | some (.inr (.inl (some a))) => some a
  | _ => none
def ol_lng : Option ol_V → Option Int64
  | some (.inr (.inr j)) => some j
  | _ => none
def ol_gi (xs : List ol_V) (j : Nat) : Int := (ol_int xs[j]?).getD 0
def ol_gr (xs : List ol_V) (j : Nat) : Option Nat := ol_ref xs[j]?
def ol_E (K : ol_K) (c : ol_C) : va_E :=
  if c.1 < 100 then .inr (c.1, c.2.map (ol_tv K))
  else if c.1 < 103 then .inl (K.2.2.1 c.1, c.2.length, .inl (fun j => Int32.ofInt (ol_gi c.2 j)))
  else .inl (K.2.2.1 c.1, c.2.length, .inr (.inr (.inr (.inr (fun j => (ol_gr c.2 j).map (ol_ad K))))))
def ol_ws (K : ol_K) (cs : List ol_C) : va_W := cs.mapIdx (fun a c => (K.1 + a, ol_E K c))
def ol_rv : ol_V → Prop
  | .inl n => ol_inR n
  | _ => True
def ol_R (cs : List ol_C) : Prop := ∀ (a : Nat) (c : ol_C), cs[a]? = some c → ∀ (j : Nat) (v : ol_V), c.2[j]? = some v → ol_rv v
def ol_Wd (K : ol_K) (h : ol_H) (H : Heap) : Prop := K.1 + h.1.length ≤ H.size ∧ h.1.length ≤ 1000000 ∧ va_P K.2.1 vwCl (ol_ws K h.1) H ∧ ol_R h.1
def ol_A (K : ol_K) : Nat → Prop := fun q => K.1 ≤ q
def ol_tys (K : ol_K) : List (ClassId × FieldType) := [(K.2.2.1 100, .int), (K.2.2.1 101, .byte), (K.2.2.1 102, .boolean), (K.2.2.1 103, .object "OilLane$Pattern"), (K.2.2.1 104, .object "OilLane$Ball"), (K.2.2.1 105, .object "OilLane$Floor"), (K.2.2.1 106, .object "OilLane$Thrower")]
theorem ol_ws_get {K : ol_K} {cs : List ol_C} {a : Nat} {c : ol_C} (h : cs[a]? = some c) : (ol_ws K cs)[a]? = some (K.1 + a, ol_E K c) := by
  unfold ol_ws
  rw [List.getElem?_mapIdx, h]
  rfl
theorem ol_ws_inv {K : ol_K} {cs : List ol_C} {a : Nat} {q : Nat × va_E} (h : (ol_ws K cs)[a]? = some q) : ∃ c, cs[a]? = some c ∧ q = (K.1 + a, ol_E K c) := by
  unfold ol_ws at h
  rw [List.getElem?_mapIdx] at h
  cases hc : cs[a]? with
  | none => rw [hc] at h; cases h
  | some c => rw [hc] at h; exact ⟨c, rfl, (Option.some.inj h).symm⟩
theorem ol_ws_set {K : ol_K} {cs : List ol_C} {a : Nat} {c : ol_C} : (ol_ws K cs).set a (K.1 + a, ol_E K c) = ol_ws K (cs.set a c) := by
  apply List.ext_getElem?
  intro i
  unfold ol_ws
  rw [List.getElem?_mapIdx, List.getElem?_set, List.getElem?_set, List.getElem?_mapIdx, List.length_mapIdx]
  by_cases h : a = i
  · subst h
    by_cases hl : a < cs.length
    · simp [hl]
    · simp [hl]
  · simp [h]
theorem ol_ws_push {K : ol_K} {cs : List ol_C} {c : ol_C} : ol_ws K (cs ++ [c]) = ol_ws K cs ++ [(K.1 + cs.length, ol_E K c)] := by
  unfold ol_ws
  rw [List.mapIdx_append]
  simp
theorem ol_ws_D (K : ol_K) (cs : List ol_C) : va_D (ol_A K) (ol_ws K cs) := by
  refine ⟨fun i j p q hi hj hpq => ?_, fun k q hk => ?_⟩
  · obtain ⟨c, -, rfl⟩ := ol_ws_inv hi
    obtain ⟨c', -, rfl⟩ := ol_ws_inv hj
    have : K.1 + i = K.1 + j := hpq
    omega
  · obtain ⟨c, -, rfl⟩ := ol_ws_inv hk
    exact Nat.le_add_right _ _
theorem ol_ad_in {K : ol_K} {cs : List ol_C} {a : Nat} {c : ol_C} (hl : cs.length ≤ 1000000) (h : cs[a]? = some c) : ol_ad K a = K.1 + a := by
  have := (List.getElem?_eq_some_iff.mp h).1
  unfold ol_ad
  rw [if_pos (by omega)]
theorem ol_R.get {cs : List ol_C} (h : ol_R cs) {a j : Nat} {k : Nat} {xs : List ol_V} {n : Int} (hc : cs[a]? = some (k, xs)) (hv : xs[j]? = some (.inl n)) : ol_inR n := h a _ hc j _ hv
theorem ol_R.set {cs : List ol_C} (h : ol_R cs) {a j k : Nat} {xs : List ol_V} {v : ol_V} (hc : cs[a]? = some (k, xs)) (hv : ol_rv v) : ol_R (cs.set a (k, xs.set j v)) := by
  intro b c hb i w hw
  rw [List.getElem?_set] at hb
  by_cases hab : a = b
  · subst hab
    have hl := (List.getElem?_eq_some_iff.mp hc).1
    simp [hl] at hb
    subst hb
    dsimp only at hw
    rw [List.getElem?_set] at hw
    by_cases hij : j = i
    · subst hij
      simp at hw
      obtain ⟨-, rfl⟩ := hw
      exact hv
    · simp [hij] at hw
      exact h a _ hc i w hw
  · simp [hab] at hb
    exact h b c hb i w hw
theorem ol_R.push {cs : List ol_C} (h : ol_R cs) {c : ol_C} (hc : ∀ (j : Nat) (v : ol_V), c.2[j]? = some v → ol_rv v) : ol_R (cs ++ [c]) := by
  intro a d ha
  by_cases hl : a < cs.length
  · rw [List.getElem?_append_left hl] at ha
    exact h a d ha
  · rw [List.getElem?_append_right (by omega)] at ha
    have hz : a - cs.length < 1 := (List.getElem?_eq_some_iff.mp ha).1
    rw [show a - cs.length = 0 by omega] at ha
    cases ha
    exact hc
/-! the locals -/
def ol_Lo (K : ol_K) (ls : Array Slot) (nL : Nat) (L : ol_L) : Prop := ls.size = nL ∧ lv_wf ls ∧ ∀ (i : Nat) (v : ol_V), L[i]? = some v → v ≠ .inr (.inl none) → ls[i]? = some (.val (ol_tv K v)) ∧ ol_rv v
/-! the machine's part of a walk, and the method's constants: bytes, owner, name, level, cells and slots that it may make, locals, answer's type -/
abbrev ol_X : Type := Program × Launch × Env × Room × State × MethodId × Array Value × List Frame × Method × Code × (State → Prop)
abbrev ol_M : Type := ByteArray × String × String × Nat × Nat × Nat × Nat × Option FieldType
abbrev ml (M : ol_M) : Nat := M.2.2.2.1
abbrev mc (M : ol_M) : Nat := M.2.2.2.2.1
abbrev ms (M : ol_M) : Nat := M.2.2.2.2.2.1
abbrev mn (M : ol_M) : Nat := M.2.2.2.2.2.2.1
abbrev mr (M : ol_M) : Option FieldType := M.2.2.2.2.2.2.2
abbrev xp (x : ol_X) : Program := x.1
abbrev xl (x : ol_X) : Launch := x.2.1
abbrev xe (x : ol_X) : Env := x.2.2.1
abbrev xR (x : ol_X) : Room := x.2.2.2.1
abbrev xs (x : ol_X) : State := x.2.2.2.2.1
abbrev xm (x : ol_X) : MethodId := x.2.2.2.2.2.1
abbrev xa (x : ol_X) : Array Value := x.2.2.2.2.2.2.1
abbrev xb (x : ol_X) : List Frame := x.2.2.2.2.2.2.2.1
abbrev xt (x : ol_X) : Method := x.2.2.2.2.2.2.2.2.1
abbrev xc (x : ol_X) : Code := x.2.2.2.2.2.2.2.2.2.1
abbrev xQ (x : ol_X) : State → Prop := x.2.2.2.2.2.2.2.2.2.2
abbrev ol_W (x : ol_X) (H : Heap) (locs : List Loc) (cells slots : Nat) (g : JFrame) : Prop := W (xp x) (xl x) (xe x) (xR x) (xs x) (xm x) (xa x) (xb x) (xt x) (xc x) H locs cells slots (xQ x) g
/-- the static tables: PIN_PLACE, KIND_ABOVE, KIND_MARK -/
def ol_tab (t j : Nat) : Int := (([[195, 165, 225, 135, 195, 255, 105, 165, 225, 285], [-1, 0, 0, 2, 1, 0], [1, 10, 100, 1000, 10000, 100000]] : List (List Int)).getD t []).getD j 0
def ol_tabn (t : Nat) : Nat := ([10, 6, 6] : List Nat).getD t 0
def ol_tabf (t : Nat) : String := (["PIN_PLACE", "KIND_ABOVE", "KIND_MARK"] : List String).getD t ""
def ol_len (i : Nat) : Nat := ([3, 5] : List Nat).getD i 0
def ol_byt (i : Nat) : List Int32 := ([[108, 97, 121], [115, 116, 114, 105, 112]] : List (List Int32)).getD i []
def ol_Ext (K : ol_K) (U : State) (H : Heap) : Prop :=
  (∀ t, t < 3 → va_Z "OilLane" (ol_tabf t) "[I" (.ref (K.2.2.2 t)) (ol_A K) U H ∧ va_T .int (K.2.2.2 t) (ol_tabn t) (fun j => .int (Int32.ofInt (ol_tab t j))) (ol_A K) U H) ∧
  vk_S 2 [3, 5] [[108, 97, 121], [115, 116, 114, 105, 112]] (fun i => K.2.2.2 (3 + i)) (fun i => K.2.2.2 (5 + i)) (ol_A K) U H ∧ va_Z "java/lang/String" "COMPACT_STRINGS" "Z" (.int 1) (ol_A K) U H ∧ (va_Z "jdk/internal/util/Preconditions" "SIOOBE_FORMATTER" "Ljava/util/function/BiFunction;" .null (ol_A K) U H ∨ va_Z "jdk/internal/util/Preconditions" "SIOOBE_FORMATTER" "Ljava/util/function/BiFunction;" (.ref (K.2.2.2 7)) (ol_A K) U H)
theorem ol_Ext.moved {K : ol_K} {u U : State} {H : Heap} (hvm : u.vm.Alike U.vm) (h : ol_Ext K u H) : ol_Ext K U H := ⟨fun t ht => ⟨(h.1 t ht).1.moved hvm, (h.1 t ht).2.moved hvm⟩, h.2.1.moved hvm, h.2.2.1.moved hvm, h.2.2.2.imp (va_Z.moved hvm) (va_Z.moved hvm)⟩
theorem ol_Ext.kept {K : ol_K} {U : State} {H H1 : Heap} (h : ol_Ext K U H) (hq : ∀ a : Nat, a < H.size → ¬ ol_A K a → H1[a]? = H[a]?) : ol_Ext K U H1 := ⟨fun t ht => ⟨(h.1 t ht).1.kept hq, (h.1 t ht).2.kept hq⟩, h.2.1.kept hq, h.2.2.1.kept hq, h.2.2.2.imp (fun z => z.kept hq) (fun z => z.kept hq)⟩
def ol_Str (K : ol_K) (U : State) : Prop := ol_s1 U (K.2.2.2 3) (K.2.2.2 4) ∧ (∀ w ∈ ol_nm, va_Nw (.methodLinkNest w.1 w.2.1 w.2.2.1 w.2.2.2) U) ∧ va_Nw ol_fn U ∧ ∀ C ∈ ol_ao, va_AO C U
theorem ol_Str.warm {K : ol_K} {s U : State} (hW : s.WarmedH U.vm) (h : ol_Str K s) : ol_Str K U := ⟨⟨h.1.1.warm hW, h.1.2.warm hW⟩, fun w hw => va_Nw.warmM hW (h.2.1 w hw), va_Nw.warmF hW h.2.2.1, fun C hC => (h.2.2.2 C hC).moved hW.alike⟩
theorem ol_Str.same {K : ol_K} {s U : State} (hv : U.vm = s.vm) (h : ol_Str K s) : ol_Str K U := ⟨⟨h.1.1.same hv, h.1.2.same hv⟩, fun w hw => va_Nw.same rfl hv.symm (h.2.1 w hw), va_Nw.same rfl hv.symm h.2.2.1, fun C hC => (h.2.2.2 C hC).moved (by rw [hv]; exact Vm.Alike.refl _)⟩
/-- what holds all through a method's walk -/
def ol_Ok (x : ol_X) (K : ol_K) (M : ol_M) : Prop :=
  (xp x).tables.exec = Jvm.exec ∧ (xc x).code = M.1 ∧ (xs x).vm.findClass M.2.1 = some (xm x).cls ∧ (∀ w ∈ ol_tb, w.before (xa x) (xs x) = true) ∧
  va_K K.2.1 vwCl (ol_tys K) (xs x) ∧ ol_Ext K (xs x) (xs x).heap ∧ K.1 ≤ (xs x).heap.size ∧ (M.2.2.1 = "<init>" → (xt x).name = "<init>") ∧ (xt x).locks = false ∧
  ml M ≤ (xR x).frames ∧ 60 * ml M ≤ (xR x).locals ∧ mc M ≤ (xR x).cells ∧ ms M ≤ (xR x).slots ∧ ol_Str K (xs x) ∧ (xc x).maxLocals = mn M ∧ (xt x).sig.returnType = mr M
/-- the counts: what was made fits, and tells how many cells there are -/
def ol_B (x : ol_X) (K : ol_K) (h : ol_H) : Prop := h.2.1 ≤ (xR x).cells ∧ h.2.2 ≤ (xR x).slots ∧ K.1 + h.1.length = (xs x).heap.size + h.2.1
def ol_WW (x : ol_X) (K : ol_K) (pc : Nat) (L : ol_L) (h : ol_H) (stk : List Value) : Prop :=
  ol_B x K h → ∀ (H : Heap) (locs : List Loc) (ls : Array Slot), ol_Wd K h H → va_S (ol_A K) (xs x).heap H locs → ol_Lo K ls (xc x).maxLocals L → ol_W x H locs h.2.1 h.2.2 (F0 (xm x) pc ls stk)
abbrev ol_cs (stk : List Value) : Nat := (stk.map fun v => v.category).sum
/-! what an expression, a condition, a statement does; what it is for the code between two places to do so -/
abbrev ol_IE : Type := ol_L → ol_H → Option (Int × ol_H)
abbrev ol_RE : Type := ol_L → ol_H → Option (Nat × ol_H)
abbrev ol_JE : Type := ol_L → ol_H → Option (Int64 × ol_H)
abbrev ol_CE : Type := ol_L → ol_H → Option (Bool × ol_H)
abbrev ol_AE : Type := ol_L → ol_H → Option (List ol_V × ol_H)
abbrev ol_SE : Type := ol_L → ol_H → Option (Option (Option ol_V) × ol_L × ol_H)
abbrev ol_FE : Type := List ol_V → ol_H → Option (Option ol_V × ol_H)
def IM_I (x : ol_X) (K : ol_K) (M : ol_M) (d p1 p2 : Nat) (f : ol_IE) : Prop := ol_Ok x K M → ∀ (L : ol_L) (h : ol_H) (stk : List Value) (n : Int) (h' : ol_H), ol_cs stk ≤ d → f L h = some (n, h') → (ol_inR n → ol_WW x K p2 L h' (.int (Int32.ofInt n) :: stk)) → ol_WW x K p1 L h stk
def IM_R (x : ol_X) (K : ol_K) (M : ol_M) (d p1 p2 : Nat) (f : ol_RE) : Prop := ol_Ok x K M → ∀ (L : ol_L) (h : ol_H) (stk : List Value) (a : Nat) (h' : ol_H), ol_cs stk ≤ d → f L h = some (a, h') → ol_WW x K p2 L h' (.ref (ol_ad K a) :: stk) → ol_WW x K p1 L h stk
def IM_J (x : ol_X) (K : ol_K) (M : ol_M) (d p1 p2 : Nat) (f : ol_JE) : Prop := ol_Ok x K M → ∀ (L : ol_L) (h : ol_H) (stk : List Value) (j : Int64) (h' : ol_H), ol_cs stk ≤ d → f L h = some (j, h') → ol_WW x K p2 L h' (.long j :: stk) → ol_WW x K p1 L h stk
def IM_C (x : ol_X) (K : ol_K) (M : ol_M) (d p1 pT pF : Nat) (f : ol_CE) : Prop := ol_Ok x K M → ∀ (L : ol_L) (h : ol_H) (stk : List Value) (b : Bool) (h' : ol_H), ol_cs stk ≤ d → f L h = some (b, h') → (b = true → ol_WW x K pT L h' stk) → (b = false → ol_WW x K pF L h' stk) → ol_WW x K p1 L h stk
def IM_A (x : ol_X) (K : ol_K) (M : ol_M) (d p1 p2 : Nat) (f : ol_AE) : Prop := ol_Ok x K M → ∀ (L : ol_L) (h : ol_H) (stk : List Value) (vs : List ol_V) (h' : ol_H), ol_cs stk ≤ d → f L h = some (vs, h') → ((∀ v ∈ vs, ol_rv v) → ol_WW x K p2 L h' ((vs.map (ol_tv K)).reverse ++ stk)) → ol_WW x K p1 L h stk
/-- at a return: whatever the place, if it returns this -/
def ol_rt : Option FieldType → Option ol_V → Prop
  | some .boolean, some (.inl n) => n = 0 ∨ n = 1
  | some .int, some (.inl n) => ol_inR n
  | some .char, some (.inl n) => 0 ≤ n ∧ n < 128
  | some .byte, some (.inl n) => n = 0
  | some .long, some (.inr (.inr _)) => True
  | none, none => True
  | _, _ => False
def ol_rd (cc : ByteArray) (pc : Nat) : Option ol_V → Prop
  | none => decode cc pc = .ok (.return_, 1)
  | some (.inl _) => decode cc pc = .ok (.ireturn, 1)
  | some (.inr (.inl _)) => decode cc pc = .ok (.areturn, 1)
  | some (.inr (.inr _)) => decode cc pc = .ok (.lreturn, 1)
def ol_RR (x : ol_X) (K : ol_K) (M : ol_M) (r : Option ol_V) (h : ol_H) : Prop := ol_rt (mr M) r → ol_B x K h → ∀ (H : Heap) (locs : List Loc) (ls : Array Slot) (pc : Nat), ol_Wd K h H → va_S (ol_A K) (xs x).heap H locs → ol_rd M.1 pc r → ol_W x H locs h.2.1 h.2.2 (F0 (xm x) pc ls (r.toList.map (ol_tv K)))
def IM_S (x : ol_X) (K : ol_K) (M : ol_M) (p1 p2 : Nat) (f : ol_SE) : Prop := ol_Ok x K M → ∀ (L : ol_L) (h : ol_H) (c : Option (Option ol_V)) (L' : ol_L) (h' : ol_H), f L h = some (c, L', h') → (c = none → ol_WW x K p2 L' h' []) → (∀ r, c = some r → ol_RR x K M r h') → ol_WW x K p1 L h []
