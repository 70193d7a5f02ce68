/-! static tables, arithmetic, conditions -/
section OLA
variable {x : ol_X} {K : ol_K} {M : ol_M} {d p p1 p2 p3 p4 pT pF : Nat}
theorem ri_t {t index : Nat} {i : ol_IE} (ht : t < 3) (hd1 : decode M.1 p1 = .ok (.getstatic index, 3)) (hw : Cond.fieldLink M.2.1 index "OilLane" (ol_tabf t) "[I" ∈ ol_tb) (hi : IM_I x K M (d + 1) (p1 + 3) p i) (hd : decode M.1 p = .ok (.iaload, 1)) : IM_I x K M d p1 (p + 1) (ei_t t i) := by
  intro ok L h stk v h' hcs hf kk hb H locs ls hW hS hL
  simp only [ei_t, Option.bind_eq_some_iff] at hf
  obtain ⟨⟨j, h1⟩, e1, e2⟩ := hf
  dsimp only at e2
  split at e2
  · rename_i hj
    cases e2
    obtain ⟨z1, z2⟩ := ok.2.2.2.2.2.1.1 t ht
    refine va_gets ok.1 ok.2.1 z1 hS ok.2.2.1 (ok.2.2.2.1 _ hw) (fun _ q => q) hd1 ?_
    refine hi ok L h _ j _ (ol_cs1 rfl hcs) e1 (fun hj2 => ?_) hb H locs ls hW hS hL
    intro hb H locs ls hW hS hL
    obtain ⟨cell, t1, t2, t3, t4, t5, t6, t7⟩ := z2
    have hjn : j.toNat < ol_tabn t := by omega
    have hcell : H[K.2.2.2 t]? = some cell := by rw [hS.2.1 _ (Array.getElem?_eq_some_iff.mp t1).1 t7]; exact t1
    have hin : ol_inR (ol_tab t j.toNat) := by
      have hall : ∀ t, t < 3 → ∀ j, j < 10 → -2147483648 ≤ ol_tab t j ∧ ol_tab t j ≤ 2147483647 := by decide
      have h10 : ol_tabn t ≤ 10 := by
        have : ∀ t, t < 3 → ol_tabn t ≤ 10 := by decide
        exact this t ht
      exact hall t ht _ (by omega)
    refine W.iald (v := .int (Int32.ofInt (ol_tab t j.toNat))) ok.1 ok.2.1 hcell t2 t3 (fun hh => ?_) ?_ rfl rfl hd (kk hin hb H locs ls hW hS hL)
    · rw [ol_nat32 hj2 hj.1] at hh
      rcases hh with hh | hh
      · have : j < 0 := (ol_lt32 hj2 ol_in0).mp hh
        omega
      · omega
    · rw [ol_nat32 hj2 hj.1]
      exact t6 _ hjn
  · cases e2
/-! two numbers -/
def ol_op2 (ins : Instr) (f : Int → Int → Option Int) : Prop := ∀ (p : Program) (l : Launch) (e : Env) (R : Room) (s : State) (m : MethodId) (args : Array Value) (below : List Frame) (meth : Method) (c : Code) (H : Heap) (locs : List Loc) (cells slots : Nat) (Q : State → Prop) (cc : ByteArray) (pc : Nat) (ls : Array Slot) (rest : List Value) (a b n : Int),
  p.tables.exec = Jvm.exec → c.code = cc → decode cc pc = .ok (ins, 1) → ol_inR a → ol_inR b → f a b = some n → (ol_inR n → W p l e R s m args below meth c H locs cells slots Q (F0 m (pc + 1) ls (.int (Int32.ofInt n) :: rest))) → W p l e R s m args below meth c H locs cells slots Q (F0 m pc ls (.int (Int32.ofInt b) :: .int (Int32.ofInt a) :: rest))
theorem ol_op_add : ol_op2 .iadd ol_add := by
  intro p l e R s m args below meth c H locs cells slots Q cc pc ls rest a b n h1 h2 h3 ha hb hf kk
  cases hf
  have kk := kk (ol_w_in _)
  rw [ol_of_w, Int32.ofInt_add] at kk
  exact lv_iadd h1 h2 h3 kk
theorem ol_op_sub : ol_op2 .isub ol_sub := by
  intro p l e R s m args below meth c H locs cells slots Q cc pc ls rest a b n h1 h2 h3 ha hb hf kk
  cases hf
  have kk := kk (ol_w_in _)
  rw [ol_of_w, Int32.ofInt_sub] at kk
  exact lv_isub h1 h2 h3 kk
theorem ol_op_mul : ol_op2 .imul ol_mul := by
  intro p l e R s m args below meth c H locs cells slots Q cc pc ls rest a b n h1 h2 h3 ha hb hf kk
  cases hf
  have kk := kk (ol_w_in _)
  rw [ol_of_w, Int32.ofInt_mul] at kk
  exact lv_imul h1 h2 h3 kk
theorem ol_op_and : ol_op2 .iand ol_and := by
  intro p l e R s m args below meth c H locs cells slots Q cc pc ls rest a b n h1 h2 h3 ha hb hf kk
  cases hf
  have kk := kk (ol_in32 _)
  rw [Int32.ofInt_toInt] at kk
  exact lv_iand h1 h2 h3 kk
theorem ol_op_or : ol_op2 .ior ol_or := by
  intro p l e R s m args below meth c H locs cells slots Q cc pc ls rest a b n h1 h2 h3 ha hb hf kk
  cases hf
  have kk := kk (ol_in32 _)
  rw [Int32.ofInt_toInt] at kk
  exact lv_ior h1 h2 h3 kk
theorem ol_op_xor : ol_op2 .ixor ol_xor := by
  intro p l e R s m args below meth c H locs cells slots Q cc pc ls rest a b n h1 h2 h3 ha hb hf kk
  cases hf
  have kk := kk (ol_in32 _)
  rw [Int32.ofInt_toInt] at kk
  exact lv_ixor h1 h2 h3 kk
theorem ol_op_shl : ol_op2 .ishl ol_shl := by
  intro p l e R s m args below meth c H locs cells slots Q cc pc ls rest a b n h1 h2 h3 ha hb hf kk
  cases hf
  have kk := kk (ol_in32 _)
  rw [Int32.ofInt_toInt] at kk
  exact lv_ishl h1 h2 h3 kk
theorem ol_op_shr : ol_op2 .ishr ol_shr := by
  intro p l e R s m args below meth c H locs cells slots Q cc pc ls rest a b n h1 h2 h3 ha hb hf kk
  cases hf
  have kk := kk (ol_in32 _)
  rw [Int32.ofInt_toInt] at kk
  exact lv_ishr h1 h2 h3 kk
theorem ol_div32 {a b : Int} (ha : ol_inR a) (hb : ol_inR b) : Int32.ofInt (ol_w (a.tdiv b)) = Int32.ofInt a / Int32.ofInt b := by
  rw [ol_of_w]
  apply Int32.toInt_inj.mp
  rw [Int32.toInt_div, ol_toInt ha, ol_toInt hb, Int32.toInt_ofInt]
theorem ol_op_div : ol_op2 .idiv ol_div := by
  intro p l e R s m args below meth c H locs cells slots Q cc pc ls rest a b n h1 h2 h3 ha hb hf kk
  unfold ol_div at hf
  split at hf
  · cases hf
  · rename_i hb0
    cases hf
    have kk := kk (ol_w_in _)
    rw [ol_div32 ha hb] at kk
    exact lv_idiv h1 h2 h3 (fun z => hb0 ((ol_eq32 hb ol_in0).mp z)) kk
theorem ol_rem32 {a b : Int} (ha : ol_inR a) (hb : ol_inR b) : Int32.ofInt (ol_w (a.tmod b)) = Int32.ofInt a - Int32.ofInt a / Int32.ofInt b * Int32.ofInt b := by
  rw [ol_of_w, ← ol_div32 ha hb, ol_of_w, ← Int32.ofInt_mul, ← Int32.ofInt_sub]
  congr 1
  have := Int.tmod_add_mul_tdiv a b
  have h2 : a.tdiv b * b = b * a.tdiv b := Int.mul_comm _ _
  omega
theorem ol_op_rem : ol_op2 .irem ol_rem := by
  intro p l e R s m args below meth c H locs cells slots Q cc pc ls rest a b n h1 h2 h3 ha hb hf kk
  unfold ol_rem at hf
  split at hf
  · cases hf
  · rename_i hb0
    cases hf
    have kk := kk (ol_w_in _)
    rw [ol_rem32 ha hb] at kk
    exact lv_irem h1 h2 h3 (fun z => hb0 ((ol_eq32 hb ol_in0).mp z)) kk
theorem ri_2 {ins : Instr} {f : Int → Int → Option Int} {a b : ol_IE} (hop : ol_op2 ins f) (ha : IM_I x K M d p1 p2 a) (hb : IM_I x K M (d + 1) p2 p b) (hd : decode M.1 p = .ok (ins, 1)) : IM_I x K M d p1 (p + 1) (ei_2 f a b) := by
  intro ok L h stk v h' hcs hf kk
  simp only [ei_2, Option.bind_eq_some_iff] at hf
  obtain ⟨⟨a1, h1⟩, e1, ⟨b1, h2⟩, e2, n, e3, e4⟩ := hf
  cases e4
  refine ha ok L h stk a1 _ hcs e1 fun i1 => ?_
  refine hb ok L h1 _ b1 _ (ol_cs1 rfl hcs) e2 fun i2 => ?_
  intro hb H locs ls hW hS hL
  exact hop _ _ _ _ _ _ _ _ _ _ _ _ _ _ _ _ _ _ _ _ _ _ ok.1 ok.2.1 hd i1 i2 e3 (fun i3 => kk i3 hb H locs ls hW hS hL)
theorem ri_neg {a : ol_IE} (ha : IM_I x K M d p1 p a) (hd : decode M.1 p = .ok (.ineg, 1)) : IM_I x K M d p1 (p + 1) (ei_neg a) := by
  intro ok L h stk v h' hcs hf kk
  simp only [ei_neg, Option.bind_eq_some_iff] at hf
  obtain ⟨⟨a1, h1⟩, e1, e4⟩ := hf
  cases e4
  refine ha ok L h stk a1 _ hcs e1 fun i1 => ?_
  intro hb H locs ls hW hS hL
  have kk := kk (ol_w_in _) hb H locs ls hW hS hL
  rw [ol_of_w, Int32.ofInt_neg] at kk
  exact lv_ineg ok.1 ok.2.1 hd kk
theorem ri_if {c : ol_CE} {a b : ol_IE} {off : Int} (hc : IM_C x K M d p1 pT pF c) (ha : IM_I x K M d pT p2 a) (hg : decode M.1 p2 = .ok (.goto off, 3)) (ht : (p2 : Int) + off = (p3 : Int)) (hb : IM_I x K M d pF p3 b) : IM_I x K M d p1 p3 (ei_if c a b) := by
  intro ok L h stk v h' hcs hf kk
  simp only [ei_if, Option.bind_eq_some_iff] at hf
  obtain ⟨⟨b1, h1⟩, e1, e2⟩ := hf
  refine hc ok L h stk b1 h1 hcs e1 (fun hb1 => ?_) (fun hb1 => ?_)
  · subst hb1
    refine ha ok L h1 stk v h' hcs e2 fun i => ?_
    intro hb H locs ls hW hS hL
    exact lv_goto ok.1 ok.2.1 hg ht (kk i hb H locs ls hW hS hL)
  · subst hb1
    exact hb ok L h1 stk v h' hcs e2 kk
/-! conditions: a jump that is taken if so (T), if not so (F) -/
def ol_j2 (ins : Int → Instr) (f : Int → Int → Bool) (w : Bool) : Prop := ∀ (p : Program) (l : Launch) (e : Env) (R : Room) (s : State) (m : MethodId) (args : Array Value) (below : List Frame) (meth : Method) (c : Code) (H : Heap) (locs : List Loc) (cells slots : Nat) (Q : State → Prop) (cc : ByteArray) (pc tgt : Nat) (off : Int) (ls : Array Slot) (rest : List Value) (a b : Int),
  p.tables.exec = Jvm.exec → c.code = cc → decode cc pc = .ok (ins off, 3) → (pc : Int) + off = (tgt : Int) → ol_inR a → ol_inR b → (f a b = w → W p l e R s m args below meth c H locs cells slots Q (F0 m tgt ls rest)) → (f a b = !w → W p l e R s m args below meth c H locs cells slots Q (F0 m (pc + 3) ls rest)) → W p l e R s m args below meth c H locs cells slots Q (F0 m pc ls (.int (Int32.ofInt b) :: .int (Int32.ofInt a) :: rest))
def ol_j1 (ins : Int → Instr) (f : Int → Int → Bool) (w : Bool) : Prop := ∀ (p : Program) (l : Launch) (e : Env) (R : Room) (s : State) (m : MethodId) (args : Array Value) (below : List Frame) (meth : Method) (c : Code) (H : Heap) (locs : List Loc) (cells slots : Nat) (Q : State → Prop) (cc : ByteArray) (pc tgt : Nat) (off : Int) (ls : Array Slot) (rest : List Value) (a : Int),
  p.tables.exec = Jvm.exec → c.code = cc → decode cc pc = .ok (ins off, 3) → (pc : Int) + off = (tgt : Int) → ol_inR a → (f a 0 = w → W p l e R s m args below meth c H locs cells slots Q (F0 m tgt ls rest)) → (f a 0 = !w → W p l e R s m args below meth c H locs cells slots Q (F0 m (pc + 3) ls rest)) → W p l e R s m args below meth c H locs cells slots Q (F0 m pc ls (.int (Int32.ofInt a) :: rest))
theorem ol_j2_lt_T : ol_j2 (fun o => .if_icmp .lt o) ol_lt true := by
  intro p l e R s m args below meth c H locs cells slots Q cc pc tgt off ls rest a b h1 h2 h3 h4 ha hb kt kf
  have hh := (ol_lt32 ha hb)
  refine lv_icmp_lt h1 h2 h3 h4 (fun z => kt ?_) (fun z => kf ?_)
  · have := hh.mp z
    simp only [ol_lt, decide_eq_true_eq, decide_eq_false_iff_not]
    omega
  · have := (not_congr hh).mp z
    simp only [ol_lt, Bool.not_true, Bool.not_false, decide_eq_true_eq, decide_eq_false_iff_not]
    omega
theorem ol_j1_lt_T : ol_j1 (fun o => .ifCond .lt o) ol_lt true := by
  intro p l e R s m args below meth c H locs cells slots Q cc pc tgt off ls rest a h1 h2 h3 h4 ha kt kf
  have hb := ol_in0
  have hh := (ol_lt32 ha hb)
  refine lv_if_lt h1 h2 h3 h4 (fun z => kt ?_) (fun z => kf ?_)
  · have := hh.mp z
    simp only [ol_lt, decide_eq_true_eq, decide_eq_false_iff_not]
    omega
  · have := (not_congr hh).mp z
    simp only [ol_lt, Bool.not_true, Bool.not_false, decide_eq_true_eq, decide_eq_false_iff_not]
    omega
theorem ol_j2_lt_F : ol_j2 (fun o => .if_icmp .lt o) ol_ge false := by
  intro p l e R s m args below meth c H locs cells slots Q cc pc tgt off ls rest a b h1 h2 h3 h4 ha hb kt kf
  have hh := (ol_lt32 ha hb)
  refine lv_icmp_lt h1 h2 h3 h4 (fun z => kt ?_) (fun z => kf ?_)
  · have := hh.mp z
    simp only [ol_ge, decide_eq_true_eq, decide_eq_false_iff_not]
    omega
  · have := (not_congr hh).mp z
    simp only [ol_ge, Bool.not_true, Bool.not_false, decide_eq_true_eq, decide_eq_false_iff_not]
    omega
theorem ol_j1_lt_F : ol_j1 (fun o => .ifCond .lt o) ol_ge false := by
  intro p l e R s m args below meth c H locs cells slots Q cc pc tgt off ls rest a h1 h2 h3 h4 ha kt kf
  have hb := ol_in0
  have hh := (ol_lt32 ha hb)
  refine lv_if_lt h1 h2 h3 h4 (fun z => kt ?_) (fun z => kf ?_)
  · have := hh.mp z
    simp only [ol_ge, decide_eq_true_eq, decide_eq_false_iff_not]
    omega
  · have := (not_congr hh).mp z
    simp only [ol_ge, Bool.not_true, Bool.not_false, decide_eq_true_eq, decide_eq_false_iff_not]
    omega
theorem ol_j2_le_T : ol_j2 (fun o => .if_icmp .le o) ol_le true := by
  intro p l e R s m args below meth c H locs cells slots Q cc pc tgt off ls rest a b h1 h2 h3 h4 ha hb kt kf
  have hh := (ol_le32 ha hb)
  refine lv_icmp_le h1 h2 h3 h4 (fun z => kt ?_) (fun z => kf ?_)
  · have := hh.mp z
    simp only [ol_le, decide_eq_true_eq, decide_eq_false_iff_not]
    omega
  · have := (not_congr hh).mp z
    simp only [ol_le, Bool.not_true, Bool.not_false, decide_eq_true_eq, decide_eq_false_iff_not]
    omega
theorem ol_j1_le_T : ol_j1 (fun o => .ifCond .le o) ol_le true := by
  intro p l e R s m args below meth c H locs cells slots Q cc pc tgt off ls rest a h1 h2 h3 h4 ha kt kf
  have hb := ol_in0
  have hh := (ol_le32 ha hb)
  refine lv_if_le h1 h2 h3 h4 (fun z => kt ?_) (fun z => kf ?_)
  · have := hh.mp z
    simp only [ol_le, decide_eq_true_eq, decide_eq_false_iff_not]
    omega
  · have := (not_congr hh).mp z
    simp only [ol_le, Bool.not_true, Bool.not_false, decide_eq_true_eq, decide_eq_false_iff_not]
    omega
theorem ol_j2_le_F : ol_j2 (fun o => .if_icmp .le o) ol_gt false := by
  intro p l e R s m args below meth c H locs cells slots Q cc pc tgt off ls rest a b h1 h2 h3 h4 ha hb kt kf
  have hh := (ol_le32 ha hb)
  refine lv_icmp_le h1 h2 h3 h4 (fun z => kt ?_) (fun z => kf ?_)
  · have := hh.mp z
    simp only [ol_gt, decide_eq_true_eq, decide_eq_false_iff_not]
    omega
  · have := (not_congr hh).mp z
    simp only [ol_gt, Bool.not_true, Bool.not_false, decide_eq_true_eq, decide_eq_false_iff_not]
    omega
theorem ol_j1_le_F : ol_j1 (fun o => .ifCond .le o) ol_gt false := by
  intro p l e R s m args below meth c H locs cells slots Q cc pc tgt off ls rest a h1 h2 h3 h4 ha kt kf
  have hb := ol_in0
  have hh := (ol_le32 ha hb)
  refine lv_if_le h1 h2 h3 h4 (fun z => kt ?_) (fun z => kf ?_)
  · have := hh.mp z
    simp only [ol_gt, decide_eq_true_eq, decide_eq_false_iff_not]
    omega
  · have := (not_congr hh).mp z
    simp only [ol_gt, Bool.not_true, Bool.not_false, decide_eq_true_eq, decide_eq_false_iff_not]
    omega
theorem ol_j2_gt_T : ol_j2 (fun o => .if_icmp .gt o) ol_gt true := by
  intro p l e R s m args below meth c H locs cells slots Q cc pc tgt off ls rest a b h1 h2 h3 h4 ha hb kt kf
  have hh := (ol_lt32 hb ha)
  refine lv_icmp_gt h1 h2 h3 h4 (fun z => kt ?_) (fun z => kf ?_)
  · have := hh.mp z
    simp only [ol_gt, decide_eq_true_eq, decide_eq_false_iff_not]
    omega
  · have := (not_congr hh).mp z
    simp only [ol_gt, Bool.not_true, Bool.not_false, decide_eq_true_eq, decide_eq_false_iff_not]
    omega
theorem ol_j1_gt_T : ol_j1 (fun o => .ifCond .gt o) ol_gt true := by
  intro p l e R s m args below meth c H locs cells slots Q cc pc tgt off ls rest a h1 h2 h3 h4 ha kt kf
  have hb := ol_in0
  have hh := (ol_lt32 hb ha)
  refine lv_if_gt h1 h2 h3 h4 (fun z => kt ?_) (fun z => kf ?_)
  · have := hh.mp z
    simp only [ol_gt, decide_eq_true_eq, decide_eq_false_iff_not]
    omega
  · have := (not_congr hh).mp z
    simp only [ol_gt, Bool.not_true, Bool.not_false, decide_eq_true_eq, decide_eq_false_iff_not]
    omega
theorem ol_j2_gt_F : ol_j2 (fun o => .if_icmp .gt o) ol_le false := by
  intro p l e R s m args below meth c H locs cells slots Q cc pc tgt off ls rest a b h1 h2 h3 h4 ha hb kt kf
  have hh := (ol_lt32 hb ha)
  refine lv_icmp_gt h1 h2 h3 h4 (fun z => kt ?_) (fun z => kf ?_)
  · have := hh.mp z
    simp only [ol_le, decide_eq_true_eq, decide_eq_false_iff_not]
    omega
  · have := (not_congr hh).mp z
    simp only [ol_le, Bool.not_true, Bool.not_false, decide_eq_true_eq, decide_eq_false_iff_not]
    omega
theorem ol_j1_gt_F : ol_j1 (fun o => .ifCond .gt o) ol_le false := by
  intro p l e R s m args below meth c H locs cells slots Q cc pc tgt off ls rest a h1 h2 h3 h4 ha kt kf
  have hb := ol_in0
  have hh := (ol_lt32 hb ha)
  refine lv_if_gt h1 h2 h3 h4 (fun z => kt ?_) (fun z => kf ?_)
  · have := hh.mp z
    simp only [ol_le, decide_eq_true_eq, decide_eq_false_iff_not]
    omega
  · have := (not_congr hh).mp z
    simp only [ol_le, Bool.not_true, Bool.not_false, decide_eq_true_eq, decide_eq_false_iff_not]
    omega
theorem ol_j2_ge_T : ol_j2 (fun o => .if_icmp .ge o) ol_ge true := by
  intro p l e R s m args below meth c H locs cells slots Q cc pc tgt off ls rest a b h1 h2 h3 h4 ha hb kt kf
  have hh := (ol_le32 hb ha)
  refine lv_icmp_ge h1 h2 h3 h4 (fun z => kt ?_) (fun z => kf ?_)
  · have := hh.mp z
    simp only [ol_ge, decide_eq_true_eq, decide_eq_false_iff_not]
    omega
  · have := (not_congr hh).mp z
    simp only [ol_ge, Bool.not_true, Bool.not_false, decide_eq_true_eq, decide_eq_false_iff_not]
    omega
theorem ol_j1_ge_T : ol_j1 (fun o => .ifCond .ge o) ol_ge true := by
  intro p l e R s m args below meth c H locs cells slots Q cc pc tgt off ls rest a h1 h2 h3 h4 ha kt kf
  have hb := ol_in0
  have hh := (ol_le32 hb ha)
  refine lv_if_ge h1 h2 h3 h4 (fun z => kt ?_) (fun z => kf ?_)
  · have := hh.mp z
    simp only [ol_ge, decide_eq_true_eq, decide_eq_false_iff_not]
    omega
  · have := (not_congr hh).mp z
    simp only [ol_ge, Bool.not_true, Bool.not_false, decide_eq_true_eq, decide_eq_false_iff_not]
    omega
theorem ol_j2_ge_F : ol_j2 (fun o => .if_icmp .ge o) ol_lt false := by
  intro p l e R s m args below meth c H locs cells slots Q cc pc tgt off ls rest a b h1 h2 h3 h4 ha hb kt kf
  have hh := (ol_le32 hb ha)
  refine lv_icmp_ge h1 h2 h3 h4 (fun z => kt ?_) (fun z => kf ?_)
  · have := hh.mp z
    simp only [ol_lt, decide_eq_true_eq, decide_eq_false_iff_not]
    omega
  · have := (not_congr hh).mp z
    simp only [ol_lt, Bool.not_true, Bool.not_false, decide_eq_true_eq, decide_eq_false_iff_not]
    omega
theorem ol_j1_ge_F : ol_j1 (fun o => .ifCond .ge o) ol_lt false := by
  intro p l e R s m args below meth c H locs cells slots Q cc pc tgt off ls rest a h1 h2 h3 h4 ha kt kf
  have hb := ol_in0
  have hh := (ol_le32 hb ha)
  refine lv_if_ge h1 h2 h3 h4 (fun z => kt ?_) (fun z => kf ?_)
  · have := hh.mp z
    simp only [ol_lt, decide_eq_true_eq, decide_eq_false_iff_not]
    omega
  · have := (not_congr hh).mp z
    simp only [ol_lt, Bool.not_true, Bool.not_false, decide_eq_true_eq, decide_eq_false_iff_not]
    omega
theorem ol_j2_eq_T : ol_j2 (fun o => .if_icmp .eq o) ol_eq true := by
  intro p l e R s m args below meth c H locs cells slots Q cc pc tgt off ls rest a b h1 h2 h3 h4 ha hb kt kf
  have hh := (ol_eq32 ha hb)
  refine lv_icmp_eq h1 h2 h3 h4 (fun z => kt ?_) (fun z => kf ?_)
  · have := hh.mp z
    simp only [ol_eq, decide_eq_true_eq, decide_eq_false_iff_not]
    omega
  · have := (not_congr hh).mp z
    simp only [ol_eq, Bool.not_true, Bool.not_false, decide_eq_true_eq, decide_eq_false_iff_not]
    omega
theorem ol_j1_eq_T : ol_j1 (fun o => .ifCond .eq o) ol_eq true := by
  intro p l e R s m args below meth c H locs cells slots Q cc pc tgt off ls rest a h1 h2 h3 h4 ha kt kf
  have hb := ol_in0
  have hh := (ol_eq32 ha hb)
  refine lv_if_eq h1 h2 h3 h4 (fun z => kt ?_) (fun z => kf ?_)
  · have := hh.mp z
    simp only [ol_eq, decide_eq_true_eq, decide_eq_false_iff_not]
    omega
  · have := (not_congr hh).mp z
    simp only [ol_eq, Bool.not_true, Bool.not_false, decide_eq_true_eq, decide_eq_false_iff_not]
    omega
theorem ol_j2_eq_F : ol_j2 (fun o => .if_icmp .eq o) ol_ne false := by
  intro p l e R s m args below meth c H locs cells slots Q cc pc tgt off ls rest a b h1 h2 h3 h4 ha hb kt kf
  have hh := (ol_eq32 ha hb)
  refine lv_icmp_eq h1 h2 h3 h4 (fun z => kt ?_) (fun z => kf ?_)
  · have := hh.mp z
    simp only [ol_ne, decide_eq_true_eq, decide_eq_false_iff_not]
    omega
  · have := (not_congr hh).mp z
    simp only [ol_ne, Bool.not_true, Bool.not_false, decide_eq_true_eq, decide_eq_false_iff_not]
    omega
theorem ol_j1_eq_F : ol_j1 (fun o => .ifCond .eq o) ol_ne false := by
  intro p l e R s m args below meth c H locs cells slots Q cc pc tgt off ls rest a h1 h2 h3 h4 ha kt kf
  have hb := ol_in0
  have hh := (ol_eq32 ha hb)
  refine lv_if_eq h1 h2 h3 h4 (fun z => kt ?_) (fun z => kf ?_)
  · have := hh.mp z
    simp only [ol_ne, decide_eq_true_eq, decide_eq_false_iff_not]
    omega
  · have := (not_congr hh).mp z
    simp only [ol_ne, Bool.not_true, Bool.not_false, decide_eq_true_eq, decide_eq_false_iff_not]
    omega
theorem ol_j2_ne_T : ol_j2 (fun o => .if_icmp .ne o) ol_ne true := by
  intro p l e R s m args below meth c H locs cells slots Q cc pc tgt off ls rest a b h1 h2 h3 h4 ha hb kt kf
  have hh := (not_congr (ol_eq32 ha hb))
  refine lv_icmp_ne h1 h2 h3 h4 (fun z => kt ?_) (fun z => kf ?_)
  · have := hh.mp z
    simp only [ol_ne, decide_eq_true_eq, decide_eq_false_iff_not]
    omega
  · have := (ol_eq32 ha hb).mp z
    simp only [ol_ne, Bool.not_true, Bool.not_false, decide_eq_true_eq, decide_eq_false_iff_not]
    omega
theorem ol_j1_ne_T : ol_j1 (fun o => .ifCond .ne o) ol_ne true := by
  intro p l e R s m args below meth c H locs cells slots Q cc pc tgt off ls rest a h1 h2 h3 h4 ha kt kf
  have hb := ol_in0
  have hh := (not_congr (ol_eq32 ha hb))
  refine lv_if_ne h1 h2 h3 h4 (fun z => kt ?_) (fun z => kf ?_)
  · have := hh.mp z
    simp only [ol_ne, decide_eq_true_eq, decide_eq_false_iff_not]
    omega
  · have := (ol_eq32 ha hb).mp z
    simp only [ol_ne, Bool.not_true, Bool.not_false, decide_eq_true_eq, decide_eq_false_iff_not]
    omega
theorem ol_j2_ne_F : ol_j2 (fun o => .if_icmp .ne o) ol_eq false := by
  intro p l e R s m args below meth c H locs cells slots Q cc pc tgt off ls rest a b h1 h2 h3 h4 ha hb kt kf
  have hh := (not_congr (ol_eq32 ha hb))
  refine lv_icmp_ne h1 h2 h3 h4 (fun z => kt ?_) (fun z => kf ?_)
  · have := hh.mp z
    simp only [ol_eq, decide_eq_true_eq, decide_eq_false_iff_not]
    omega
  · have := (ol_eq32 ha hb).mp z
    simp only [ol_eq, Bool.not_true, Bool.not_false, decide_eq_true_eq, decide_eq_false_iff_not]
    omega
theorem ol_j1_ne_F : ol_j1 (fun o => .ifCond .ne o) ol_eq false := by
  intro p l e R s m args below meth c H locs cells slots Q cc pc tgt off ls rest a h1 h2 h3 h4 ha kt kf
  have hb := ol_in0
  have hh := (not_congr (ol_eq32 ha hb))
  refine lv_if_ne h1 h2 h3 h4 (fun z => kt ?_) (fun z => kf ?_)
  · have := hh.mp z
    simp only [ol_eq, decide_eq_true_eq, decide_eq_false_iff_not]
    omega
  · have := (ol_eq32 ha hb).mp z
    simp only [ol_eq, Bool.not_true, Bool.not_false, decide_eq_true_eq, decide_eq_false_iff_not]
    omega
theorem rc_2T {ins : Int → Instr} {f : Int → Int → Bool} {a b : ol_IE} {off : Int} (hj : ol_j2 ins f true) (ha : IM_I x K M d p1 p2 a) (hb : IM_I x K M (d + 1) p2 p b) (hd : decode M.1 p = .ok (ins off, 3)) (ht : (p : Int) + off = (pT : Int)) : IM_C x K M d p1 pT (p + 3) (ec_2 f a b) := by
  intro ok L h stk v h' hcs hf kt kf
  simp only [ec_2, Option.bind_eq_some_iff] at hf
  obtain ⟨⟨a1, h1⟩, e1, ⟨b1, h2⟩, e2, e3⟩ := hf
  cases e3
  refine ha ok L h stk a1 _ hcs e1 fun i1 => ?_
  refine hb ok L h1 _ b1 _ (ol_cs1 rfl hcs) e2 fun i2 => ?_
  intro hb H locs ls hW hS hL
  exact hj _ _ _ _ _ _ _ _ _ _ _ _ _ _ _ _ _ _ _ _ _ _ _ ok.1 ok.2.1 hd ht i1 i2 (fun z => kt z hb H locs ls hW hS hL) (fun z => kf z hb H locs ls hW hS hL)
theorem rc_2F {ins : Int → Instr} {f : Int → Int → Bool} {a b : ol_IE} {off : Int} (hj : ol_j2 ins f false) (ha : IM_I x K M d p1 p2 a) (hb : IM_I x K M (d + 1) p2 p b) (hd : decode M.1 p = .ok (ins off, 3)) (ht : (p : Int) + off = (pF : Int)) : IM_C x K M d p1 (p + 3) pF (ec_2 f a b) := by
  intro ok L h stk v h' hcs hf kt kf
  simp only [ec_2, Option.bind_eq_some_iff] at hf
  obtain ⟨⟨a1, h1⟩, e1, ⟨b1, h2⟩, e2, e3⟩ := hf
  cases e3
  refine ha ok L h stk a1 _ hcs e1 fun i1 => ?_
  refine hb ok L h1 _ b1 _ (ol_cs1 rfl hcs) e2 fun i2 => ?_
  intro hb H locs ls hW hS hL
  exact hj _ _ _ _ _ _ _ _ _ _ _ _ _ _ _ _ _ _ _ _ _ _ _ ok.1 ok.2.1 hd ht i1 i2 (fun z => kf z hb H locs ls hW hS hL) (fun z => kt z hb H locs ls hW hS hL)
theorem rc_zT {ins : Int → Instr} {f : Int → Int → Bool} {a : ol_IE} {off : Int} (hj : ol_j1 ins f true) (ha : IM_I x K M d p1 p a) (hd : decode M.1 p = .ok (ins off, 3)) (ht : (p : Int) + off = (pT : Int)) : IM_C x K M d p1 pT (p + 3) (ec_z f a) := by
  intro ok L h stk v h' hcs hf kt kf
  simp only [ec_z, Option.bind_eq_some_iff] at hf
  obtain ⟨⟨a1, h1⟩, e1, e3⟩ := hf
  cases e3
  refine ha ok L h stk a1 _ hcs e1 fun i1 => ?_
  intro hb H locs ls hW hS hL
  exact hj _ _ _ _ _ _ _ _ _ _ _ _ _ _ _ _ _ _ _ _ _ _ ok.1 ok.2.1 hd ht i1 (fun z => kt z hb H locs ls hW hS hL) (fun z => kf z hb H locs ls hW hS hL)
theorem rc_zF {ins : Int → Instr} {f : Int → Int → Bool} {a : ol_IE} {off : Int} (hj : ol_j1 ins f false) (ha : IM_I x K M d p1 p a) (hd : decode M.1 p = .ok (ins off, 3)) (ht : (p : Int) + off = (pF : Int)) : IM_C x K M d p1 (p + 3) pF (ec_z f a) := by
  intro ok L h stk v h' hcs hf kt kf
  simp only [ec_z, Option.bind_eq_some_iff] at hf
  obtain ⟨⟨a1, h1⟩, e1, e3⟩ := hf
  cases e3
  refine ha ok L h stk a1 _ hcs e1 fun i1 => ?_
  intro hb H locs ls hW hS hL
  exact hj _ _ _ _ _ _ _ _ _ _ _ _ _ _ _ _ _ _ _ _ _ _ ok.1 ok.2.1 hd ht i1 (fun z => kf z hb H locs ls hW hS hL) (fun z => kt z hb H locs ls hW hS hL)
theorem rc_and {a b : ol_CE} (ha : IM_C x K M d p1 p2 pF a) (hb : IM_C x K M d p2 pT pF b) : IM_C x K M d p1 pT pF (ec_and a b) := by
  intro ok L h stk v h' hcs hf kt kf
  simp only [ec_and, Option.bind_eq_some_iff] at hf
  obtain ⟨⟨b1, h1⟩, e1, e2⟩ := hf
  refine ha ok L h stk b1 h1 hcs e1 (fun q => ?_) (fun q => ?_)
  · subst q
    exact hb ok L h1 stk v h' hcs e2 kt kf
  · subst q
    cases e2
    exact kf rfl
theorem rc_or {a b : ol_CE} (ha : IM_C x K M d p1 pT p2 a) (hb : IM_C x K M d p2 pT pF b) : IM_C x K M d p1 pT pF (ec_or a b) := by
  intro ok L h stk v h' hcs hf kt kf
  simp only [ec_or, Option.bind_eq_some_iff] at hf
  obtain ⟨⟨b1, h1⟩, e1, e2⟩ := hf
  refine ha ok L h stk b1 h1 hcs e1 (fun q => ?_) (fun q => ?_)
  · subst q
    cases e2
    exact kt rfl
  · subst q
    exact hb ok L h1 stk v h' hcs e2 kt kf
theorem rc_not {a : ol_CE} (ha : IM_C x K M d p1 pF pT a) : IM_C x K M d p1 pT pF (ec_not a) := by
  intro ok L h stk v h' hcs hf kt kf
  simp only [ec_not, Option.bind_eq_some_iff] at hf
  obtain ⟨⟨b1, h1⟩, e1, e2⟩ := hf
  cases e2
  exact ha ok L h stk b1 h1 hcs e1 (fun q => kf (by rw [q]; rfl)) (fun q => kt (by rw [q]; rfl))
end OLA
