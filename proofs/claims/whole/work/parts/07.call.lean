/-! contracts, calls -/
def ol_wd (y : MethodName) (M : ol_M) : List Cond := .code y M.1 (mn M) (mr M) :: ol_tb
def ol_rm (M : ol_M) : Room := { frames := ml M, cells := mc M, slots := ms M, locals := 60 * ml M }
def ol_Pc (K : ol_K) (vs : List ol_V) (cs : List ol_C) : Array Value → State → Prop := va_Pc (vs.map (ol_tv K)) (fun U => U.heap.size = K.1 + cs.length ∧ ol_Wd K (cs, 0, 0) U.heap ∧ va_K K.2.1 vwCl (ol_tys K) U ∧ ol_Ext K U U.heap ∧ ol_Str K U)
def ol_Qc (K : ol_K) (M : ol_M) (cs : List ol_C) (r : Option ol_V) (cs' : List ol_C) : Array Value → State → Outcome → State → Prop := fun _ st oc t => oc = .returned (r.map (ol_tv K)) ∧ cs'.length = cs.length + mc M ∧ ol_Wd K (cs', 0, 0) t.heap ∧ va_F (ol_A K) st t ∧ ol_rt (mr M) r
def ol_Con (l : Launch) (K : ol_K) (y : MethodName) (M : ol_M) (f : ol_FE) : Prop := ∀ (vs : List ol_V) (cs : List ol_C) (r : Option ol_V) (cs' : List ol_C), (∀ v ∈ vs, ol_rv v) → f vs (cs, 0, 0) = some (r, (cs', mc M, ms M)) → Met l y (ol_wd y M) (ol_rm M) (ol_Pc K vs cs) (ol_Qc K M cs r cs') (mc M) (ms M) (ol_A K)
def ol_exp : List ol_V → ol_L
  | [] => []
  | .inr (.inr j) :: t => .inr (.inr j) :: .inr (.inl none) :: ol_exp t
  | .inr (.inl r) :: t => .inr (.inl r) :: ol_exp t
  | .inl n :: t => .inl n :: ol_exp t
def ol_ent (n : Nat) (vs : List ol_V) : ol_L := ol_exp vs ++ List.replicate (n - (ol_exp vs).length) (.inr (.inl none))
def ol_fe (n : Nat) (s : ol_SE) : ol_FE := fun vs h => if (ol_exp vs).length ≤ n then (s (ol_ent n vs) h).bind fun p => p.1.bind fun r => some (r, p.2.2) else none
theorem ol_exp_len (K : ol_K) : ∀ vs : List ol_V, (lg_sl (vs.map (ol_tv K))).length = (ol_exp vs).length := by
  intro vs
  induction vs with
  | nil => rfl
  | cons v t ih =>
    rcases v with n | (_ | a) | j
    · simpa [lg_sl, ol_exp, ol_tv, Value.category] using ih
    · simpa [lg_sl, ol_exp, ol_tv, Value.category] using ih
    · simpa [lg_sl, ol_exp, ol_tv, Value.category] using ih
    · simpa [lg_sl, ol_exp, ol_tv, Value.category] using ih
theorem ol_exp_mem (K : ol_K) : ∀ (vs : List ol_V) (o i : Nat) (v : ol_V), (ol_exp vs)[i]? = some v → v ≠ .inr (.inl none) → (o + i, ol_tv K v) ∈ lv_args o (vs.map (ol_tv K)) ∧ v ∈ vs := by
  intro vs
  induction vs with
  | nil => intro o i v h; simp [ol_exp] at h
  | cons w t ih =>
    intro o i v h hv
    rcases w with n | (_ | a) | j
    · cases i with
      | zero => simp [ol_exp] at h; subst h; simp [lv_args]
      | succ i =>
        simp only [ol_exp, List.getElem?_cons_succ] at h
        obtain ⟨h1, h2⟩ := ih (o + 1) i v h hv
        refine ⟨?_, List.mem_cons_of_mem _ h2⟩
        rw [show o + (i + 1) = o + 1 + i by omega]
        exact List.mem_cons_of_mem _ h1
    · cases i with
      | zero => simp [ol_exp] at h; exact absurd h.symm hv
      | succ i =>
        simp only [ol_exp, List.getElem?_cons_succ] at h
        obtain ⟨h1, h2⟩ := ih (o + 1) i v h hv
        refine ⟨?_, List.mem_cons_of_mem _ h2⟩
        rw [show o + (i + 1) = o + 1 + i by omega]
        exact List.mem_cons_of_mem _ h1
    · cases i with
      | zero => simp [ol_exp] at h; subst h; simp [lv_args]
      | succ i =>
        simp only [ol_exp, List.getElem?_cons_succ] at h
        obtain ⟨h1, h2⟩ := ih (o + 1) i v h hv
        refine ⟨?_, List.mem_cons_of_mem _ h2⟩
        rw [show o + (i + 1) = o + 1 + i by omega]
        exact List.mem_cons_of_mem _ h1
    · cases i with
      | zero => simp [ol_exp] at h; subst h; simp [lv_args]
      | succ i =>
        cases i with
        | zero => simp [ol_exp] at h; exact absurd h.symm hv
        | succ i =>
          simp only [ol_exp, List.getElem?_cons_succ] at h
          obtain ⟨h1, h2⟩ := ih (o + 2) i v h hv
          refine ⟨?_, List.mem_cons_of_mem _ h2⟩
          rw [show o + (i + 1 + 1) = o + 2 + i by omega]
          exact List.mem_cons_of_mem _ h1
theorem ol_ent_Lo {K : ol_K} {vs : List ol_V} {n : Nat} (hn : (ol_exp vs).length ≤ n) (hr : ∀ v ∈ vs, ol_rv v) {ls : Array Slot} (h : lv_has ls n (lv_args 0 (vs.map (ol_tv K)))) : ol_Lo K ls n (ol_ent n vs) := by
  refine ⟨h.1, h.2.1, fun i v hi hv => ?_⟩
  unfold ol_ent at hi
  by_cases hl : i < (ol_exp vs).length
  · rw [List.getElem?_append_left hl] at hi
    obtain ⟨h1, h2⟩ := ol_exp_mem K vs 0 i v hi hv
    rw [Nat.zero_add] at h1
    exact ⟨h.2.2 _ h1, hr v h2⟩
  · rw [List.getElem?_append_right (by omega)] at hi
    have := List.eq_of_mem_replicate (List.mem_of_getElem? hi)
    exact absurd this hv
theorem ol_char {n : Int} (h : 0 ≤ n ∧ n < 128) : ol_inR n ∧ narrow .char (.int (Int32.ofInt n)) = .int (Int32.ofInt n) := by
  refine ⟨by unfold ol_inR; omega, ?_⟩
  obtain ⟨k, rfl⟩ : ∃ k : Nat, n = (k : Int) := ⟨n.toNat, by omega⟩
  have hk : k < 128 := by omega
  have hall : ∀ k : Fin 128, narrow .char (.int (Int32.ofInt ((k.val : Nat) : Int))) = .int (Int32.ofInt ((k.val : Nat) : Int)) := by decide +kernel
  exact hall ⟨k, hk⟩
theorem ol_con {l : Launch} {K : ol_K} {y : MethodName} {M : ol_M} {body : ol_SE} {pE : Nat} (hpl : plainName y.cls = true) (hcls : y.cls = M.2.1) (hnm : y.name = M.2.2.1) (hb : ∀ x, IM_S x K M 0 pE body) : ol_Con l K y M (ol_fe (mn M) body) := by
  intro vs cs r cs' hrv hf
  unfold ol_fe at hf
  split at hf
  case isFalse => cases hf
  rename_i hlen
  simp only [Option.bind_eq_some_iff] at hf
  obtain ⟨⟨c1, L1, h1⟩, e1, r1, e2, e3⟩ := hf
  dsimp only at e2
  subst e2
  cases e3
  refine Met.ofW (cc := M.1) (maxL := mn M) (ret := mr M) hpl rfl ?_
  intro p e s m args below meth c s₁ B hml hv
  obtain ⟨rfl, hsz, hW, hK, hE, hStr⟩ := hv
  have hts := atoms_spec (ws := ol_wd y M) B.pre
  have hown : s.vm.findClass y.cls = some m.cls := findClass_of_methodNamed B.named
  have hname : meth.name = y.name := (name_of_methodNamed B.named B.method).1
  have hlocks : meth.locks = false := B.notSynchronized
  have hr := B.returns
  have ok : ol_Ok (p, l, e, (headSpec (ol_wd y M) (ol_rm M)).room, s, m, (vs.map (ol_tv K)).toArray, below, meth, c, MQ below (ol_Qc K M cs r cs') (vs.map (ol_tv K)).toArray s (mc M) (ms M) (ol_A K)) K M := by
    refine ⟨B.exec, B.bytes, by rw [← hcls]; exact hown, fun w hw => hts w (List.mem_cons_of_mem _ hw), hK, hE, ?_, fun h => hname.trans (hnm.trans h), hlocks, Nat.le_refl _, Nat.le_refl _, Nat.le_refl _, Nat.le_refl _, hStr, hml, hr⟩
    show K.1 ≤ s.heap.size
    omega
  have hl := lv_entry (vs.map (ol_tv K)) (n := mn M) (by rw [ol_exp_len]; exact hlen)
  rw [lg_entry_eq]
  generalize (lg_sl (vs.map (ol_tv K)) ++ List.replicate (mn M - (lg_sl (vs.map (ol_tv K))).length) Slot.unset).toArray = ls at hl ⊢
  refine hb _ ok (ol_ent (mn M) vs) (cs, 0, 0) _ L1 _ e1 (fun q => by cases q) (fun r2 q => ?_) ⟨Nat.zero_le _, Nat.zero_le _, by show K.1 + cs.length = s.heap.size + 0; omega⟩ s.heap [] ls hW va_S.rf (by
    have := ol_ent_Lo (K := K) hlen hrv hl
    show ol_Lo K ls c.maxLocals _
    rw [hml]
    exact this)
  cases q
  intro hrt hB H locs ls pc hW2 hS hd
  have hlen2 : cs'.length = cs.length + mc M := by
    have h3 : K.1 + cs'.length = s.heap.size + mc M := hB.2.2
    omega
  have hq : ∀ t : State, t.heap = H → s.WarmedH t.vm → ol_Qc K M cs r cs' (vs.map (ol_tv K)).toArray s (.returned (r.map (ol_tv K))) t := fun t ht _ => ⟨rfl, hlen2, by rw [ht]; exact hW2, hS.F ht, hrt⟩
  rcases r with _ | n | (_ | a) | j
  · cases hM : mr M with
    | none =>
      rw [hM] at hr
      exact W.vret B.exec B.bytes hr hq hS.2.2 hd hlocks
    | some ty => rw [hM] at hrt; cases ty <;> exact hrt.elim
  · cases hM : mr M with
    | none => rw [hM] at hrt; exact hrt.elim
    | some ty =>
      rw [hM] at hrt hr
      cases ty with
      | boolean => exact W.zret B.exec B.bytes hr (ol_z01 hrt).2.1 hq hS.2.2 hd hlocks
      | int => exact W.iret B.exec B.bytes hr hq hS.2.2 hd hlocks
      | char => exact W.zret B.exec B.bytes hr (ol_char hrt).2 hq hS.2.2 hd hlocks
      | byte =>
        have hz : narrow .byte (.int (Int32.ofInt n)) = .int (Int32.ofInt n) := by rw [show n = 0 from hrt]; decide
        exact W.zret B.exec B.bytes hr hz hq hS.2.2 hd hlocks
      | _ => exact hrt.elim
  · cases hM : mr M with
    | none => rw [hM] at hrt; exact hrt.elim
    | some ty => rw [hM] at hrt; cases ty <;> exact hrt.elim
  · cases hM : mr M with
    | none => rw [hM] at hrt; exact hrt.elim
    | some ty => rw [hM] at hrt; cases ty <;> exact hrt.elim
  · cases hM : mr M with
    | none => rw [hM] at hrt; exact hrt.elim
    | some ty =>
      rw [hM] at hrt hr
      cases ty with
      | long => exact W.lret B.exec B.bytes hr hq hS.2.2 hd hlocks
      | _ => exact hrt.elim
