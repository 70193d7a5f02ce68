/-! the law behind its two constructors -/
theorem hM_pb : hM_38 = (pb g0 t0, 17, 7610) := by
  have h : hM_38.1 = pb g0 t0 := q_h_eq _ _ (by decide +kernel)
  rw [← h]
  rfl
theorem hC_28s : hC_28 = (hC_28.1, 74, 4596) := rfl
theorem nw_C : er_n 10 tyX10 18 93 12266 fX10_init (mc mX10_init) (ms mX10_init) ea_0 [.inr (.inl (some 1000008)), .inr (.inl none), .inr (.inl none), .inr (.inl none)] ([], 0, 0) = some (0, (hC_28.1, 75, 4614)) := by
  have e1 : ol_psh ([], 0, 0) (10, ol_dvs tyX10 18) 93 12266 = some ([(10, ol_dvs tyX10 18)], 1, 18) := by
    simp [ol_psh, ol_dvs]
  have e2 : ([(10, ol_dvs tyX10 18)], 0, 0) = hC_0 := rfl
  unfold er_n
  rw [e1]
  simp only [Option.bind_some, ea_0, ol_caN]
  show ((fX10_init [.inr (.inl (some 0))] ([(10, ol_dvs tyX10 18)], 0, 0)).bind _).bind _ = _
  rw [e2, ctor_C]
  rfl
theorem nw_M : er_n 11 tyX11 42 93 12266 fX11_init (mc mX11_init) (ms mX11_init) ea_0 [.inr (.inl (some 1000008)), .inr (.inl (some 0)), .inr (.inl none), .inr (.inl none)] (hC_28.1, 75, 4614) = some (75, (pb g0 t0, 93, 12266)) := by
  have hl : hC_28.1.length = 75 := by decide +kernel
  have e1 : ol_psh (hC_28.1, 75, 4614) (11, ol_dvs tyX11 42) 93 12266 = some (hC_28.1 ++ [(11, ol_dvs tyX11 42)], 76, 4656) := by
    simp [ol_psh, ol_dvs, hl]
  have e2 : (hC_28.1 ++ [(11, ol_dvs tyX11 42)], 0, 0) = hM_0 := rfl
  unfold er_n
  rw [e1]
  simp only [Option.bind_some, ea_0, ol_caN, hl]
  rw [e2, ctor_M, hM_pb]
  rfl
