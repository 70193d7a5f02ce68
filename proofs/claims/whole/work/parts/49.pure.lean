theorem law_pure (nn : Nat) (sc : Nat → Int) (hn : nn ≤ 384) (hr : ∀ j, ol_inR (sc j)) : ∃ L' h', bL_law nn sc [.inr (.inl (some 1000008)), .inr (.inl none), .inr (.inl none), .inr (.inl none)] ([], 0, 0) = some (some (some (.inl 1)), L', h') := by
  sorry
