/-! ## the law, told by the abstract machine alone -/
theorem law_pure (n : Nat) (hn : n ≤ 2560) (xs : Nat → Int32) : ∃ h', f_L_law (am_h0 n xs) = some (h', .inl (some (.inl 1))) ∧ m_nc h' ≤ 601024 ∧ m_ns h' ≤ 7293034 := sorry
