/-! ## the law, told by the abstract machine alone -/
theorem law_pure (n : Nat) (hn : n ≤ 2560) (xs : Nat → Int32) : ∃ h', f_L_law (am_h0 n xs) = some (h', .inl (some (.inl 1))) ∧ m_nc h' ≤ 601024 ∧ m_ns h' ≤ 7293034 := by
  obtain ⟨hC, hE, a1, a2, a3, a4, a5, a6, a7, a8, a9⟩ := init_rr n xs
  have eL : m_gi (am_h0 n xs) 1 1 0 = nI n := rfl
  obtain ⟨h', b1, b2, b3⟩ := law_loop hn eL 5000 0 (m_al hE 71 1) (by omega) (by omega) a7 (by omega) (by omega) ⟨0, 0, 0, 0, 0, a6⟩
  rw [Nat.mul_zero, nI_0] at b1
  refine ⟨h', ?_, by omega, by omega⟩
  rw [f_L_law, new_eq, a2, a1, bW_rt, new_eq, a3, a4, bW_rt, new_eq, a5, b1]
  rfl
