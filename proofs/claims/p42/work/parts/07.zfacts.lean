/-! ## rows that read and write the heap -/
theorem am_in_T {ws : List Cond} (h1 : ∀ w ∈ ws, w ∈ lw_tbl) (h2 : ∀ w ∈ ws, am_gw w = true) : ∀ w ∈ ws, w ∈ am_T := fun w hw => List.mem_filter.mpr ⟨h1 w hw, h2 w hw⟩
theorem am_u0 : ∀ w ∈ wsX00, w ∈ am_T := am_in_T (by decide +kernel) (by decide +kernel)
theorem am_u1 : ∀ w ∈ wsX10, w ∈ am_T := am_in_T (by decide +kernel) (by decide +kernel)
theorem am_u2 : ∀ w ∈ wsX20, w ∈ am_T := am_in_T (by decide +kernel) (by decide +kernel)
theorem am_u3 : ∀ w ∈ wsX30, w ∈ am_T := am_in_T (by decide +kernel) (by decide +kernel)
theorem am_u4 : ∀ w ∈ wsX40, w ∈ am_T := am_in_T (by decide +kernel) (by decide +kernel)
theorem am_u5 : ∀ w ∈ wsX50, w ∈ am_T := am_in_T (by decide +kernel) (by decide +kernel)
theorem am_u6 : ∀ w ∈ wsX60, w ∈ am_T := am_in_T (by decide +kernel) (by decide +kernel)
theorem am_u7 : ∀ w ∈ wsX70, w ∈ am_T := am_in_T (by decide +kernel) (by decide +kernel)
theorem am_u8 : ∀ w ∈ wsX80, w ∈ am_T := am_in_T (by decide +kernel) (by decide +kernel)
theorem am_u9 : ∀ w ∈ wsX90, w ∈ am_T := am_in_T (by decide +kernel) (by decide +kernel)
theorem am_u10 : ∀ w ∈ wsX100, w ∈ am_T := am_in_T (by decide +kernel) (by decide +kernel)
def am_refT : FieldType → Bool
  | .object _ => true
  | .array _ => true
  | _ => false
theorem am_clF {ci : Nat} {C : String} {T : u_T} {N : Nat} (hc : vwCl[ci]? = some (C, T, N)) : N = am_nf ci ∧ (∀ w ∈ u_ws C T N, w ∈ am_T) ∧ (∀ k, k < N → parseFieldDescriptor (T k).2.2.1 = some (am_tyX ci k)) ∧ (∀ a, a < N → ∀ b, b < N → a ≠ b → (T a).2.1 ≠ (T b).2.1) ∧ (∀ k, k < N → am_rf ci k = am_refT (am_tyX ci k)) := by
  match ci, hc with
  | 0, hc => cases hc; exact ⟨rfl, am_u0, tyX0_ok, nmX0, by decide +kernel⟩
  | 1, hc => cases hc; exact ⟨rfl, am_u1, tyX1_ok, nmX1, by decide +kernel⟩
  | 2, hc => cases hc; exact ⟨rfl, am_u2, tyX2_ok, nmX2, by decide +kernel⟩
  | 3, hc => cases hc; exact ⟨rfl, am_u3, tyX3_ok, nmX3, by decide +kernel⟩
  | 4, hc => cases hc; exact ⟨rfl, am_u4, tyX4_ok, nmX4, by decide +kernel⟩
  | 5, hc => cases hc; exact ⟨rfl, am_u5, tyX5_ok, nmX5, by decide +kernel⟩
  | 6, hc => cases hc; exact ⟨rfl, am_u6, tyX6_ok, nmX6, by decide +kernel⟩
  | 7, hc => cases hc; exact ⟨rfl, am_u7, tyX7_ok, nmX7, by decide +kernel⟩
  | 8, hc => cases hc; exact ⟨rfl, am_u8, tyX8_ok, nmX8, by decide +kernel⟩
  | 9, hc => cases hc; exact ⟨rfl, am_u9, tyX9_ok, nmX9, by decide +kernel⟩
  | 10, hc => cases hc; exact ⟨rfl, am_u10, tyX10_ok, nmX10, by decide +kernel⟩
  | k + 11, hc => simp at hc
