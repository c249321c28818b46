/-! ## what a caller does with what comes back -/
def m_bJ (r : am_R) (k : am_H → Int32 → am_R) : am_R := match r with
  | some (h, .inl (some (.inl x))) => k h x
  | _ => none
def m_bW (r : am_R) (k : am_H → am_R) : am_R := match r with
  | some (h, .inl none) => k h
  | _ => none
section SimBind
variable {M : am_M} {d pc : Nat} {lv : List (Option am_V)} {rest : List am_V} {r1 : am_R}
theorem am_nI {K : am_H → Int32 → am_R} : r1 = none → m_bI r1 K = none := by rintro rfl; rfl
theorem am_nR {K : am_H → Option (Nat × Nat) → am_R} : r1 = none → m_bR r1 K = none := by rintro rfl; rfl
theorem am_nV {K : am_H → am_R} : r1 = none → m_bV r1 K = none := by rintro rfl; rfl
theorem am_nJ {K : am_H → Int32 → am_R} : r1 = none → m_bJ r1 K = none := by rintro rfl; rfl
theorem am_nW {K : am_H → am_R} : r1 = none → m_bW r1 K = none := by rintro rfl; rfl
theorem am_nIx {K : am_H → Int32 → am_R} {X : am_H → Nat → am_R} : r1 = none → m_bIx r1 K X = none := by rintro rfl; rfl
theorem am_nVx {K : am_H → am_R} {X : am_H → Nat → am_R} : r1 = none → m_bVx r1 K X = none := by rintro rfl; rfl
theorem am_xJ {K : am_H → Int32 → am_R} : ∀ h1 k, r1 = some (h1, .inr k) → m_bJ r1 K = none := by rintro h1 k rfl; rfl
theorem am_xW {K : am_H → am_R} : ∀ h1 k, r1 = some (h1, .inr k) → m_bW r1 K = none := by rintro h1 k rfl; rfl
theorem am_rI {K : am_H → Int32 → am_R} (k : ∀ h1 x, Sim M d pc lv (.inl x :: rest) h1 (K h1 x)) : ∀ h1 v, r1 = some (h1, .inl v) → Sim M d pc lv (v.toList ++ rest) h1 (m_bI r1 K) := by
  rintro h1 v rfl
  rcases v with _ | x | y | o
  · exact sim_none
  · exact k h1 x
  · exact sim_none
  · exact sim_none
theorem am_rJ {K : am_H → Int32 → am_R} (k : ∀ h1 x, Sim M d pc lv (.inl x :: rest) h1 (K h1 x)) : ∀ h1 v, r1 = some (h1, .inl v) → Sim M d pc lv (v.toList ++ rest) h1 (m_bJ r1 K) := by
  rintro h1 v rfl
  rcases v with _ | x | y | o
  · exact sim_none
  · exact k h1 x
  · exact sim_none
  · exact sim_none
theorem am_rIx {K : am_H → Int32 → am_R} {X : am_H → Nat → am_R} (k : ∀ h1 x, Sim M d pc lv (.inl x :: rest) h1 (K h1 x)) : ∀ h1 v, r1 = some (h1, .inl v) → Sim M d pc lv (v.toList ++ rest) h1 (m_bIx r1 K X) := by
  rintro h1 v rfl
  rcases v with _ | x | y | o
  · exact sim_none
  · exact k h1 x
  · exact sim_none
  · exact sim_none
theorem am_rR {K : am_H → Option (Nat × Nat) → am_R} (k : ∀ h1 x, Sim M d pc lv (.inr (.inr x) :: rest) h1 (K h1 x)) : ∀ h1 v, r1 = some (h1, .inl v) → Sim M d pc lv (v.toList ++ rest) h1 (m_bR r1 K) := by
  rintro h1 v rfl
  rcases v with _ | x | y | o
  · exact sim_none
  · exact sim_none
  · exact sim_none
  · exact k h1 o
theorem am_rV {K : am_H → am_R} (k : ∀ h1, Sim M d pc lv rest h1 (K h1)) : ∀ h1 v, r1 = some (h1, .inl v) → Sim M d pc lv (v.toList ++ rest) h1 (m_bV r1 K) := by
  rintro h1 v rfl
  rcases v with _ | x
  · exact k h1
  · exact sim_none
theorem am_rVx {K : am_H → am_R} {X : am_H → Nat → am_R} (k : ∀ h1, Sim M d pc lv rest h1 (K h1)) : ∀ h1 v, r1 = some (h1, .inl v) → Sim M d pc lv (v.toList ++ rest) h1 (m_bVx r1 K X) := by
  rintro h1 v rfl
  rcases v with _ | x
  · exact k h1
  · exact sim_none
theorem am_rW {K : am_H → am_R} (k : ∀ h1, Sim M d pc lv rest h1 (K h1)) : ∀ h1 v, r1 = some (h1, .inl v) → Sim M d pc lv (v.toList ++ rest) h1 (m_bW r1 K) := by
  rintro h1 v rfl
  rcases v with _ | x
  · exact k h1
  · exact sim_none
end SimBind
section SimExc
variable {y : MethodName} {cc : ByteArray} {nL : Nat} {ret : Option FieldType} {d pc : Nat} {lv : List (Option am_V)} {r1 : am_R}
theorem am_eI {K : am_H → Int32 → am_R} : ∀ h1 k, r1 = some (h1, .inr k) → SimX (y, cc, nL, ret, []) d pc lv h1 k (m_bI r1 K) := by rintro h1 k rfl; exact simx_out
theorem am_eR {K : am_H → Option (Nat × Nat) → am_R} : ∀ h1 k, r1 = some (h1, .inr k) → SimX (y, cc, nL, ret, []) d pc lv h1 k (m_bR r1 K) := by rintro h1 k rfl; exact simx_out
theorem am_eV {K : am_H → am_R} : ∀ h1 k, r1 = some (h1, .inr k) → SimX (y, cc, nL, ret, []) d pc lv h1 k (m_bV r1 K) := by rintro h1 k rfl; exact simx_out
end SimExc
section SimScr
variable {M : am_M} {d pc : Nat} {lv : List (Option am_V)} {st : List am_V} {h : am_H} {r : am_R}
theorem am_scr_in {i : Int32} {n : Nat} (hn : n ≤ 2560) (h1 : ¬ i < 0) (h2 : i < Int32.ofNat n) : vp_in i n := by
  obtain ⟨j, hj, rfl⟩ := nI_of h1
  have : j < n := (nI_ltI hj (by omega)).mp h2
  exact vp_in_nI this (by omega)
/-- the script's own rows -/
theorem sim_sld {i : Int32} (d0 : decode M.2.1 pc = .ok (.iaload, 1)) (k : Sim M d (pc + 1) lv (.inl (m_gi h 1 0 i.toNatClampNeg) :: st) h r) : Sim M d pc lv (.inl i :: .inr (.inr (some (1, 0))) :: st) h (m_ck (decide (¬ i < 0 ∧ i < m_gi h 1 1 0)) r) :=
  sim_ck fun ho => by
    obtain ⟨g1, g2⟩ := of_decide_eq_true ho
    intro h' o e
    obtain ⟨q1, q2⟩ := k h' o e
    refine ⟨q1, fun l D dA base b n xs p e R s m args below meth c mc ms Qc XC C μ H locs cells slots ls a1 a2 a3 a4 a5 a6 a7 => ?_⟩
    obtain ⟨L, b1, b2, b3, b4, b5, b6, b7, b8, b9⟩ := id a1
    have hWd := C.2.2.2.2.2.2.2.2.2.2.2
    have K := q2 l D dA base b n xs p e R s m args below meth c mc ms Qc XC C μ H locs cells slots ls a1 a2 a3 (a4.tail.tail.cons am_clo_i) a5 a6 a7
    rw [List.map_cons, show am_v μ (.inl (m_gi h 1 0 i.toNatClampNeg)) = .int (xs i.toNatClampNeg) from by show Value.int _ = _; rw [b7]] at K
    rw [List.map_cons, List.map_cons, show am_v μ (.inr (.inr (some (1, 0)))) = .ref b from by show Value.ref (μ (1, 0)) = _; rw [b6]]
    exact va_sld C.1 C.2.1 hWd.2.2.2.1.1 (Nat.lt_of_lt_of_le hWd.2.2.2.2.1 hWd.2.2.2.2.2.1) (Nat.not_le.mpr hWd.2.2.2.2.1) a2 (am_scr_in hWd.2.2.2.1.2 g1 (by rw [← b8]; exact g2)) d0 K
theorem sim_slen (d0 : decode M.2.1 pc = .ok (.arraylength, 1)) (k : Sim M d (pc + 1) lv (.inl (m_gi h 1 1 0) :: st) h r) : Sim M d pc lv (.inr (.inr (some (1, 0))) :: st) h r := by
  intro h' o e
  obtain ⟨q1, q2⟩ := k h' o e
  refine ⟨q1, fun l D dA base b n xs p e R s m args below meth c mc ms Qc XC C μ H locs cells slots ls a1 a2 a3 a4 a5 a6 a7 => ?_⟩
  obtain ⟨L, b1, b2, b3, b4, b5, b6, b7, b8, b9⟩ := id a1
  have hWd := C.2.2.2.2.2.2.2.2.2.2.2
  have K := q2 l D dA base b n xs p e R s m args below meth c mc ms Qc XC C μ H locs cells slots ls a1 a2 a3 (a4.tail.cons am_clo_i) a5 a6 a7
  rw [List.map_cons, show am_v μ (.inl (m_gi h 1 1 0)) = .int (Int32.ofNat n) from by show Value.int _ = _; rw [b8]] at K
  rw [List.map_cons, show am_v μ (.inr (.inr (some (1, 0)))) = .ref b from by show Value.ref (μ (1, 0)) = _; rw [b6]]
  exact va_slen C.1 C.2.1 hWd.2.2.2.1.1 (Nat.lt_of_lt_of_le hWd.2.2.2.2.1 hWd.2.2.2.2.2.1) (Nat.not_le.mpr hWd.2.2.2.2.1) a2 d0 K
end SimScr
