theorem am_mem {w : Cond} (i : Nat) (h : lw_tbl[i]? = some w) (hg : am_gw w = true) : w ∈ am_T := List.mem_filter.mpr ⟨List.mem_of_getElem? h, hg⟩
theorem wobj_i : Cond.instanceMethod objectInit ∈ am_T := List.mem_filter.mpr ⟨List.mem_of_getElem? (i := 57) (by decide +kernel), rfl⟩
theorem wobj_c : Cond.code objectInit ⟨#[0xb1]⟩ 1 none ∈ am_T := List.mem_filter.mpr ⟨List.mem_of_getElem? (i := 58) (by decide +kernel), rfl⟩
def m_max (x y : Int32) : Int32 := if x < y then y else x
def m_min (x y : Int32) : Int32 := if y < x then y else x
theorem sim_mmax {M : am_M} {d pc : Nat} {lv : List (Option am_V)} {st : List am_V} {h : am_H} {r : am_R} {ix i1 i2 i3 i4 : Nat} {x y : Int32} (d0 : decode M.2.1 pc = .ok (.invokestatic ix, 3)) (w1 : lw_tbl[i1]? = some (.methodLink M.1.cls ix Lib.Math.max.name)) (w2 : lw_tbl[i2]? = some (.static Lib.Math.max.name)) (w4 : lw_tbl[i4]? = some (.initialized "java/lang/Math")) (w3 : lw_tbl[i3]? = some (.code Lib.Math.max.name Lib.Math.max.code 2 (some .int))) (hd : 1 ≤ d) (hw : am_wd st ≤ 8) (k : Sim M d (pc + 3) lv (.inl (m_max x y) :: st) h r) : Sim M d pc lv (.inl y :: .inl x :: st) h r := by
  intro h' o e
  obtain ⟨q1, q2⟩ := k h' o e
  refine ⟨q1, fun l D dA base b n xs p e9 R s m args below meth c mc ms Qc XC C μ H locs cells slots ls a1 a2 a3 a4 a5 a6 a7 => ?_⟩
  have hts := C.2.2.2.2.2.2.2.1
  have hRm := C.2.2.2.2.2.2.2.2.2.2.1
  have hl9 : 36 * d ≤ R.locals := hRm.2.1
  exact va_mmax C.1 C.2.1 (by rw [C.2.2.1]; exact a3.1.1.symm) C.2.2.2.2.1 (am_Tw hts w1 rfl) (am_Tw hts w2 rfl) (am_Tw hts w4 rfl) (am_Tw hts w3 rfl) (Nat.le_trans hd hRm.1) (by rw [am_wd_eq]; omega) (Nat.le_trans (by omega) hRm.2.2.1) (Nat.le_trans (by omega) hRm.2.2.2) d0 (q2 l D dA base b n xs p e9 R s m args below meth c mc ms Qc XC C μ H locs cells slots ls a1 a2 a3 (a4.tail.tail.cons am_clo_i) a5 a6 a7)
theorem sim_mmin {M : am_M} {d pc : Nat} {lv : List (Option am_V)} {st : List am_V} {h : am_H} {r : am_R} {ix i1 i2 i3 i4 : Nat} {x y : Int32} (d0 : decode M.2.1 pc = .ok (.invokestatic ix, 3)) (w1 : lw_tbl[i1]? = some (.methodLink M.1.cls ix Lib.Math.min.name)) (w2 : lw_tbl[i2]? = some (.static Lib.Math.min.name)) (w4 : lw_tbl[i4]? = some (.initialized "java/lang/Math")) (w3 : lw_tbl[i3]? = some (.code Lib.Math.min.name Lib.Math.min.code 2 (some .int))) (hd : 1 ≤ d) (hw : am_wd st ≤ 8) (k : Sim M d (pc + 3) lv (.inl (m_min x y) :: st) h r) : Sim M d pc lv (.inl y :: .inl x :: st) h r := by
  intro h' o e
  obtain ⟨q1, q2⟩ := k h' o e
  refine ⟨q1, fun l D dA base b n xs p e9 R s m args below meth c mc ms Qc XC C μ H locs cells slots ls a1 a2 a3 a4 a5 a6 a7 => ?_⟩
  have hts := C.2.2.2.2.2.2.2.1
  have hRm := C.2.2.2.2.2.2.2.2.2.2.1
  have hl9 : 36 * d ≤ R.locals := hRm.2.1
  exact va_mmin C.1 C.2.1 (by rw [C.2.2.1]; exact a3.1.1.symm) C.2.2.2.2.1 (am_Tw hts w1 rfl) (am_Tw hts w2 rfl) (am_Tw hts w4 rfl) (am_Tw hts w3 rfl) (Nat.le_trans hd hRm.1) (by rw [am_wd_eq]; omega) (Nat.le_trans (by omega) hRm.2.2.1) (Nat.le_trans (by omega) hRm.2.2.2) d0 (q2 l D dA base b n xs p e9 R s m args below meth c mc ms Qc XC C μ H locs cells slots ls a1 a2 a3 (a4.tail.tail.cons am_clo_i) a5 a6 a7)
def m_sln (h : am_H) (K : Int32 → am_R) : am_R := K (m_gi h 1 1 0)
theorem sim_sln {M : am_M} {d pc : Nat} {lv : List (Option am_V)} {st : List am_V} {h : am_H} {K : Int32 → am_R} (d0 : decode M.2.1 pc = .ok (.arraylength, 1)) (k : ∀ v, Sim M d (pc + 1) lv (.inl v :: st) h (K v)) : Sim M d pc lv (.inr (.inr (some (1, 0))) :: st) h (m_sln h K) := sim_slen d0 (k _)
theorem simx_none {M : am_M} {d pc : Nat} {lv : List (Option am_V)} {h1 : am_H} {kx : Nat} : SimX M d pc lv h1 kx none := fun h' o e => by cases e
theorem simx_case {M : am_M} {d pc : Nat} {lv : List (Option am_V)} {h1 : am_H} {kx : Nat} {P : Prop} [Decidable P] {r1 r2 : am_R} (kt : P → SimX M d pc lv h1 kx r1) (kf : ¬ P → SimX M d pc lv h1 kx r2) : SimX M d pc lv h1 kx (if P then r1 else r2) := by
  by_cases q : P
  · rw [if_pos q]; exact kt q
  · rw [if_neg q]; exact kf q
theorem am_eIx {M : am_M} {d pc : Nat} {lv : List (Option am_V)} {r1 : am_R} {K : am_H → Int32 → am_R} {X : am_H → Nat → am_R} (k : ∀ h1 k, SimX M d pc lv h1 k (X (m_op h1) k)) : ∀ h1 k, r1 = some (h1, .inr k) → SimX M d pc lv h1 k (m_bIx r1 K X) := by
  rintro h1 k9 rfl
  exact k h1 k9
theorem am_eVx {M : am_M} {d pc : Nat} {lv : List (Option am_V)} {r1 : am_R} {K : am_H → am_R} {X : am_H → Nat → am_R} (k : ∀ h1 k, SimX M d pc lv h1 k (X (m_op h1) k)) : ∀ h1 k, r1 = some (h1, .inr k) → SimX M d pc lv h1 k (m_bVx r1 K X) := by
  rintro h1 k9 rfl
  exact k h1 k9
