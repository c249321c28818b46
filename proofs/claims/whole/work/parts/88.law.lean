/-! ## the law's cases -/
abbrev LRc : Type := Nat × Nat → Option (Nat × Nat) → Option (Nat × Nat) → Option (Nat × Nat) → Int32 → am_H → am_R
def LwC (h : am_H) (i : Nat) (v1 v2 v3 v4 : Int32) : Prop := ∀ h', m_gi h' 1 = m_gi h 1 → (∀ K : Int32 → am_R, m_scr (nI i + 1) h' K = K v1) ∧ (∀ K : Int32 → am_R, m_scr (nI i + 2) h' K = K v2) ∧ (∀ K : Int32 → am_R, m_scr (nI i + 3) h' K = K v3) ∧ ∀ K : Int32 → am_R, m_scr (nI i + 4) h' K = K v4
def LwS (rc : LRc) (h : am_H) (i : Nat) (r : am_R) : Prop := ∃ h2, r = rc (1, 0) (some (69, 0)) (some (70, 0)) (some (71, 0)) (nI (i + 5)) h2 ∧ m_gi h2 1 = m_gi h 1 ∧ m_nc h2 ≤ m_nc h + 2 ∧ m_ns h2 ≤ m_ns h + 20 ∧ ∃ W Cn Tn Sn Qn, RR W Cn Tn Sn Qn h2
theorem lgc {x : Int64} : lg_cmp x x = 0 := by
  unfold lg_cmp
  rw [if_neg (fun z => Int64.lt_irrefl z), if_pos rfl]
theorem lc_208 {W Cn Tn Sn Qn : Nat} {h : am_H} (R : RR W Cn Tn Sn Qn h) (rc : LRc) (i : Nat) (v1 v2 v3 v4 : Int32) (S : LwC h i v1 v2 v3 v4) : LwS rc h i (f_L_law_208 rc (1, 0) (some (69, 0)) (some (70, 0)) (some (71, 0)) (nI i) h) := by
  have nI5 : nI i + (5 : Int32) = nI (i + 5) := nI_add i 5
  obtain ⟨h1, k, h2, b, eL, eM, t, o, s1, s2, c, n, Rr⟩ := op_pass R v1
  refine ⟨h2, ?_, s2, c, n, Rr⟩
  rw [f_L_law_208, (S h rfl).1, eL, bI_ri, (S h1 s1).1, ao_70, eM, bI_ri, ao_70, r_thrown, bI_ri, t, if_pos rfl]
  by_cases hk : k = 0
  · rw [if_pos hk, aL_o, o hk, vI, if_pos lgc, f_L_law_261, f_L_law_2795, nI5]
  · rw [if_neg hk, f_L_law_261, f_L_law_2795, nI5]
theorem lc_264 {W Cn Tn Sn Qn : Nat} {h : am_H} (R : RR W Cn Tn Sn Qn h) (rc : LRc) (i : Nat) (v1 v2 v3 v4 : Int32) (S : LwC h i v1 v2 v3 v4) : LwS rc h i (f_L_law_264 rc (1, 0) (some (69, 0)) (some (70, 0)) (some (71, 0)) (nI i) h) := by
  have nI5 : nI i + (5 : Int32) = nI (i + 5) := nI_add i 5
  by_cases z : v3 = 0
  · obtain ⟨h1, k, h2, b, eL, eM, t, o, s1, s2, c, n, Rr⟩ := op_block R v1 v2 false
    rw [bI_f] at eL eM
    refine ⟨h2, ?_, s2, c, n, Rr⟩
    rw [f_L_law_264, (S h rfl).1, (S h rfl).2.1, (S h rfl).2.2.1, if_pos z, f_L_law_291, eL, bI_ri, (S h1 s1).1, (S h1 s1).2.1, (S h1 s1).2.2.1, if_pos z, f_L_law_324, ao_70, eM, bI_ri, ao_70, r_thrown, bI_ri, t, if_pos rfl]
    by_cases hk : k = 0
    · rw [if_pos hk, aL_o, o hk]
      by_cases hb : b = 0
      · rw [if_pos hb, f_L_law_358, vB, if_pos hb, if_pos lgc, f_L_law_364, f_L_law_2795, nI5]
      · rw [if_neg hb, f_L_law_358, vB, if_neg hb, if_pos lgc, f_L_law_364, f_L_law_2795, nI5]
    · rw [if_neg hk, f_L_law_364, f_L_law_2795, nI5]
  · obtain ⟨h1, k, h2, b, eL, eM, t, o, s1, s2, c, n, Rr⟩ := op_block R v1 v2 true
    rw [bI_t] at eL eM
    refine ⟨h2, ?_, s2, c, n, Rr⟩
    rw [f_L_law_264, (S h rfl).1, (S h rfl).2.1, (S h rfl).2.2.1, if_neg z, f_L_law_291, eL, bI_ri, (S h1 s1).1, (S h1 s1).2.1, (S h1 s1).2.2.1, if_neg z, f_L_law_324, ao_70, eM, bI_ri, ao_70, r_thrown, bI_ri, t, if_pos rfl]
    by_cases hk : k = 0
    · rw [if_pos hk, aL_o, o hk]
      by_cases hb : b = 0
      · rw [if_pos hb, f_L_law_358, vB, if_pos hb, if_pos lgc, f_L_law_364, f_L_law_2795, nI5]
      · rw [if_neg hb, f_L_law_358, vB, if_neg hb, if_pos lgc, f_L_law_364, f_L_law_2795, nI5]
    · rw [if_neg hk, f_L_law_364, f_L_law_2795, nI5]
theorem lc_367 {W Cn Tn Sn Qn : Nat} {h : am_H} (R : RR W Cn Tn Sn Qn h) (rc : LRc) (i : Nat) (v1 v2 v3 v4 : Int32) (S : LwC h i v1 v2 v3 v4) : LwS rc h i (f_L_law_367 rc (1, 0) (some (69, 0)) (some (70, 0)) (some (71, 0)) (nI i) h) := by
  have nI5 : nI i + (5 : Int32) = nI (i + 5) := nI_add i 5
  obtain ⟨h1, k, h2, b, eL, eM, t, o, s1, s2, c, n, Rr⟩ := op_same R v1 v2
  refine ⟨h2, ?_, s2, c, n, Rr⟩
  rw [f_L_law_367, (S h rfl).1, (S h rfl).2.1, eL, bI_ri, (S h1 s1).1, (S h1 s1).2.1, ao_70, eM, bI_ri, ao_70, r_thrown, bI_ri, t, if_pos rfl]
  by_cases hk : k = 0
  · rw [if_pos hk, aL_o, o hk]
    by_cases hb : b = 0
    · rw [if_pos hb, f_L_law_433, vB, if_pos hb, if_pos lgc, f_L_law_439, f_L_law_2795, nI5]
    · rw [if_neg hb, f_L_law_433, vB, if_neg hb, if_pos lgc, f_L_law_439, f_L_law_2795, nI5]
  · rw [if_neg hk, f_L_law_439, f_L_law_2795, nI5]
theorem lc_442 {W Cn Tn Sn Qn : Nat} {h : am_H} (R : RR W Cn Tn Sn Qn h) (rc : LRc) (i : Nat) (v1 v2 v3 v4 : Int32) (S : LwC h i v1 v2 v3 v4) : LwS rc h i (f_L_law_442 rc (1, 0) (some (69, 0)) (some (70, 0)) (some (71, 0)) (nI i) h) := by
  have nI5 : nI i + (5 : Int32) = nI (i + 5) := nI_add i 5
  obtain ⟨h1, k, h2, b, eL, eM, t, o, s1, s2, c, n, Rr⟩ := op_work R v1 v2
  refine ⟨h2, ?_, s2, c, n, Rr⟩
  rw [f_L_law_442, (S h rfl).1, (S h rfl).2.1, eL, bI_ri, (S h1 s1).1, (S h1 s1).2.1, ao_70, eM, bI_ri, ao_70, r_thrown, bI_ri, t, if_pos rfl]
  by_cases hk : k = 0
  · rw [if_pos hk, aL_o, o hk, vI, if_pos lgc, f_L_law_507, f_L_law_2795, nI5]
  · rw [if_neg hk, f_L_law_507, f_L_law_2795, nI5]
theorem lc_510 {W Cn Tn Sn Qn : Nat} {h : am_H} (R : RR W Cn Tn Sn Qn h) (rc : LRc) (i : Nat) (v1 v2 v3 v4 : Int32) (S : LwC h i v1 v2 v3 v4) : LwS rc h i (f_L_law_510 rc (1, 0) (some (69, 0)) (some (70, 0)) (some (71, 0)) (nI i) h) := by
  have nI5 : nI i + (5 : Int32) = nI (i + 5) := nI_add i 5
  obtain ⟨h1, k, h2, b, eL, eM, t, o, s1, s2, c, n, Rr⟩ := op_join R v1 v2
  refine ⟨h2, ?_, s2, c, n, Rr⟩
  rw [f_L_law_510, (S h rfl).1, (S h rfl).2.1, eL, bI_ri, (S h1 s1).1, (S h1 s1).2.1, ao_70, eM, bI_ri, ao_70, r_thrown, bI_ri, t, if_pos rfl]
  by_cases hk : k = 0
  · rw [if_pos hk, aL_o, o hk, vI, if_pos lgc, f_L_law_575, f_L_law_2795, nI5]
  · rw [if_neg hk, f_L_law_575, f_L_law_2795, nI5]
theorem lc_578 {W Cn Tn Sn Qn : Nat} {h : am_H} (R : RR W Cn Tn Sn Qn h) (rc : LRc) (i : Nat) (v1 v2 v3 v4 : Int32) (S : LwC h i v1 v2 v3 v4) : LwS rc h i (f_L_law_578 rc (1, 0) (some (69, 0)) (some (70, 0)) (some (71, 0)) (nI i) h) := by
  have nI5 : nI i + (5 : Int32) = nI (i + 5) := nI_add i 5
  obtain ⟨h1, k, h2, b, eL, eM, t, o, s1, s2, c, n, Rr⟩ := op_leave R v1 v2
  refine ⟨h2, ?_, s2, c, n, Rr⟩
  rw [f_L_law_578, (S h rfl).1, (S h rfl).2.1, eL, bI_ri, (S h1 s1).1, (S h1 s1).2.1, ao_70, eM, bI_ri, ao_70, r_thrown, bI_ri, t, if_pos rfl]
  by_cases hk : k = 0
  · rw [if_pos hk, aL_o, o hk, vI, if_pos lgc, f_L_law_643, f_L_law_2795, nI5]
  · rw [if_neg hk, f_L_law_643, f_L_law_2795, nI5]
theorem lc_646 {W Cn Tn Sn Qn : Nat} {h : am_H} (R : RR W Cn Tn Sn Qn h) (rc : LRc) (i : Nat) (v1 v2 v3 v4 : Int32) (S : LwC h i v1 v2 v3 v4) : LwS rc h i (f_L_law_646 rc (1, 0) (some (69, 0)) (some (70, 0)) (some (71, 0)) (nI i) h) := by
  have nI5 : nI i + (5 : Int32) = nI (i + 5) := nI_add i 5
  obtain ⟨h1, k, h2, b, eL, eM, t, o, s1, s2, c, n, Rr⟩ := op_chapter R v1
  refine ⟨h2, ?_, s2, c, n, Rr⟩
  rw [f_L_law_646, (S h rfl).1, eL, bI_ri, (S h1 s1).1, ao_70, eM, bI_ri, ao_70, r_thrown, bI_ri, t, if_pos rfl]
  by_cases hk : k = 0
  · rw [if_pos hk, aL_o, o hk, vI, if_pos lgc, f_L_law_699, f_L_law_2795, nI5]
  · rw [if_neg hk, f_L_law_699, f_L_law_2795, nI5]
theorem lc_702 {W Cn Tn Sn Qn : Nat} {h : am_H} (R : RR W Cn Tn Sn Qn h) (rc : LRc) (i : Nat) (v1 v2 v3 v4 : Int32) (S : LwC h i v1 v2 v3 v4) : LwS rc h i (f_L_law_702 rc (1, 0) (some (69, 0)) (some (70, 0)) (some (71, 0)) (nI i) h) := by
  have nI5 : nI i + (5 : Int32) = nI (i + 5) := nI_add i 5
  obtain ⟨h1, k, h2, b, eL, eM, t, o, s1, s2, c, n, Rr⟩ := op_post R v1
  refine ⟨h2, ?_, s2, c, n, Rr⟩
  rw [f_L_law_702, (S h rfl).1, eL, bI_ri, (S h1 s1).1, ao_70, eM, bI_ri, ao_70, r_thrown, bI_ri, t, if_pos rfl]
  by_cases hk : k = 0
  · rw [if_pos hk, aL_o, o hk, vI, if_pos lgc, f_L_law_755, f_L_law_2795, nI5]
  · rw [if_neg hk, f_L_law_755, f_L_law_2795, nI5]
theorem lc_758 {W Cn Tn Sn Qn : Nat} {h : am_H} (R : RR W Cn Tn Sn Qn h) (rc : LRc) (i : Nat) (v1 v2 v3 v4 : Int32) (S : LwC h i v1 v2 v3 v4) : LwS rc h i (f_L_law_758 rc (1, 0) (some (69, 0)) (some (70, 0)) (some (71, 0)) (nI i) h) := by
  have nI5 : nI i + (5 : Int32) = nI (i + 5) := nI_add i 5
  by_cases z : v2 = 0
  · obtain ⟨h1, k, h2, b, eL, eM, t, o, s1, s2, c, n, Rr⟩ := op_lock R v1 false
    rw [bI_f] at eL eM
    refine ⟨h2, ?_, s2, c, n, Rr⟩
    rw [f_L_law_758, (S h rfl).1, (S h rfl).2.1, if_pos z, f_L_law_779, eL, bI_ri, (S h1 s1).1, (S h1 s1).2.1, if_pos z, f_L_law_806, ao_70, eM, bI_ri, ao_70, r_thrown, bI_ri, t, if_pos rfl]
    by_cases hk : k = 0
    · rw [if_pos hk, aL_o, o hk]
      by_cases hb : b = 0
      · rw [if_pos hb, f_L_law_840, vB, if_pos hb, if_pos lgc, f_L_law_846, f_L_law_2795, nI5]
      · rw [if_neg hb, f_L_law_840, vB, if_neg hb, if_pos lgc, f_L_law_846, f_L_law_2795, nI5]
    · rw [if_neg hk, f_L_law_846, f_L_law_2795, nI5]
  · obtain ⟨h1, k, h2, b, eL, eM, t, o, s1, s2, c, n, Rr⟩ := op_lock R v1 true
    rw [bI_t] at eL eM
    refine ⟨h2, ?_, s2, c, n, Rr⟩
    rw [f_L_law_758, (S h rfl).1, (S h rfl).2.1, if_neg z, f_L_law_779, eL, bI_ri, (S h1 s1).1, (S h1 s1).2.1, if_neg z, f_L_law_806, ao_70, eM, bI_ri, ao_70, r_thrown, bI_ri, t, if_pos rfl]
    by_cases hk : k = 0
    · rw [if_pos hk, aL_o, o hk]
      by_cases hb : b = 0
      · rw [if_pos hb, f_L_law_840, vB, if_pos hb, if_pos lgc, f_L_law_846, f_L_law_2795, nI5]
      · rw [if_neg hb, f_L_law_840, vB, if_neg hb, if_pos lgc, f_L_law_846, f_L_law_2795, nI5]
    · rw [if_neg hk, f_L_law_846, f_L_law_2795, nI5]
theorem lc_849 {W Cn Tn Sn Qn : Nat} {h : am_H} (R : RR W Cn Tn Sn Qn h) (rc : LRc) (i : Nat) (v1 v2 v3 v4 : Int32) (S : LwC h i v1 v2 v3 v4) : LwS rc h i (f_L_law_849 rc (1, 0) (some (69, 0)) (some (70, 0)) (some (71, 0)) (nI i) h) := by
  have nI5 : nI i + (5 : Int32) = nI (i + 5) := nI_add i 5
  obtain ⟨h1, k, h2, b, eL, eM, t, o, s1, s2, c, n, Rr⟩ := op_collection R v1 v2
  refine ⟨h2, ?_, s2, c, n, Rr⟩
  rw [f_L_law_849, (S h rfl).1, (S h rfl).2.1, eL, bI_ri, (S h1 s1).1, (S h1 s1).2.1, ao_70, eM, bI_ri, ao_70, r_thrown, bI_ri, t, if_pos rfl]
  by_cases hk : k = 0
  · rw [if_pos hk, aL_o, o hk, vI, if_pos lgc, f_L_law_914, f_L_law_2795, nI5]
  · rw [if_neg hk, f_L_law_914, f_L_law_2795, nI5]
theorem lc_917 {W Cn Tn Sn Qn : Nat} {h : am_H} (R : RR W Cn Tn Sn Qn h) (rc : LRc) (i : Nat) (v1 v2 v3 v4 : Int32) (S : LwC h i v1 v2 v3 v4) : LwS rc h i (f_L_law_917 rc (1, 0) (some (69, 0)) (some (70, 0)) (some (71, 0)) (nI i) h) := by
  have nI5 : nI i + (5 : Int32) = nI (i + 5) := nI_add i 5
  obtain ⟨h1, k, h2, eL, eM, t, s1, s2, c, n, Rr⟩ := op_collect R v1 v2
  exact ⟨h2, by rw [f_L_law_917, (S h rfl).1, (S h rfl).2.1, eL, bI_ri, (S h1 s1).1, (S h1 s1).2.1, ao_70, eM, bV_rt, ao_70, r_thrown, bI_ri, t, if_pos rfl, f_L_law_2795, nI5], s2, c, n, Rr⟩
theorem lc_965 {W Cn Tn Sn Qn : Nat} {h : am_H} (R : RR W Cn Tn Sn Qn h) (rc : LRc) (i : Nat) (v1 v2 v3 v4 : Int32) (S : LwC h i v1 v2 v3 v4) : LwS rc h i (f_L_law_965 rc (1, 0) (some (69, 0)) (some (70, 0)) (some (71, 0)) (nI i) h) := by
  have nI5 : nI i + (5 : Int32) = nI (i + 5) := nI_add i 5
  obtain ⟨h1, k, h2, b, eL, eM, t, o, s1, s2, c, n, Rr⟩ := op_sees R v1 v2
  refine ⟨h2, ?_, s2, c, n, Rr⟩
  rw [f_L_law_965, (S h rfl).1, (S h rfl).2.1, eL, bI_ri, (S h1 s1).1, (S h1 s1).2.1, ao_70, eM, bI_ri, ao_70, r_thrown, bI_ri, t, if_pos rfl]
  by_cases hk : k = 0
  · rw [if_pos hk, aL_o, o hk]
    by_cases hb : b = 0
    · rw [if_pos hb, f_L_law_1031, vB, if_pos hb, if_pos lgc, f_L_law_1037, f_L_law_2795, nI5]
    · rw [if_neg hb, f_L_law_1031, vB, if_neg hb, if_pos lgc, f_L_law_1037, f_L_law_2795, nI5]
  · rw [if_neg hk, f_L_law_1037, f_L_law_2795, nI5]
theorem lc_1040 {W Cn Tn Sn Qn : Nat} {h : am_H} (R : RR W Cn Tn Sn Qn h) (rc : LRc) (i : Nat) (v1 v2 v3 v4 : Int32) (S : LwC h i v1 v2 v3 v4) : LwS rc h i (f_L_law_1040 rc (1, 0) (some (69, 0)) (some (70, 0)) (some (71, 0)) (nI i) h) := by
  have nI5 : nI i + (5 : Int32) = nI (i + 5) := nI_add i 5
  obtain ⟨h1, k, h2, b, eL, eM, t, o, s1, s2, c, n, Rr⟩ := op_owners R v1 v2
  refine ⟨h2, ?_, s2, c, n, Rr⟩
  rw [f_L_law_1040, (S h rfl).1, (S h rfl).2.1, eL, bI_ri, (S h1 s1).1, (S h1 s1).2.1, ao_70, eM, bI_ri, ao_70, r_thrown, bI_ri, t, if_pos rfl]
  by_cases hk : k = 0
  · rw [if_pos hk, aL_o, o hk, vI, if_pos lgc, f_L_law_1105, f_L_law_2795, nI5]
  · rw [if_neg hk, f_L_law_1105, f_L_law_2795, nI5]
theorem lc_1108 {W Cn Tn Sn Qn : Nat} {h : am_H} (R : RR W Cn Tn Sn Qn h) (rc : LRc) (i : Nat) (v1 v2 v3 v4 : Int32) (S : LwC h i v1 v2 v3 v4) : LwS rc h i (f_L_law_1108 rc (1, 0) (some (69, 0)) (some (70, 0)) (some (71, 0)) (nI i) h) := by
  have nI5 : nI i + (5 : Int32) = nI (i + 5) := nI_add i 5
  obtain ⟨h1, k, h2, b, eL, eM, t, o, s1, s2, c, n, Rr⟩ := op_tag R 
  refine ⟨h2, ?_, s2, c, n, Rr⟩
  rw [f_L_law_1108, eL, bI_ri, ao_70, eM, bI_ri, ao_70, r_thrown, bI_ri, t, if_pos rfl]
  by_cases hk : k = 0
  · rw [if_pos hk, aL_o, o hk, vI, if_pos lgc, f_L_law_1149, f_L_law_2795, nI5]
  · rw [if_neg hk, f_L_law_1149, f_L_law_2795, nI5]
theorem lc_1152 {W Cn Tn Sn Qn : Nat} {h : am_H} (R : RR W Cn Tn Sn Qn h) (rc : LRc) (i : Nat) (v1 v2 v3 v4 : Int32) (S : LwC h i v1 v2 v3 v4) : LwS rc h i (f_L_law_1152 rc (1, 0) (some (69, 0)) (some (70, 0)) (some (71, 0)) (nI i) h) := by
  have nI5 : nI i + (5 : Int32) = nI (i + 5) := nI_add i 5
  obtain ⟨h1, k, h2, b, eL, eM, t, o, s1, s2, c, n, Rr⟩ := op_make R v1
  refine ⟨h2, ?_, s2, c, n, Rr⟩
  rw [f_L_law_1152, (S h rfl).1, eL, bI_ri, (S h1 s1).1, ao_70, eM, bI_ri, ao_70, r_thrown, bI_ri, t, if_pos rfl]
  by_cases hk : k = 0
  · rw [if_pos hk, aL_o, o hk, vI, if_pos lgc, f_L_law_1205, f_L_law_2795, nI5]
  · rw [if_neg hk, f_L_law_1205, f_L_law_2795, nI5]
theorem lc_1208 {W Cn Tn Sn Qn : Nat} {h : am_H} (R : RR W Cn Tn Sn Qn h) (rc : LRc) (i : Nat) (v1 v2 v3 v4 : Int32) (S : LwC h i v1 v2 v3 v4) : LwS rc h i (f_L_law_1208 rc (1, 0) (some (69, 0)) (some (70, 0)) (some (71, 0)) (nI i) h) := by
  have nI5 : nI i + (5 : Int32) = nI (i + 5) := nI_add i 5
  obtain ⟨h1, k, h2, b, eL, eM, t, o, s1, s2, c, n, Rr⟩ := op_merge R v1 v2
  refine ⟨h2, ?_, s2, c, n, Rr⟩
  rw [f_L_law_1208, (S h rfl).1, (S h rfl).2.1, eL, bI_ri, (S h1 s1).1, (S h1 s1).2.1, ao_70, eM, bI_ri, ao_70, r_thrown, bI_ri, t, if_pos rfl]
  by_cases hk : k = 0
  · rw [if_pos hk, aL_o, o hk, vI, if_pos lgc, f_L_law_1273, f_L_law_2795, nI5]
  · rw [if_neg hk, f_L_law_1273, f_L_law_2795, nI5]
theorem lc_1276 {W Cn Tn Sn Qn : Nat} {h : am_H} (R : RR W Cn Tn Sn Qn h) (rc : LRc) (i : Nat) (v1 v2 v3 v4 : Int32) (S : LwC h i v1 v2 v3 v4) : LwS rc h i (f_L_law_1276 rc (1, 0) (some (69, 0)) (some (70, 0)) (some (71, 0)) (nI i) h) := by
  have nI5 : nI i + (5 : Int32) = nI (i + 5) := nI_add i 5
  by_cases z : v3 = 0
  · obtain ⟨h1, k, h2, b, eL, eM, t, o, s1, s2, c, n, Rr⟩ := op_parent R v1 v2 false
    rw [bI_f] at eL eM
    refine ⟨h2, ?_, s2, c, n, Rr⟩
    rw [f_L_law_1276, (S h rfl).1, (S h rfl).2.1, (S h rfl).2.2.1, if_pos z, f_L_law_1303, eL, bI_ri, (S h1 s1).1, (S h1 s1).2.1, (S h1 s1).2.2.1, if_pos z, f_L_law_1336, ao_70, eM, bI_ri, ao_70, r_thrown, bI_ri, t, if_pos rfl]
    by_cases hk : k = 0
    · rw [if_pos hk, aL_o, o hk]
      by_cases hb : b = 0
      · rw [if_pos hb, f_L_law_1370, vB, if_pos hb, if_pos lgc, f_L_law_1376, f_L_law_2795, nI5]
      · rw [if_neg hb, f_L_law_1370, vB, if_neg hb, if_pos lgc, f_L_law_1376, f_L_law_2795, nI5]
    · rw [if_neg hk, f_L_law_1376, f_L_law_2795, nI5]
  · obtain ⟨h1, k, h2, b, eL, eM, t, o, s1, s2, c, n, Rr⟩ := op_parent R v1 v2 true
    rw [bI_t] at eL eM
    refine ⟨h2, ?_, s2, c, n, Rr⟩
    rw [f_L_law_1276, (S h rfl).1, (S h rfl).2.1, (S h rfl).2.2.1, if_neg z, f_L_law_1303, eL, bI_ri, (S h1 s1).1, (S h1 s1).2.1, (S h1 s1).2.2.1, if_neg z, f_L_law_1336, ao_70, eM, bI_ri, ao_70, r_thrown, bI_ri, t, if_pos rfl]
    by_cases hk : k = 0
    · rw [if_pos hk, aL_o, o hk]
      by_cases hb : b = 0
      · rw [if_pos hb, f_L_law_1370, vB, if_pos hb, if_pos lgc, f_L_law_1376, f_L_law_2795, nI5]
      · rw [if_neg hb, f_L_law_1370, vB, if_neg hb, if_pos lgc, f_L_law_1376, f_L_law_2795, nI5]
    · rw [if_neg hk, f_L_law_1376, f_L_law_2795, nI5]
theorem lc_1379 {W Cn Tn Sn Qn : Nat} {h : am_H} (R : RR W Cn Tn Sn Qn h) (rc : LRc) (i : Nat) (v1 v2 v3 v4 : Int32) (S : LwC h i v1 v2 v3 v4) : LwS rc h i (f_L_law_1379 rc (1, 0) (some (69, 0)) (some (70, 0)) (some (71, 0)) (nI i) h) := by
  have nI5 : nI i + (5 : Int32) = nI (i + 5) := nI_add i 5
  obtain ⟨h1, k, h2, b, eL, eM, t, o, s1, s2, c, n, Rr⟩ := op_ofTag R v1 v2
  refine ⟨h2, ?_, s2, c, n, Rr⟩
  rw [f_L_law_1379, (S h rfl).1, (S h rfl).2.1, eL, bI_ri, (S h1 s1).1, (S h1 s1).2.1, ao_70, eM, bI_ri, ao_70, r_thrown, bI_ri, t, if_pos rfl]
  by_cases hk : k = 0
  · rw [if_pos hk, aL_o, o hk, vI, if_pos lgc, f_L_law_1444, f_L_law_2795, nI5]
  · rw [if_neg hk, f_L_law_1444, f_L_law_2795, nI5]
theorem lc_1447 {W Cn Tn Sn Qn : Nat} {h : am_H} (R : RR W Cn Tn Sn Qn h) (rc : LRc) (i : Nat) (v1 v2 v3 v4 : Int32) (S : LwC h i v1 v2 v3 v4) : LwS rc h i (f_L_law_1447 rc (1, 0) (some (69, 0)) (some (70, 0)) (some (71, 0)) (nI i) h) := by
  have nI5 : nI i + (5 : Int32) = nI (i + 5) := nI_add i 5
  by_cases z : v3 = 0
  · obtain ⟨h1, k, h2, b, eL, eM, t, o, s1, s2, c, n, Rr⟩ := op_put R v1 v2 false
    rw [bI_f] at eL eM
    refine ⟨h2, ?_, s2, c, n, Rr⟩
    rw [f_L_law_1447, (S h rfl).1, (S h rfl).2.1, (S h rfl).2.2.1, if_pos z, f_L_law_1474, eL, bI_ri, (S h1 s1).1, (S h1 s1).2.1, (S h1 s1).2.2.1, if_pos z, f_L_law_1507, ao_70, eM, bI_ri, ao_70, r_thrown, bI_ri, t, if_pos rfl]
    by_cases hk : k = 0
    · rw [if_pos hk, aL_o, o hk]
      by_cases hb : b = 0
      · rw [if_pos hb, f_L_law_1541, vB, if_pos hb, if_pos lgc, f_L_law_1547, f_L_law_2795, nI5]
      · rw [if_neg hb, f_L_law_1541, vB, if_neg hb, if_pos lgc, f_L_law_1547, f_L_law_2795, nI5]
    · rw [if_neg hk, f_L_law_1547, f_L_law_2795, nI5]
  · obtain ⟨h1, k, h2, b, eL, eM, t, o, s1, s2, c, n, Rr⟩ := op_put R v1 v2 true
    rw [bI_t] at eL eM
    refine ⟨h2, ?_, s2, c, n, Rr⟩
    rw [f_L_law_1447, (S h rfl).1, (S h rfl).2.1, (S h rfl).2.2.1, if_neg z, f_L_law_1474, eL, bI_ri, (S h1 s1).1, (S h1 s1).2.1, (S h1 s1).2.2.1, if_neg z, f_L_law_1507, ao_70, eM, bI_ri, ao_70, r_thrown, bI_ri, t, if_pos rfl]
    by_cases hk : k = 0
    · rw [if_pos hk, aL_o, o hk]
      by_cases hb : b = 0
      · rw [if_pos hb, f_L_law_1541, vB, if_pos hb, if_pos lgc, f_L_law_1547, f_L_law_2795, nI5]
      · rw [if_neg hb, f_L_law_1541, vB, if_neg hb, if_pos lgc, f_L_law_1547, f_L_law_2795, nI5]
    · rw [if_neg hk, f_L_law_1547, f_L_law_2795, nI5]
theorem lc_1550 {W Cn Tn Sn Qn : Nat} {h : am_H} (R : RR W Cn Tn Sn Qn h) (rc : LRc) (i : Nat) (v1 v2 v3 v4 : Int32) (S : LwC h i v1 v2 v3 v4) : LwS rc h i (f_L_law_1550 rc (1, 0) (some (69, 0)) (some (70, 0)) (some (71, 0)) (nI i) h) := by
  have nI5 : nI i + (5 : Int32) = nI (i + 5) := nI_add i 5
  obtain ⟨h1, k, h2, b, eL, eM, t, o, s1, s2, c, n, Rr⟩ := op_wave R v1
  refine ⟨h2, ?_, s2, c, n, Rr⟩
  rw [f_L_law_1550, (S h rfl).1, eL, bI_ri, (S h1 s1).1, ao_70, eM, bI_ri, ao_70, r_thrown, bI_ri, t, if_pos rfl]
  by_cases hk : k = 0
  · rw [if_pos hk, aL_o, o hk, vI, if_pos lgc, f_L_law_1603, f_L_law_2795, nI5]
  · rw [if_neg hk, f_L_law_1603, f_L_law_2795, nI5]
theorem lc_1606 {W Cn Tn Sn Qn : Nat} {h : am_H} (R : RR W Cn Tn Sn Qn h) (rc : LRc) (i : Nat) (v1 v2 v3 v4 : Int32) (S : LwC h i v1 v2 v3 v4) : LwS rc h i (f_L_law_1606 rc (1, 0) (some (69, 0)) (some (70, 0)) (some (71, 0)) (nI i) h) := by
  have nI5 : nI i + (5 : Int32) = nI (i + 5) := nI_add i 5
  obtain ⟨h1, h2, v, eL, eM, s1, s2, c, n, Rr⟩ := op_waiting R
  exact ⟨h2, by rw [f_L_law_1606, ao_69, eL, bI_ri, ao_70, eM, bI_ri, if_pos rfl, f_L_law_2795, nI5], s2, c, n, Rr⟩
theorem lc_1619 {W Cn Tn Sn Qn : Nat} {h : am_H} (R : RR W Cn Tn Sn Qn h) (rc : LRc) (i : Nat) (v1 v2 v3 v4 : Int32) (S : LwC h i v1 v2 v3 v4) : LwS rc h i (f_L_law_1619 rc (1, 0) (some (69, 0)) (some (70, 0)) (some (71, 0)) (nI i) h) := by
  have nI5 : nI i + (5 : Int32) = nI (i + 5) := nI_add i 5
  by_cases z : v2 = 0
  · obtain ⟨h1, k, h2, b, eL, eM, t, o, s1, s2, c, n, Rr⟩ := op_under R v1 false
    rw [bI_f] at eL eM
    refine ⟨h2, ?_, s2, c, n, Rr⟩
    rw [f_L_law_1619, (S h rfl).1, (S h rfl).2.1, if_pos z, f_L_law_1640, eL, bI_ri, (S h1 s1).1, (S h1 s1).2.1, if_pos z, f_L_law_1667, ao_70, eM, bI_ri, ao_70, r_thrown, bI_ri, t, if_pos rfl]
    by_cases hk : k = 0
    · rw [if_pos hk, aL_o, o hk, vI, if_pos lgc, f_L_law_1700, f_L_law_2795, nI5]
    · rw [if_neg hk, f_L_law_1700, f_L_law_2795, nI5]
  · obtain ⟨h1, k, h2, b, eL, eM, t, o, s1, s2, c, n, Rr⟩ := op_under R v1 true
    rw [bI_t] at eL eM
    refine ⟨h2, ?_, s2, c, n, Rr⟩
    rw [f_L_law_1619, (S h rfl).1, (S h rfl).2.1, if_neg z, f_L_law_1640, eL, bI_ri, (S h1 s1).1, (S h1 s1).2.1, if_neg z, f_L_law_1667, ao_70, eM, bI_ri, ao_70, r_thrown, bI_ri, t, if_pos rfl]
    by_cases hk : k = 0
    · rw [if_pos hk, aL_o, o hk, vI, if_pos lgc, f_L_law_1700, f_L_law_2795, nI5]
    · rw [if_neg hk, f_L_law_1700, f_L_law_2795, nI5]
theorem lc_1703 {W Cn Tn Sn Qn : Nat} {h : am_H} (R : RR W Cn Tn Sn Qn h) (rc : LRc) (i : Nat) (v1 v2 v3 v4 : Int32) (S : LwC h i v1 v2 v3 v4) : LwS rc h i (f_L_law_1703 rc (1, 0) (some (69, 0)) (some (70, 0)) (some (71, 0)) (nI i) h) := by
  have nI5 : nI i + (5 : Int32) = nI (i + 5) := nI_add i 5
  obtain ⟨h1, k, h2, b, eL, eM, t, o, s1, s2, c, n, Rr⟩ := op_type R (((Int32.toInt64 v1) <<< (((32 : Int32)).toInt64 &&& 63)) ||| ((Int32.toInt64 v2) &&& (4294967295 : Int64))) v3
  refine ⟨h2, ?_, s2, c, n, Rr⟩
  rw [f_L_law_1703, (S h rfl).1, (S h rfl).2.1, (S h rfl).2.2.1, eL, bI_ri, (S h1 s1).1, (S h1 s1).2.1, (S h1 s1).2.2.1, ao_70, eM, bI_ri, ao_70, r_thrown, bI_ri, t, if_pos rfl]
  by_cases hk : k = 0
  · rw [if_pos hk, aL_o, o hk, vI, if_pos lgc, f_L_law_1800, f_L_law_2795, nI5]
  · rw [if_neg hk, f_L_law_1800, f_L_law_2795, nI5]
theorem lc_1803 {W Cn Tn Sn Qn : Nat} {h : am_H} (R : RR W Cn Tn Sn Qn h) (rc : LRc) (i : Nat) (v1 v2 v3 v4 : Int32) (S : LwC h i v1 v2 v3 v4) : LwS rc h i (f_L_law_1803 rc (1, 0) (some (69, 0)) (some (70, 0)) (some (71, 0)) (nI i) h) := by
  have nI5 : nI i + (5 : Int32) = nI (i + 5) := nI_add i 5
  obtain ⟨h1, h2, v, eL, eM, s1, s2, c, n, Rr⟩ := op_wipe R
  exact ⟨h2, by rw [f_L_law_1803, ao_69, eL, bI_ri, ao_70, eM, bI_ri, if_pos rfl, f_L_law_2795, nI5], s2, c, n, Rr⟩
theorem lc_1816 {W Cn Tn Sn Qn : Nat} {h : am_H} (R : RR W Cn Tn Sn Qn h) (rc : LRc) (i : Nat) (v1 v2 v3 v4 : Int32) (S : LwC h i v1 v2 v3 v4) : LwS rc h i (f_L_law_1816 rc (1, 0) (some (69, 0)) (some (70, 0)) (some (71, 0)) (nI i) h) := by
  have nI5 : nI i + (5 : Int32) = nI (i + 5) := nI_add i 5
  obtain ⟨h1, h2, v, eL, eM, s1, s2, c, n, Rr⟩ := op_fault R
  exact ⟨h2, by rw [f_L_law_1816, ao_69, eL, bI_ri, ao_70, eM, bI_ri, if_pos rfl, f_L_law_2795, nI5], s2, c, n, Rr⟩
theorem lc_1829 {W Cn Tn Sn Qn : Nat} {h : am_H} (R : RR W Cn Tn Sn Qn h) (rc : LRc) (i : Nat) (v1 v2 v3 v4 : Int32) (S : LwC h i v1 v2 v3 v4) : LwS rc h i (f_L_law_1829 rc (1, 0) (some (69, 0)) (some (70, 0)) (some (71, 0)) (nI i) h) := by
  have nI5 : nI i + (5 : Int32) = nI (i + 5) := nI_add i 5
  by_cases z : v2 = 0
  · obtain ⟨h1, k, h2, b, eL, eM, t, o, s1, s2, c, n, Rr⟩ := op_search R v1 false
    rw [bI_f] at eL eM
    refine ⟨h2, ?_, s2, c, n, Rr⟩
    rw [f_L_law_1829, (S h rfl).1, (S h rfl).2.1, if_pos z, f_L_law_1850, eL, bI_ri, (S h1 s1).1, (S h1 s1).2.1, if_pos z, f_L_law_1877, ao_70, eM, bI_ri, ao_70, r_thrown, bI_ri, t, if_pos rfl]
    by_cases hk : k = 0
    · rw [if_pos hk, aL_o, o hk, vI, if_pos lgc, f_L_law_1910, f_L_law_2795, nI5]
    · rw [if_neg hk, f_L_law_1910, f_L_law_2795, nI5]
  · obtain ⟨h1, k, h2, b, eL, eM, t, o, s1, s2, c, n, Rr⟩ := op_search R v1 true
    rw [bI_t] at eL eM
    refine ⟨h2, ?_, s2, c, n, Rr⟩
    rw [f_L_law_1829, (S h rfl).1, (S h rfl).2.1, if_neg z, f_L_law_1850, eL, bI_ri, (S h1 s1).1, (S h1 s1).2.1, if_neg z, f_L_law_1877, ao_70, eM, bI_ri, ao_70, r_thrown, bI_ri, t, if_pos rfl]
    by_cases hk : k = 0
    · rw [if_pos hk, aL_o, o hk, vI, if_pos lgc, f_L_law_1910, f_L_law_2795, nI5]
    · rw [if_neg hk, f_L_law_1910, f_L_law_2795, nI5]
theorem lc_1913 {W Cn Tn Sn Qn : Nat} {h : am_H} (R : RR W Cn Tn Sn Qn h) (rc : LRc) (i : Nat) (v1 v2 v3 v4 : Int32) (S : LwC h i v1 v2 v3 v4) : LwS rc h i (f_L_law_1913 rc (1, 0) (some (69, 0)) (some (70, 0)) (some (71, 0)) (nI i) h) := by
  have nI5 : nI i + (5 : Int32) = nI (i + 5) := nI_add i 5
  obtain ⟨h1, k, h2, b, eL, eM, t, o, s1, s2, c, n, Rr⟩ := op_result R v1 v2
  refine ⟨h2, ?_, s2, c, n, Rr⟩
  rw [f_L_law_1913, (S h rfl).1, (S h rfl).2.1, eL, bI_ri, (S h1 s1).1, (S h1 s1).2.1, ao_70, eM, bI_ri, ao_70, r_thrown, bI_ri, t, if_pos rfl]
  by_cases hk : k = 0
  · rw [if_pos hk, aL_o, o hk, vI, if_pos lgc, f_L_law_1978, f_L_law_2795, nI5]
  · rw [if_neg hk, f_L_law_1978, f_L_law_2795, nI5]
theorem lc_1981 {W Cn Tn Sn Qn : Nat} {h : am_H} (R : RR W Cn Tn Sn Qn h) (rc : LRc) (i : Nat) (v1 v2 v3 v4 : Int32) (S : LwC h i v1 v2 v3 v4) : LwS rc h i (f_L_law_1981 rc (1, 0) (some (69, 0)) (some (70, 0)) (some (71, 0)) (nI i) h) := by
  have nI5 : nI i + (5 : Int32) = nI (i + 5) := nI_add i 5
  obtain ⟨h1, k, h2, b, eL, eM, t, o, s1, s2, c, n, Rr⟩ := op_sign R v1 v2 v3 v4
  refine ⟨h2, ?_, s2, c, n, Rr⟩
  rw [f_L_law_1981, (S h rfl).1, (S h rfl).2.1, (S h rfl).2.2.1, (S h rfl).2.2.2, eL, bI_ri, (S h1 s1).1, (S h1 s1).2.1, (S h1 s1).2.2.1, (S h1 s1).2.2.2, ao_70, eM, bI_ri, ao_70, r_thrown, bI_ri, t, if_pos rfl]
  by_cases hk : k = 0
  · rw [if_pos hk, aL_o, o hk, vI, if_pos lgc, f_L_law_2070, f_L_law_2795, nI5]
  · rw [if_neg hk, f_L_law_2070, f_L_law_2795, nI5]
theorem lc_2073 {W Cn Tn Sn Qn : Nat} {h : am_H} (R : RR W Cn Tn Sn Qn h) (rc : LRc) (i : Nat) (v1 v2 v3 v4 : Int32) (S : LwC h i v1 v2 v3 v4) : LwS rc h i (f_L_law_2073 rc (1, 0) (some (69, 0)) (some (70, 0)) (some (71, 0)) (nI i) h) := by
  have nI5 : nI i + (5 : Int32) = nI (i + 5) := nI_add i 5
  obtain ⟨h1, k, h2, b, eL, eM, t, o, s1, s2, c, n, Rr⟩ := op_match R v1
  refine ⟨h2, ?_, s2, c, n, Rr⟩
  rw [f_L_law_2073, (S h rfl).1, eL, bI_ri, (S h1 s1).1, ao_70, eM, bI_ri, ao_70, r_thrown, bI_ri, t, if_pos rfl]
  by_cases hk : k = 0
  · rw [if_pos hk, aL_o, o hk, vI, if_pos lgc, f_L_law_2126, f_L_law_2795, nI5]
  · rw [if_neg hk, f_L_law_2126, f_L_law_2795, nI5]
theorem lc_2129 {W Cn Tn Sn Qn : Nat} {h : am_H} (R : RR W Cn Tn Sn Qn h) (rc : LRc) (i : Nat) (v1 v2 v3 v4 : Int32) (S : LwC h i v1 v2 v3 v4) : LwS rc h i (f_L_law_2129 rc (1, 0) (some (69, 0)) (some (70, 0)) (some (71, 0)) (nI i) h) := by
  have nI5 : nI i + (5 : Int32) = nI (i + 5) := nI_add i 5
  obtain ⟨h1, h2, v, eL, eM, s1, s2, c, n, Rr⟩ := op_matches R
  exact ⟨h2, by rw [f_L_law_2129, ao_69, eL, bI_ri, ao_70, eM, bI_ri, if_pos rfl, f_L_law_2795, nI5], s2, c, n, Rr⟩
theorem lc_2142 {W Cn Tn Sn Qn : Nat} {h : am_H} (R : RR W Cn Tn Sn Qn h) (rc : LRc) (i : Nat) (v1 v2 v3 v4 : Int32) (S : LwC h i v1 v2 v3 v4) : LwS rc h i (f_L_law_2142 rc (1, 0) (some (69, 0)) (some (70, 0)) (some (71, 0)) (nI i) h) := by
  have nI5 : nI i + (5 : Int32) = nI (i + 5) := nI_add i 5
  by_cases z : v2 = 0
  · obtain ⟨h1, k, h2, b, eL, eM, t, o, s1, s2, c, n, Rr⟩ := op_screen R v1 false
    rw [bI_f] at eL eM
    refine ⟨h2, ?_, s2, c, n, Rr⟩
    rw [f_L_law_2142, (S h rfl).1, (S h rfl).2.1, if_pos z, f_L_law_2163, eL, bI_ri, (S h1 s1).1, (S h1 s1).2.1, if_pos z, f_L_law_2190, ao_70, eM, bI_ri, ao_70, r_thrown, bI_ri, t, if_pos rfl]
    by_cases hk : k = 0
    · rw [if_pos hk, aL_o, o hk]
      by_cases hb : b = 0
      · rw [if_pos hb, f_L_law_2224, vB, if_pos hb, if_pos lgc, f_L_law_2230, f_L_law_2795, nI5]
      · rw [if_neg hb, f_L_law_2224, vB, if_neg hb, if_pos lgc, f_L_law_2230, f_L_law_2795, nI5]
    · rw [if_neg hk, f_L_law_2230, f_L_law_2795, nI5]
  · obtain ⟨h1, k, h2, b, eL, eM, t, o, s1, s2, c, n, Rr⟩ := op_screen R v1 true
    rw [bI_t] at eL eM
    refine ⟨h2, ?_, s2, c, n, Rr⟩
    rw [f_L_law_2142, (S h rfl).1, (S h rfl).2.1, if_neg z, f_L_law_2163, eL, bI_ri, (S h1 s1).1, (S h1 s1).2.1, if_neg z, f_L_law_2190, ao_70, eM, bI_ri, ao_70, r_thrown, bI_ri, t, if_pos rfl]
    by_cases hk : k = 0
    · rw [if_pos hk, aL_o, o hk]
      by_cases hb : b = 0
      · rw [if_pos hb, f_L_law_2224, vB, if_pos hb, if_pos lgc, f_L_law_2230, f_L_law_2795, nI5]
      · rw [if_neg hb, f_L_law_2224, vB, if_neg hb, if_pos lgc, f_L_law_2230, f_L_law_2795, nI5]
    · rw [if_neg hk, f_L_law_2230, f_L_law_2795, nI5]
theorem lc_2233 {W Cn Tn Sn Qn : Nat} {h : am_H} (R : RR W Cn Tn Sn Qn h) (rc : LRc) (i : Nat) (v1 v2 v3 v4 : Int32) (S : LwC h i v1 v2 v3 v4) : LwS rc h i (f_L_law_2233 rc (1, 0) (some (69, 0)) (some (70, 0)) (some (71, 0)) (nI i) h) := by
  have nI5 : nI i + (5 : Int32) = nI (i + 5) := nI_add i 5
  obtain ⟨h1, k, h2, b, eL, eM, t, o, s1, s2, c, n, Rr⟩ := op_comment R v1 v2 v3
  refine ⟨h2, ?_, s2, c, n, Rr⟩
  rw [f_L_law_2233, (S h rfl).1, (S h rfl).2.1, (S h rfl).2.2.1, eL, bI_ri, (S h1 s1).1, (S h1 s1).2.1, (S h1 s1).2.2.1, ao_70, eM, bI_ri, ao_70, r_thrown, bI_ri, t, if_pos rfl]
  by_cases hk : k = 0
  · rw [if_pos hk, aL_o, o hk, vI, if_pos lgc, f_L_law_2310, f_L_law_2795, nI5]
  · rw [if_neg hk, f_L_law_2310, f_L_law_2795, nI5]
theorem lc_2313 {W Cn Tn Sn Qn : Nat} {h : am_H} (R : RR W Cn Tn Sn Qn h) (rc : LRc) (i : Nat) (v1 v2 v3 v4 : Int32) (S : LwC h i v1 v2 v3 v4) : LwS rc h i (f_L_law_2313 rc (1, 0) (some (69, 0)) (some (70, 0)) (some (71, 0)) (nI i) h) := by
  have nI5 : nI i + (5 : Int32) = nI (i + 5) := nI_add i 5
  obtain ⟨h1, k, h2, b, eL, eM, t, o, s1, s2, c, n, Rr⟩ := op_change R v1 v2
  refine ⟨h2, ?_, s2, c, n, Rr⟩
  rw [f_L_law_2313, (S h rfl).1, (S h rfl).2.1, eL, bI_ri, (S h1 s1).1, (S h1 s1).2.1, ao_70, eM, bI_ri, ao_70, r_thrown, bI_ri, t, if_pos rfl]
  by_cases hk : k = 0
  · rw [if_pos hk, aL_o, o hk]
    by_cases hb : b = 0
    · rw [if_pos hb, f_L_law_2379, vB, if_pos hb, if_pos lgc, f_L_law_2385, f_L_law_2795, nI5]
    · rw [if_neg hb, f_L_law_2379, vB, if_neg hb, if_pos lgc, f_L_law_2385, f_L_law_2795, nI5]
  · rw [if_neg hk, f_L_law_2385, f_L_law_2795, nI5]
theorem lc_2388 {W Cn Tn Sn Qn : Nat} {h : am_H} (R : RR W Cn Tn Sn Qn h) (rc : LRc) (i : Nat) (v1 v2 v3 v4 : Int32) (S : LwC h i v1 v2 v3 v4) : LwS rc h i (f_L_law_2388 rc (1, 0) (some (69, 0)) (some (70, 0)) (some (71, 0)) (nI i) h) := by
  have nI5 : nI i + (5 : Int32) = nI (i + 5) := nI_add i 5
  obtain ⟨h1, k, h2, b, eL, eM, t, o, s1, s2, c, n, Rr⟩ := op_reads R v1 v2
  refine ⟨h2, ?_, s2, c, n, Rr⟩
  rw [f_L_law_2388, (S h rfl).1, (S h rfl).2.1, eL, bI_ri, (S h1 s1).1, (S h1 s1).2.1, ao_70, eM, bI_ri, ao_70, r_thrown, bI_ri, t, if_pos rfl]
  by_cases hk : k = 0
  · rw [if_pos hk, aL_o, o hk, vI, if_pos lgc, f_L_law_2453, f_L_law_2795, nI5]
  · rw [if_neg hk, f_L_law_2453, f_L_law_2795, nI5]
theorem lc_2456 {W Cn Tn Sn Qn : Nat} {h : am_H} (R : RR W Cn Tn Sn Qn h) (rc : LRc) (i : Nat) (v1 v2 v3 v4 : Int32) (S : LwC h i v1 v2 v3 v4) : LwS rc h i (f_L_law_2456 rc (1, 0) (some (69, 0)) (some (70, 0)) (some (71, 0)) (nI i) h) := by
  have nI5 : nI i + (5 : Int32) = nI (i + 5) := nI_add i 5
  obtain ⟨h1, k, h2, b, eL, eM, t, o, s1, s2, c, n, Rr⟩ := op_kudos R v1 v2
  refine ⟨h2, ?_, s2, c, n, Rr⟩
  rw [f_L_law_2456, (S h rfl).1, (S h rfl).2.1, eL, bI_ri, (S h1 s1).1, (S h1 s1).2.1, ao_70, eM, bI_ri, ao_70, r_thrown, bI_ri, t, if_pos rfl]
  by_cases hk : k = 0
  · rw [if_pos hk, aL_o, o hk, vI, if_pos lgc, f_L_law_2521, f_L_law_2795, nI5]
  · rw [if_neg hk, f_L_law_2521, f_L_law_2795, nI5]
theorem lc_2524 {W Cn Tn Sn Qn : Nat} {h : am_H} (R : RR W Cn Tn Sn Qn h) (rc : LRc) (i : Nat) (v1 v2 v3 v4 : Int32) (S : LwC h i v1 v2 v3 v4) : LwS rc h i (f_L_law_2524 rc (1, 0) (some (69, 0)) (some (70, 0)) (some (71, 0)) (nI i) h) := by
  have nI5 : nI i + (5 : Int32) = nI (i + 5) := nI_add i 5
  obtain ⟨h1, k, h2, b, eL, eM, t, o, s1, s2, c, n, Rr⟩ := op_liked R v1
  refine ⟨h2, ?_, s2, c, n, Rr⟩
  rw [f_L_law_2524, (S h rfl).1, eL, bI_ri, (S h1 s1).1, ao_70, eM, bI_ri, ao_70, r_thrown, bI_ri, t, if_pos rfl]
  by_cases hk : k = 0
  · rw [if_pos hk, aL_o, o hk, vI, if_pos lgc, f_L_law_2577, f_L_law_2795, nI5]
  · rw [if_neg hk, f_L_law_2577, f_L_law_2795, nI5]
theorem lc_2580 {W Cn Tn Sn Qn : Nat} {h : am_H} (R : RR W Cn Tn Sn Qn h) (rc : LRc) (i : Nat) (v1 v2 v3 v4 : Int32) (S : LwC h i v1 v2 v3 v4) : LwS rc h i (f_L_law_2580 rc (1, 0) (some (69, 0)) (some (70, 0)) (some (71, 0)) (nI i) h) := by
  have nI5 : nI i + (5 : Int32) = nI (i + 5) := nI_add i 5
  by_cases z : v2 = 0
  · obtain ⟨h1, k, h2, b, eL, eM, t, o, s1, s2, c, n, Rr⟩ := op_subscribe R v1 false v3
    rw [bI_f] at eL eM
    refine ⟨h2, ?_, s2, c, n, Rr⟩
    rw [f_L_law_2580, (S h rfl).1, (S h rfl).2.1, if_pos z, f_L_law_2601, (S h rfl).2.2.1, eL, bI_ri, (S h1 s1).1, (S h1 s1).2.1, if_pos z, f_L_law_2634, (S h1 s1).2.2.1, ao_70, eM, bI_ri, ao_70, r_thrown, bI_ri, t, if_pos rfl]
    by_cases hk : k = 0
    · rw [if_pos hk, aL_o, o hk]
      by_cases hb : b = 0
      · rw [if_pos hb, f_L_law_2674, vB, if_pos hb, if_pos lgc, f_L_law_2680, f_L_law_2795, nI5]
      · rw [if_neg hb, f_L_law_2674, vB, if_neg hb, if_pos lgc, f_L_law_2680, f_L_law_2795, nI5]
    · rw [if_neg hk, f_L_law_2680, f_L_law_2795, nI5]
  · obtain ⟨h1, k, h2, b, eL, eM, t, o, s1, s2, c, n, Rr⟩ := op_subscribe R v1 true v3
    rw [bI_t] at eL eM
    refine ⟨h2, ?_, s2, c, n, Rr⟩
    rw [f_L_law_2580, (S h rfl).1, (S h rfl).2.1, if_neg z, f_L_law_2601, (S h rfl).2.2.1, eL, bI_ri, (S h1 s1).1, (S h1 s1).2.1, if_neg z, f_L_law_2634, (S h1 s1).2.2.1, ao_70, eM, bI_ri, ao_70, r_thrown, bI_ri, t, if_pos rfl]
    by_cases hk : k = 0
    · rw [if_pos hk, aL_o, o hk]
      by_cases hb : b = 0
      · rw [if_pos hb, f_L_law_2674, vB, if_pos hb, if_pos lgc, f_L_law_2680, f_L_law_2795, nI5]
      · rw [if_neg hb, f_L_law_2674, vB, if_neg hb, if_pos lgc, f_L_law_2680, f_L_law_2795, nI5]
    · rw [if_neg hk, f_L_law_2680, f_L_law_2795, nI5]
theorem lc_2683 {W Cn Tn Sn Qn : Nat} {h : am_H} (R : RR W Cn Tn Sn Qn h) (rc : LRc) (i : Nat) (v1 v2 v3 v4 : Int32) (S : LwC h i v1 v2 v3 v4) : LwS rc h i (f_L_law_2683 rc (1, 0) (some (69, 0)) (some (70, 0)) (some (71, 0)) (nI i) h) := by
  have nI5 : nI i + (5 : Int32) = nI (i + 5) := nI_add i 5
  obtain ⟨h1, k, h2, b, eL, eM, t, o, s1, s2, c, n, Rr⟩ := op_news R v1
  refine ⟨h2, ?_, s2, c, n, Rr⟩
  rw [f_L_law_2683, (S h rfl).1, eL, bI_ri, (S h1 s1).1, ao_70, eM, bI_ri, ao_70, r_thrown, bI_ri, t, if_pos rfl]
  by_cases hk : k = 0
  · rw [if_pos hk, aL_o, o hk, vI, if_pos lgc, f_L_law_2736, f_L_law_2795, nI5]
  · rw [if_neg hk, f_L_law_2736, f_L_law_2795, nI5]
theorem lc_2739 {W Cn Tn Sn Qn : Nat} {h : am_H} (R : RR W Cn Tn Sn Qn h) (rc : LRc) (i : Nat) (v1 v2 v3 v4 : Int32) (S : LwC h i v1 v2 v3 v4) : LwS rc h i (f_L_law_2739 rc (1, 0) (some (69, 0)) (some (70, 0)) (some (71, 0)) (nI i) h) := by
  have nI5 : nI i + (5 : Int32) = nI (i + 5) := nI_add i 5
  obtain ⟨h1, k, h2, b, eL, eM, t, o, s1, s2, c, n, Rr⟩ := op_digest R v1
  refine ⟨h2, ?_, s2, c, n, Rr⟩
  rw [f_L_law_2739, (S h rfl).1, eL, bI_ri, (S h1 s1).1, ao_70, eM, bI_ri, ao_70, r_thrown, bI_ri, t, if_pos rfl]
  by_cases hk : k = 0
  · rw [if_pos hk, aL_o, o hk, vI, if_pos lgc, f_L_law_2792, f_L_law_2795, nI5]
  · rw [if_neg hk, f_L_law_2792, f_L_law_2795, nI5]
theorem scr_at {h' : am_H} {g1 : Nat → Nat → Int32} {L k : Nat} (e : m_gi h' 1 = g1) (eL : g1 1 0 = nI L) (hL : L ≤ 2560) (hk : k < L) (K : Int32 → am_R) : m_scr (nI k) h' K = K (g1 0 k) := by
  unfold m_scr
  rw [e, eL, nI_clamp (by omega), decide_eq_true ⟨nI_pos (by omega), nI_lt hk (by omega)⟩]
  rfl
theorem lt_m5 {L m : Nat} (hL : L < 10000) (hm : m < 10000) : (nI L - 5 < nI m) = (L < m + 5) := by
  have e : (nI L - 5).toInt = (L : Int) - 5 := by
    rw [Int32.toInt_sub, nI_toInt (by omega)]
    have : (5 : Int32).toInt = 5 := rfl
    rw [this]
    exact Int.bmod_eq_of_le (by omega) (by omega)
  apply propext
  rw [Int32.lt_iff_toInt_lt, e, nI_toInt (by omega)]
  omega
theorem law_loop {g1 : Nat → Nat → Int32} {L : Nat} (hL : L ≤ 2560) (eL : g1 1 0 = nI L) : ∀ (n j : Nat) (h : am_H), j ≤ 512 → 512 < j + n → m_gi h 1 = g1 → m_nc h ≤ 1000 + 2 * j → m_ns h ≤ 100000 + 20 * j → (∃ W Cn Tn Sn Qn, RR W Cn Tn Sn Qn h) →
    ∃ h', f_L_law_23 n (1, 0) (some (69, 0)) (some (70, 0)) (some (71, 0)) (nI (5 * j)) h = m_ri h' 1 ∧ m_nc h' ≤ 2024 ∧ m_ns h' ≤ 110240 := by
  intro n
  induction n with
  | zero => intro j h a b; omega
  | succ n ih =>
    intro j h hj hn e1 nc ns Rr
    obtain ⟨W, Cn, Tn, Sn, Qn, R⟩ := Rr
    have ln : ∀ K : Int32 → am_R, m_sln h K = K (nI L) := fun K => by
      unfold m_sln
      rw [e1, eL]
    rw [f_L_law_23, ln]
    by_cases hend : L < 5 * j + 5
    · rw [if_pos (show nI L - 5 < nI (5 * j) by rw [lt_m5 (by omega) (by omega)]; exact hend), rz_1]
      exact ⟨h, rfl, by omega, by omega⟩
    rw [if_neg (show ¬ nI L - 5 < nI (5 * j) by rw [lt_m5 (by omega) (by omega)]; exact hend), scr_at e1 eL hL (show 5 * j < L by omega)]
    have sc : LwC h (5 * j) (g1 0 (5 * j + 1)) (g1 0 (5 * j + 2)) (g1 0 (5 * j + 3)) (g1 0 (5 * j + 4)) := fun h' e' => by
      have e2 := e'.trans e1
      have s1 : nI (5 * j) + (1 : Int32) = nI (5 * j + 1) := nI_add _ 1
      have s2 : nI (5 * j) + (2 : Int32) = nI (5 * j + 2) := nI_add _ 2
      have s3 : nI (5 * j) + (3 : Int32) = nI (5 * j + 3) := nI_add _ 3
      have s4 : nI (5 * j) + (4 : Int32) = nI (5 * j + 4) := nI_add _ 4
      rw [s1, s2, s3, s4]
      exact ⟨scr_at e2 eL hL (by omega), scr_at e2 eL hL (by omega), scr_at e2 eL hL (by omega), scr_at e2 eL hL (by omega)⟩
    have fin : ∀ r : am_R, LwS (f_L_law_23 n) h (5 * j) r → ∃ h', r = m_ri h' 1 ∧ m_nc h' ≤ 2024 ∧ m_ns h' ≤ 110240 := fun r z => by
      obtain ⟨h2, z1, z2, z3, z4, z5⟩ := z
      obtain ⟨h', y1, y2, y3⟩ := ih (j + 1) h2 (by omega) (by omega) (z2.trans e1) (by omega) (by omega) z5
      exact ⟨h', z1.trans y1, y2, y3⟩
    by_cases c0 : g1 0 (5 * j) &&& 63 = 0
    · rw [if_pos c0]; exact fin _ (lc_208 R (f_L_law_23 n) (5 * j) _ _ _ _ sc)
    rw [if_neg c0]
    by_cases c1 : g1 0 (5 * j) &&& 63 = 1
    · rw [if_pos c1]; exact fin _ (lc_264 R (f_L_law_23 n) (5 * j) _ _ _ _ sc)
    rw [if_neg c1]
    by_cases c2 : g1 0 (5 * j) &&& 63 = 2
    · rw [if_pos c2]; exact fin _ (lc_367 R (f_L_law_23 n) (5 * j) _ _ _ _ sc)
    rw [if_neg c2]
    by_cases c3 : g1 0 (5 * j) &&& 63 = 3
    · rw [if_pos c3]; exact fin _ (lc_442 R (f_L_law_23 n) (5 * j) _ _ _ _ sc)
    rw [if_neg c3]
    by_cases c4 : g1 0 (5 * j) &&& 63 = 4
    · rw [if_pos c4]; exact fin _ (lc_510 R (f_L_law_23 n) (5 * j) _ _ _ _ sc)
    rw [if_neg c4]
    by_cases c5 : g1 0 (5 * j) &&& 63 = 5
    · rw [if_pos c5]; exact fin _ (lc_578 R (f_L_law_23 n) (5 * j) _ _ _ _ sc)
    rw [if_neg c5]
    by_cases c6 : g1 0 (5 * j) &&& 63 = 6
    · rw [if_pos c6]; exact fin _ (lc_646 R (f_L_law_23 n) (5 * j) _ _ _ _ sc)
    rw [if_neg c6]
    by_cases c7 : g1 0 (5 * j) &&& 63 = 7
    · rw [if_pos c7]; exact fin _ (lc_702 R (f_L_law_23 n) (5 * j) _ _ _ _ sc)
    rw [if_neg c7]
    by_cases c8 : g1 0 (5 * j) &&& 63 = 8
    · rw [if_pos c8]; exact fin _ (lc_758 R (f_L_law_23 n) (5 * j) _ _ _ _ sc)
    rw [if_neg c8]
    by_cases c9 : g1 0 (5 * j) &&& 63 = 9
    · rw [if_pos c9]; exact fin _ (lc_849 R (f_L_law_23 n) (5 * j) _ _ _ _ sc)
    rw [if_neg c9]
    by_cases c10 : g1 0 (5 * j) &&& 63 = 10
    · rw [if_pos c10]; exact fin _ (lc_917 R (f_L_law_23 n) (5 * j) _ _ _ _ sc)
    rw [if_neg c10]
    by_cases c11 : g1 0 (5 * j) &&& 63 = 11
    · rw [if_pos c11]; exact fin _ (lc_965 R (f_L_law_23 n) (5 * j) _ _ _ _ sc)
    rw [if_neg c11]
    by_cases c12 : g1 0 (5 * j) &&& 63 = 12
    · rw [if_pos c12]; exact fin _ (lc_1040 R (f_L_law_23 n) (5 * j) _ _ _ _ sc)
    rw [if_neg c12]
    by_cases c13 : g1 0 (5 * j) &&& 63 = 13
    · rw [if_pos c13]; exact fin _ (lc_1108 R (f_L_law_23 n) (5 * j) _ _ _ _ sc)
    rw [if_neg c13]
    by_cases c14 : g1 0 (5 * j) &&& 63 = 14
    · rw [if_pos c14]; exact fin _ (lc_1152 R (f_L_law_23 n) (5 * j) _ _ _ _ sc)
    rw [if_neg c14]
    by_cases c15 : g1 0 (5 * j) &&& 63 = 15
    · rw [if_pos c15]; exact fin _ (lc_1208 R (f_L_law_23 n) (5 * j) _ _ _ _ sc)
    rw [if_neg c15]
    by_cases c16 : g1 0 (5 * j) &&& 63 = 16
    · rw [if_pos c16]; exact fin _ (lc_1276 R (f_L_law_23 n) (5 * j) _ _ _ _ sc)
    rw [if_neg c16]
    by_cases c17 : g1 0 (5 * j) &&& 63 = 17
    · rw [if_pos c17]; exact fin _ (lc_1379 R (f_L_law_23 n) (5 * j) _ _ _ _ sc)
    rw [if_neg c17]
    by_cases c18 : g1 0 (5 * j) &&& 63 = 18
    · rw [if_pos c18]; exact fin _ (lc_1447 R (f_L_law_23 n) (5 * j) _ _ _ _ sc)
    rw [if_neg c18]
    by_cases c19 : g1 0 (5 * j) &&& 63 = 19
    · rw [if_pos c19]; exact fin _ (lc_1550 R (f_L_law_23 n) (5 * j) _ _ _ _ sc)
    rw [if_neg c19]
    by_cases c20 : g1 0 (5 * j) &&& 63 = 20
    · rw [if_pos c20]; exact fin _ (lc_1606 R (f_L_law_23 n) (5 * j) _ _ _ _ sc)
    rw [if_neg c20]
    by_cases c21 : g1 0 (5 * j) &&& 63 = 21
    · rw [if_pos c21]; exact fin _ (lc_1619 R (f_L_law_23 n) (5 * j) _ _ _ _ sc)
    rw [if_neg c21]
    by_cases c22 : g1 0 (5 * j) &&& 63 = 22
    · rw [if_pos c22]; exact fin _ (lc_1703 R (f_L_law_23 n) (5 * j) _ _ _ _ sc)
    rw [if_neg c22]
    by_cases c23 : g1 0 (5 * j) &&& 63 = 23
    · rw [if_pos c23]; exact fin _ (lc_1803 R (f_L_law_23 n) (5 * j) _ _ _ _ sc)
    rw [if_neg c23]
    by_cases c24 : g1 0 (5 * j) &&& 63 = 24
    · rw [if_pos c24]; exact fin _ (lc_1816 R (f_L_law_23 n) (5 * j) _ _ _ _ sc)
    rw [if_neg c24]
    by_cases c25 : g1 0 (5 * j) &&& 63 = 25
    · rw [if_pos c25]; exact fin _ (lc_1829 R (f_L_law_23 n) (5 * j) _ _ _ _ sc)
    rw [if_neg c25]
    by_cases c26 : g1 0 (5 * j) &&& 63 = 26
    · rw [if_pos c26]; exact fin _ (lc_1913 R (f_L_law_23 n) (5 * j) _ _ _ _ sc)
    rw [if_neg c26]
    by_cases c27 : g1 0 (5 * j) &&& 63 = 27
    · rw [if_pos c27]; exact fin _ (lc_1981 R (f_L_law_23 n) (5 * j) _ _ _ _ sc)
    rw [if_neg c27]
    by_cases c28 : g1 0 (5 * j) &&& 63 = 28
    · rw [if_pos c28]; exact fin _ (lc_2073 R (f_L_law_23 n) (5 * j) _ _ _ _ sc)
    rw [if_neg c28]
    by_cases c29 : g1 0 (5 * j) &&& 63 = 29
    · rw [if_pos c29]; exact fin _ (lc_2129 R (f_L_law_23 n) (5 * j) _ _ _ _ sc)
    rw [if_neg c29]
    by_cases c30 : g1 0 (5 * j) &&& 63 = 30
    · rw [if_pos c30]; exact fin _ (lc_2142 R (f_L_law_23 n) (5 * j) _ _ _ _ sc)
    rw [if_neg c30]
    by_cases c31 : g1 0 (5 * j) &&& 63 = 31
    · rw [if_pos c31]; exact fin _ (lc_2233 R (f_L_law_23 n) (5 * j) _ _ _ _ sc)
    rw [if_neg c31]
    by_cases c32 : g1 0 (5 * j) &&& 63 = 32
    · rw [if_pos c32]; exact fin _ (lc_2313 R (f_L_law_23 n) (5 * j) _ _ _ _ sc)
    rw [if_neg c32]
    by_cases c33 : g1 0 (5 * j) &&& 63 = 33
    · rw [if_pos c33]; exact fin _ (lc_2388 R (f_L_law_23 n) (5 * j) _ _ _ _ sc)
    rw [if_neg c33]
    by_cases c34 : g1 0 (5 * j) &&& 63 = 34
    · rw [if_pos c34]; exact fin _ (lc_2456 R (f_L_law_23 n) (5 * j) _ _ _ _ sc)
    rw [if_neg c34]
    by_cases c35 : g1 0 (5 * j) &&& 63 = 35
    · rw [if_pos c35]; exact fin _ (lc_2524 R (f_L_law_23 n) (5 * j) _ _ _ _ sc)
    rw [if_neg c35]
    by_cases c36 : g1 0 (5 * j) &&& 63 = 36
    · rw [if_pos c36]; exact fin _ (lc_2580 R (f_L_law_23 n) (5 * j) _ _ _ _ sc)
    rw [if_neg c36]
    by_cases c37 : g1 0 (5 * j) &&& 63 = 37
    · rw [if_pos c37]; exact fin _ (lc_2683 R (f_L_law_23 n) (5 * j) _ _ _ _ sc)
    rw [if_neg c37]
    by_cases c38 : g1 0 (5 * j) &&& 63 = 38
    · rw [if_pos c38]; exact fin _ (lc_2739 R (f_L_law_23 n) (5 * j) _ _ _ _ sc)
    rw [if_neg c38]
    exact fin _ ⟨h, by rw [f_L_law_2795, show nI (5 * j) + (5 : Int32) = nI (5 * j + 5) from nI_add _ 5], rfl, by omega, by omega, W, Cn, Tn, Sn, Qn, R⟩
