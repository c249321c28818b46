theorem dz_0 {a : Nat × Nat} (ha : am_isO a.1 10 = true) (x y z u : Int32) (h : am_H) : Dz (f_L_does (some a) 0 x y z u h) (f_X10_pass a x h) id := by
  constructor
  · intro h' v e
    rw [f_L_does, if_neg (by decide), f_L_early, if_pos (by decide), ao_a ha, e]
    rfl
  · intro h' e1 e e3
    rw [f_L_does, if_neg (by decide), f_L_early, if_pos (by decide), ao_a ha, e]
    rcases lt3 e3 with rfl | rfl | rfl <;> rfl
theorem dz_1 {a : Nat × Nat} (ha : am_isO a.1 10 = true) (x y z u : Int32) (h : am_H) : Dz (f_L_does (some a) 1 x y z u h) (f_X10_block a x y (bI (decide (z = 1))) h) b1 := by
  by_cases hb : z = 1
  · have hd : bI (decide (z = 1)) = 1 := by rw [decide_eq_true hb]; rfl
    constructor
    · intro h' v e
      rw [hd] at e
      rw [f_L_does, if_neg (by decide), f_L_early, if_neg (by decide), if_pos (by decide), if_pos hb, f_L_early_31, ao_a ha, e]
      show m_bIx (m_bI (f_L_bit v h') _) _ _ = _; rw [bit_b1]; rfl
    · intro h' e1 e e3
      rw [hd] at e
      rw [f_L_does, if_neg (by decide), f_L_early, if_neg (by decide), if_pos (by decide), if_pos hb, f_L_early_31, ao_a ha, e]
      rcases lt3 e3 with rfl | rfl | rfl <;> rfl
  · have hd : bI (decide (z = 1)) = 0 := by rw [decide_eq_false hb]; rfl
    constructor
    · intro h' v e
      rw [hd] at e
      rw [f_L_does, if_neg (by decide), f_L_early, if_neg (by decide), if_pos (by decide), if_neg hb, f_L_early_31, ao_a ha, e]
      show m_bIx (m_bI (f_L_bit v h') _) _ _ = _; rw [bit_b1]; rfl
    · intro h' e1 e e3
      rw [hd] at e
      rw [f_L_does, if_neg (by decide), f_L_early, if_neg (by decide), if_pos (by decide), if_neg hb, f_L_early_31, ao_a ha, e]
      rcases lt3 e3 with rfl | rfl | rfl <;> rfl
theorem dz_2 {a : Nat × Nat} (ha : am_isO a.1 10 = true) (x y z u : Int32) (h : am_H) : Dz (f_L_does (some a) 2 x y z u h) (f_X10_same a x y h) b1 := by
  constructor
  · intro h' v e
    rw [f_L_does, if_neg (by decide), f_L_early, if_neg (by decide), if_neg (by decide), if_pos (by decide), ao_a ha, e]
    show m_bIx (m_bI (f_L_bit v h') _) _ _ = _; rw [bit_b1]; rfl
  · intro h' e1 e e3
    rw [f_L_does, if_neg (by decide), f_L_early, if_neg (by decide), if_neg (by decide), if_pos (by decide), ao_a ha, e]
    rcases lt3 e3 with rfl | rfl | rfl <;> rfl
theorem dz_3 {a : Nat × Nat} (ha : am_isO a.1 10 = true) (x y z u : Int32) (h : am_H) : Dz (f_L_does (some a) 3 x y z u h) (f_X10_work a x y h) id := by
  constructor
  · intro h' v e
    rw [f_L_does, if_neg (by decide), f_L_early, if_neg (by decide), if_neg (by decide), if_neg (by decide), if_pos (by decide), ao_a ha, e]
    rfl
  · intro h' e1 e e3
    rw [f_L_does, if_neg (by decide), f_L_early, if_neg (by decide), if_neg (by decide), if_neg (by decide), if_pos (by decide), ao_a ha, e]
    rcases lt3 e3 with rfl | rfl | rfl <;> rfl
theorem dz_4 {a : Nat × Nat} (ha : am_isO a.1 10 = true) (x y z u : Int32) (h : am_H) : Dz (f_L_does (some a) 4 x y z u h) (f_X10_join a x y h) id := by
  constructor
  · intro h' v e
    rw [f_L_does, if_neg (by decide), f_L_early, if_neg (by decide), if_neg (by decide), if_neg (by decide), if_neg (by decide), if_pos (by decide), ao_a ha, e]
    rfl
  · intro h' e1 e e3
    rw [f_L_does, if_neg (by decide), f_L_early, if_neg (by decide), if_neg (by decide), if_neg (by decide), if_neg (by decide), if_pos (by decide), ao_a ha, e]
    rcases lt3 e3 with rfl | rfl | rfl <;> rfl
theorem dz_5 {a : Nat × Nat} (ha : am_isO a.1 10 = true) (x y z u : Int32) (h : am_H) : Dz (f_L_does (some a) 5 x y z u h) (f_X10_leave a x y h) id := by
  constructor
  · intro h' v e
    rw [f_L_does, if_neg (by decide), f_L_early, if_neg (by decide), if_neg (by decide), if_neg (by decide), if_neg (by decide), if_neg (by decide), if_pos (by decide), ao_a ha, e]
    rfl
  · intro h' e1 e e3
    rw [f_L_does, if_neg (by decide), f_L_early, if_neg (by decide), if_neg (by decide), if_neg (by decide), if_neg (by decide), if_neg (by decide), if_pos (by decide), ao_a ha, e]
    rcases lt3 e3 with rfl | rfl | rfl <;> rfl
theorem dz_6 {a : Nat × Nat} (ha : am_isO a.1 10 = true) (x y z u : Int32) (h : am_H) : Dz (f_L_does (some a) 6 x y z u h) (f_X10_chapter a x h) id := by
  constructor
  · intro h' v e
    rw [f_L_does, if_neg (by decide), f_L_early, if_neg (by decide), if_neg (by decide), if_neg (by decide), if_neg (by decide), if_neg (by decide), if_neg (by decide), if_pos (by decide), ao_a ha, e]
    rfl
  · intro h' e1 e e3
    rw [f_L_does, if_neg (by decide), f_L_early, if_neg (by decide), if_neg (by decide), if_neg (by decide), if_neg (by decide), if_neg (by decide), if_neg (by decide), if_pos (by decide), ao_a ha, e]
    rcases lt3 e3 with rfl | rfl | rfl <;> rfl
theorem dz_7 {a : Nat × Nat} (ha : am_isO a.1 10 = true) (x y z u : Int32) (h : am_H) : Dz (f_L_does (some a) 7 x y z u h) (f_X10_post a x h) id := by
  constructor
  · intro h' v e
    rw [f_L_does, if_neg (by decide), f_L_early, if_neg (by decide), if_neg (by decide), if_neg (by decide), if_neg (by decide), if_neg (by decide), if_neg (by decide), if_neg (by decide), if_pos (by decide), ao_a ha, e]
    rfl
  · intro h' e1 e e3
    rw [f_L_does, if_neg (by decide), f_L_early, if_neg (by decide), if_neg (by decide), if_neg (by decide), if_neg (by decide), if_neg (by decide), if_neg (by decide), if_neg (by decide), if_pos (by decide), ao_a ha, e]
    rcases lt3 e3 with rfl | rfl | rfl <;> rfl
theorem dz_8 {a : Nat × Nat} (ha : am_isO a.1 10 = true) (x y z u : Int32) (h : am_H) : Dz (f_L_does (some a) 8 x y z u h) (f_X10_lock a x (bI (decide (y = 1))) h) b1 := by
  by_cases hb : y = 1
  · have hd : bI (decide (y = 1)) = 1 := by rw [decide_eq_true hb]; rfl
    constructor
    · intro h' v e
      rw [hd] at e
      rw [f_L_does, if_neg (by decide), f_L_early, if_neg (by decide), if_neg (by decide), if_neg (by decide), if_neg (by decide), if_neg (by decide), if_neg (by decide), if_neg (by decide), if_neg (by decide), if_pos (by decide), if_pos hb, f_L_early_145, ao_a ha, e]
      show m_bIx (m_bI (f_L_bit v h') _) _ _ = _; rw [bit_b1]; rfl
    · intro h' e1 e e3
      rw [hd] at e
      rw [f_L_does, if_neg (by decide), f_L_early, if_neg (by decide), if_neg (by decide), if_neg (by decide), if_neg (by decide), if_neg (by decide), if_neg (by decide), if_neg (by decide), if_neg (by decide), if_pos (by decide), if_pos hb, f_L_early_145, ao_a ha, e]
      rcases lt3 e3 with rfl | rfl | rfl <;> rfl
  · have hd : bI (decide (y = 1)) = 0 := by rw [decide_eq_false hb]; rfl
    constructor
    · intro h' v e
      rw [hd] at e
      rw [f_L_does, if_neg (by decide), f_L_early, if_neg (by decide), if_neg (by decide), if_neg (by decide), if_neg (by decide), if_neg (by decide), if_neg (by decide), if_neg (by decide), if_neg (by decide), if_pos (by decide), if_neg hb, f_L_early_145, ao_a ha, e]
      show m_bIx (m_bI (f_L_bit v h') _) _ _ = _; rw [bit_b1]; rfl
    · intro h' e1 e e3
      rw [hd] at e
      rw [f_L_does, if_neg (by decide), f_L_early, if_neg (by decide), if_neg (by decide), if_neg (by decide), if_neg (by decide), if_neg (by decide), if_neg (by decide), if_neg (by decide), if_neg (by decide), if_pos (by decide), if_neg hb, f_L_early_145, ao_a ha, e]
      rcases lt3 e3 with rfl | rfl | rfl <;> rfl
theorem dz_9 {a : Nat × Nat} (ha : am_isO a.1 10 = true) (x y z u : Int32) (h : am_H) : Dz (f_L_does (some a) 9 x y z u h) (f_X10_collection a x y h) id := by
  constructor
  · intro h' v e
    rw [f_L_does, if_neg (by decide), f_L_early, if_neg (by decide), if_neg (by decide), if_neg (by decide), if_neg (by decide), if_neg (by decide), if_neg (by decide), if_neg (by decide), if_neg (by decide), if_neg (by decide), if_pos (by decide), ao_a ha, e]
    rfl
  · intro h' e1 e e3
    rw [f_L_does, if_neg (by decide), f_L_early, if_neg (by decide), if_neg (by decide), if_neg (by decide), if_neg (by decide), if_neg (by decide), if_neg (by decide), if_neg (by decide), if_neg (by decide), if_neg (by decide), if_pos (by decide), ao_a ha, e]
    rcases lt3 e3 with rfl | rfl | rfl <;> rfl
theorem dz_11 {a : Nat × Nat} (ha : am_isO a.1 10 = true) (x y z u : Int32) (h : am_H) : Dz (f_L_does (some a) 11 x y z u h) (f_X10_sees a x y h) b1 := by
  constructor
  · intro h' v e
    rw [f_L_does, if_neg (by decide), f_L_early, if_neg (by decide), if_neg (by decide), if_neg (by decide), if_neg (by decide), if_neg (by decide), if_neg (by decide), if_neg (by decide), if_neg (by decide), if_neg (by decide), if_neg (by decide), if_neg (by decide), if_pos (by decide), ao_a ha, e]
    show m_bIx (m_bI (f_L_bit v h') _) _ _ = _; rw [bit_b1]; rfl
  · intro h' e1 e e3
    rw [f_L_does, if_neg (by decide), f_L_early, if_neg (by decide), if_neg (by decide), if_neg (by decide), if_neg (by decide), if_neg (by decide), if_neg (by decide), if_neg (by decide), if_neg (by decide), if_neg (by decide), if_neg (by decide), if_neg (by decide), if_pos (by decide), ao_a ha, e]
    rcases lt3 e3 with rfl | rfl | rfl <;> rfl
theorem dz_12 {a : Nat × Nat} (ha : am_isO a.1 10 = true) (x y z u : Int32) (h : am_H) : Dz (f_L_does (some a) 12 x y z u h) (f_X10_owners a x y h) id := by
  constructor
  · intro h' v e
    rw [f_L_does, if_neg (by decide), f_L_early, if_neg (by decide), if_neg (by decide), if_neg (by decide), if_neg (by decide), if_neg (by decide), if_neg (by decide), if_neg (by decide), if_neg (by decide), if_neg (by decide), if_neg (by decide), if_neg (by decide), if_neg (by decide), if_pos (by decide), ao_a ha, e]
    rfl
  · intro h' e1 e e3
    rw [f_L_does, if_neg (by decide), f_L_early, if_neg (by decide), if_neg (by decide), if_neg (by decide), if_neg (by decide), if_neg (by decide), if_neg (by decide), if_neg (by decide), if_neg (by decide), if_neg (by decide), if_neg (by decide), if_neg (by decide), if_neg (by decide), if_pos (by decide), ao_a ha, e]
    rcases lt3 e3 with rfl | rfl | rfl <;> rfl
theorem dz_13 {a : Nat × Nat} (ha : am_isO a.1 10 = true) (x y z u : Int32) (h : am_H) : Dz (f_L_does (some a) 13 x y z u h) (f_X10_tag a  h) id := by
  constructor
  · intro h' v e
    rw [f_L_does, if_neg (by decide), f_L_early, if_neg (by decide), if_neg (by decide), if_neg (by decide), if_neg (by decide), if_neg (by decide), if_neg (by decide), if_neg (by decide), if_neg (by decide), if_neg (by decide), if_neg (by decide), if_neg (by decide), if_neg (by decide), if_neg (by decide), if_pos (by decide), ao_a ha, e]
    rfl
  · intro h' e1 e e3
    rw [f_L_does, if_neg (by decide), f_L_early, if_neg (by decide), if_neg (by decide), if_neg (by decide), if_neg (by decide), if_neg (by decide), if_neg (by decide), if_neg (by decide), if_neg (by decide), if_neg (by decide), if_neg (by decide), if_neg (by decide), if_neg (by decide), if_neg (by decide), if_pos (by decide), ao_a ha, e]
    rcases lt3 e3 with rfl | rfl | rfl <;> rfl
theorem dz_14 {a : Nat × Nat} (ha : am_isO a.1 10 = true) (x y z u : Int32) (h : am_H) : Dz (f_L_does (some a) 14 x y z u h) (f_X10_make a x h) id := by
  constructor
  · intro h' v e
    rw [f_L_does, if_neg (by decide), f_L_early, if_neg (by decide), if_neg (by decide), if_neg (by decide), if_neg (by decide), if_neg (by decide), if_neg (by decide), if_neg (by decide), if_neg (by decide), if_neg (by decide), if_neg (by decide), if_neg (by decide), if_neg (by decide), if_neg (by decide), if_neg (by decide), if_pos (by decide), ao_a ha, e]
    rfl
  · intro h' e1 e e3
    rw [f_L_does, if_neg (by decide), f_L_early, if_neg (by decide), if_neg (by decide), if_neg (by decide), if_neg (by decide), if_neg (by decide), if_neg (by decide), if_neg (by decide), if_neg (by decide), if_neg (by decide), if_neg (by decide), if_neg (by decide), if_neg (by decide), if_neg (by decide), if_neg (by decide), if_pos (by decide), ao_a ha, e]
    rcases lt3 e3 with rfl | rfl | rfl <;> rfl
theorem dz_15 {a : Nat × Nat} (ha : am_isO a.1 10 = true) (x y z u : Int32) (h : am_H) : Dz (f_L_does (some a) 15 x y z u h) (f_X10_merge a x y h) id := by
  constructor
  · intro h' v e
    rw [f_L_does, if_neg (by decide), f_L_early, if_neg (by decide), if_neg (by decide), if_neg (by decide), if_neg (by decide), if_neg (by decide), if_neg (by decide), if_neg (by decide), if_neg (by decide), if_neg (by decide), if_neg (by decide), if_neg (by decide), if_neg (by decide), if_neg (by decide), if_neg (by decide), if_neg (by decide), if_pos (by decide), ao_a ha, e]
    rfl
  · intro h' e1 e e3
    rw [f_L_does, if_neg (by decide), f_L_early, if_neg (by decide), if_neg (by decide), if_neg (by decide), if_neg (by decide), if_neg (by decide), if_neg (by decide), if_neg (by decide), if_neg (by decide), if_neg (by decide), if_neg (by decide), if_neg (by decide), if_neg (by decide), if_neg (by decide), if_neg (by decide), if_neg (by decide), if_pos (by decide), ao_a ha, e]
    rcases lt3 e3 with rfl | rfl | rfl <;> rfl
theorem dz_16 {a : Nat × Nat} (ha : am_isO a.1 10 = true) (x y z u : Int32) (h : am_H) : Dz (f_L_does (some a) 16 x y z u h) (f_X10_parent a x y (bI (decide (z = 1))) h) b1 := by
  by_cases hb : z = 1
  · have hd : bI (decide (z = 1)) = 1 := by rw [decide_eq_true hb]; rfl
    constructor
    · intro h' v e
      rw [hd] at e
      rw [f_L_does, if_neg (by decide), f_L_early, if_neg (by decide), if_neg (by decide), if_neg (by decide), if_neg (by decide), if_neg (by decide), if_neg (by decide), if_neg (by decide), if_neg (by decide), if_neg (by decide), if_neg (by decide), if_neg (by decide), if_neg (by decide), if_neg (by decide), if_neg (by decide), if_neg (by decide), if_neg (by decide), if_pos hb, f_L_early_273, ao_a ha, e]
      show m_bIx (m_bI (f_L_bit v h') _) _ _ = _; rw [bit_b1]; rfl
    · intro h' e1 e e3
      rw [hd] at e
      rw [f_L_does, if_neg (by decide), f_L_early, if_neg (by decide), if_neg (by decide), if_neg (by decide), if_neg (by decide), if_neg (by decide), if_neg (by decide), if_neg (by decide), if_neg (by decide), if_neg (by decide), if_neg (by decide), if_neg (by decide), if_neg (by decide), if_neg (by decide), if_neg (by decide), if_neg (by decide), if_neg (by decide), if_pos hb, f_L_early_273, ao_a ha, e]
      rcases lt3 e3 with rfl | rfl | rfl <;> rfl
  · have hd : bI (decide (z = 1)) = 0 := by rw [decide_eq_false hb]; rfl
    constructor
    · intro h' v e
      rw [hd] at e
      rw [f_L_does, if_neg (by decide), f_L_early, if_neg (by decide), if_neg (by decide), if_neg (by decide), if_neg (by decide), if_neg (by decide), if_neg (by decide), if_neg (by decide), if_neg (by decide), if_neg (by decide), if_neg (by decide), if_neg (by decide), if_neg (by decide), if_neg (by decide), if_neg (by decide), if_neg (by decide), if_neg (by decide), if_neg hb, f_L_early_273, ao_a ha, e]
      show m_bIx (m_bI (f_L_bit v h') _) _ _ = _; rw [bit_b1]; rfl
    · intro h' e1 e e3
      rw [hd] at e
      rw [f_L_does, if_neg (by decide), f_L_early, if_neg (by decide), if_neg (by decide), if_neg (by decide), if_neg (by decide), if_neg (by decide), if_neg (by decide), if_neg (by decide), if_neg (by decide), if_neg (by decide), if_neg (by decide), if_neg (by decide), if_neg (by decide), if_neg (by decide), if_neg (by decide), if_neg (by decide), if_neg (by decide), if_neg hb, f_L_early_273, ao_a ha, e]
      rcases lt3 e3 with rfl | rfl | rfl <;> rfl
theorem dz_17 {a : Nat × Nat} (ha : am_isO a.1 10 = true) (x y z u : Int32) (h : am_H) : Dz (f_L_does (some a) 17 x y z u h) (f_X10_ofTag a x y h) id := by
  constructor
  · intro h' v e
    rw [f_L_does, if_pos (by decide), if_neg (by decide), f_L_middle, if_pos (by decide), ao_a ha, e]
    rfl
  · intro h' e1 e e3
    rw [f_L_does, if_pos (by decide), if_neg (by decide), f_L_middle, if_pos (by decide), ao_a ha, e]
    rcases lt3 e3 with rfl | rfl | rfl <;> rfl
theorem dz_18 {a : Nat × Nat} (ha : am_isO a.1 10 = true) (x y z u : Int32) (h : am_H) : Dz (f_L_does (some a) 18 x y z u h) (f_X10_put a x y (bI (decide (z = 1))) h) b1 := by
  by_cases hb : z = 1
  · have hd : bI (decide (z = 1)) = 1 := by rw [decide_eq_true hb]; rfl
    constructor
    · intro h' v e
      rw [hd] at e
      rw [f_L_does, if_pos (by decide), if_neg (by decide), f_L_middle, if_neg (by decide), if_pos (by decide), if_pos hb, f_L_middle_35, ao_a ha, e]
      show m_bIx (m_bI (f_L_bit v h') _) _ _ = _; rw [bit_b1]; rfl
    · intro h' e1 e e3
      rw [hd] at e
      rw [f_L_does, if_pos (by decide), if_neg (by decide), f_L_middle, if_neg (by decide), if_pos (by decide), if_pos hb, f_L_middle_35, ao_a ha, e]
      rcases lt3 e3 with rfl | rfl | rfl <;> rfl
  · have hd : bI (decide (z = 1)) = 0 := by rw [decide_eq_false hb]; rfl
    constructor
    · intro h' v e
      rw [hd] at e
      rw [f_L_does, if_pos (by decide), if_neg (by decide), f_L_middle, if_neg (by decide), if_pos (by decide), if_neg hb, f_L_middle_35, ao_a ha, e]
      show m_bIx (m_bI (f_L_bit v h') _) _ _ = _; rw [bit_b1]; rfl
    · intro h' e1 e e3
      rw [hd] at e
      rw [f_L_does, if_pos (by decide), if_neg (by decide), f_L_middle, if_neg (by decide), if_pos (by decide), if_neg hb, f_L_middle_35, ao_a ha, e]
      rcases lt3 e3 with rfl | rfl | rfl <;> rfl
theorem dz_19 {a : Nat × Nat} (ha : am_isO a.1 10 = true) (x y z u : Int32) (h : am_H) : Dz (f_L_does (some a) 19 x y z u h) (f_X10_wave a x h) id := by
  constructor
  · intro h' v e
    rw [f_L_does, if_pos (by decide), if_neg (by decide), f_L_middle, if_neg (by decide), if_neg (by decide), if_pos (by decide), ao_a ha, e]
    rfl
  · intro h' e1 e e3
    rw [f_L_does, if_pos (by decide), if_neg (by decide), f_L_middle, if_neg (by decide), if_neg (by decide), if_pos (by decide), ao_a ha, e]
    rcases lt3 e3 with rfl | rfl | rfl <;> rfl
theorem dz_20 {a : Nat × Nat} (ha : am_isO a.1 10 = true) (x y z u : Int32) (h : am_H) : Dz (f_L_does (some a) 20 x y z u h) (f_X10_under a x (bI (decide (y = 1))) h) id := by
  by_cases hb : y = 1
  · have hd : bI (decide (y = 1)) = 1 := by rw [decide_eq_true hb]; rfl
    constructor
    · intro h' v e
      rw [hd] at e
      rw [f_L_does, if_pos (by decide), if_neg (by decide), f_L_middle, if_neg (by decide), if_neg (by decide), if_neg (by decide), if_pos (by decide), if_pos hb, f_L_middle_76, ao_a ha, e]
      rfl
    · intro h' e1 e e3
      rw [hd] at e
      rw [f_L_does, if_pos (by decide), if_neg (by decide), f_L_middle, if_neg (by decide), if_neg (by decide), if_neg (by decide), if_pos (by decide), if_pos hb, f_L_middle_76, ao_a ha, e]
      rcases lt3 e3 with rfl | rfl | rfl <;> rfl
  · have hd : bI (decide (y = 1)) = 0 := by rw [decide_eq_false hb]; rfl
    constructor
    · intro h' v e
      rw [hd] at e
      rw [f_L_does, if_pos (by decide), if_neg (by decide), f_L_middle, if_neg (by decide), if_neg (by decide), if_neg (by decide), if_pos (by decide), if_neg hb, f_L_middle_76, ao_a ha, e]
      rfl
    · intro h' e1 e e3
      rw [hd] at e
      rw [f_L_does, if_pos (by decide), if_neg (by decide), f_L_middle, if_neg (by decide), if_neg (by decide), if_neg (by decide), if_pos (by decide), if_neg hb, f_L_middle_76, ao_a ha, e]
      rcases lt3 e3 with rfl | rfl | rfl <;> rfl
theorem dz_21 {a : Nat × Nat} (ha : am_isO a.1 10 = true) (x y z u : Int32) (h : am_H) : Dz (f_L_does (some a) 21 x y z u h) (f_X10_type a (Int32.toInt64 x) y h) id := by
  constructor
  · intro h' v e
    rw [f_L_does, if_pos (by decide), if_neg (by decide), f_L_middle, if_neg (by decide), if_neg (by decide), if_neg (by decide), if_neg (by decide), if_pos (by decide), ao_a ha, e]
    rfl
  · intro h' e1 e e3
    rw [f_L_does, if_pos (by decide), if_neg (by decide), f_L_middle, if_neg (by decide), if_neg (by decide), if_neg (by decide), if_neg (by decide), if_pos (by decide), ao_a ha, e]
    rcases lt3 e3 with rfl | rfl | rfl <;> rfl
theorem dz_22 {a : Nat × Nat} (ha : am_isO a.1 10 = true) (x y z u : Int32) (h : am_H) : Dz (f_L_does (some a) 22 x y z u h) (f_X10_search a x (bI (decide (y = 1))) h) id := by
  by_cases hb : y = 1
  · have hd : bI (decide (y = 1)) = 1 := by rw [decide_eq_true hb]; rfl
    constructor
    · intro h' v e
      rw [hd] at e
      rw [f_L_does, if_pos (by decide), if_neg (by decide), f_L_middle, if_neg (by decide), if_neg (by decide), if_neg (by decide), if_neg (by decide), if_neg (by decide), if_pos (by decide), if_pos hb, f_L_middle_116, ao_a ha, e]
      rfl
    · intro h' e1 e e3
      rw [hd] at e
      rw [f_L_does, if_pos (by decide), if_neg (by decide), f_L_middle, if_neg (by decide), if_neg (by decide), if_neg (by decide), if_neg (by decide), if_neg (by decide), if_pos (by decide), if_pos hb, f_L_middle_116, ao_a ha, e]
      rcases lt3 e3 with rfl | rfl | rfl <;> rfl
  · have hd : bI (decide (y = 1)) = 0 := by rw [decide_eq_false hb]; rfl
    constructor
    · intro h' v e
      rw [hd] at e
      rw [f_L_does, if_pos (by decide), if_neg (by decide), f_L_middle, if_neg (by decide), if_neg (by decide), if_neg (by decide), if_neg (by decide), if_neg (by decide), if_pos (by decide), if_neg hb, f_L_middle_116, ao_a ha, e]
      rfl
    · intro h' e1 e e3
      rw [hd] at e
      rw [f_L_does, if_pos (by decide), if_neg (by decide), f_L_middle, if_neg (by decide), if_neg (by decide), if_neg (by decide), if_neg (by decide), if_neg (by decide), if_pos (by decide), if_neg hb, f_L_middle_116, ao_a ha, e]
      rcases lt3 e3 with rfl | rfl | rfl <;> rfl
theorem dz_23 {a : Nat × Nat} (ha : am_isO a.1 10 = true) (x y z u : Int32) (h : am_H) : Dz (f_L_does (some a) 23 x y z u h) (f_X10_result a x y h) id := by
  constructor
  · intro h' v e
    rw [f_L_does, if_pos (by decide), if_neg (by decide), f_L_middle, if_neg (by decide), if_neg (by decide), if_neg (by decide), if_neg (by decide), if_neg (by decide), if_neg (by decide), if_pos (by decide), ao_a ha, e]
    rfl
  · intro h' e1 e e3
    rw [f_L_does, if_pos (by decide), if_neg (by decide), f_L_middle, if_neg (by decide), if_neg (by decide), if_neg (by decide), if_neg (by decide), if_neg (by decide), if_neg (by decide), if_pos (by decide), ao_a ha, e]
    rcases lt3 e3 with rfl | rfl | rfl <;> rfl
theorem dz_24 {a : Nat × Nat} (ha : am_isO a.1 10 = true) (x y z u : Int32) (h : am_H) : Dz (f_L_does (some a) 24 x y z u h) (f_X10_sign a x y z u h) id := by
  constructor
  · intro h' v e
    rw [f_L_does, if_pos (by decide), if_neg (by decide), f_L_middle, if_neg (by decide), if_neg (by decide), if_neg (by decide), if_neg (by decide), if_neg (by decide), if_neg (by decide), if_neg (by decide), if_pos (by decide), ao_a ha, e]
    rfl
  · intro h' e1 e e3
    rw [f_L_does, if_pos (by decide), if_neg (by decide), f_L_middle, if_neg (by decide), if_neg (by decide), if_neg (by decide), if_neg (by decide), if_neg (by decide), if_neg (by decide), if_neg (by decide), if_pos (by decide), ao_a ha, e]
    rcases lt3 e3 with rfl | rfl | rfl <;> rfl
theorem dz_25 {a : Nat × Nat} (ha : am_isO a.1 10 = true) (x y z u : Int32) (h : am_H) : Dz (f_L_does (some a) 25 x y z u h) (f_X10_match a x h) id := by
  constructor
  · intro h' v e
    rw [f_L_does, if_pos (by decide), if_neg (by decide), f_L_middle, if_neg (by decide), if_neg (by decide), if_neg (by decide), if_neg (by decide), if_neg (by decide), if_neg (by decide), if_neg (by decide), if_neg (by decide), ao_a ha, e]
    rfl
  · intro h' e1 e e3
    rw [f_L_does, if_pos (by decide), if_neg (by decide), f_L_middle, if_neg (by decide), if_neg (by decide), if_neg (by decide), if_neg (by decide), if_neg (by decide), if_neg (by decide), if_neg (by decide), if_neg (by decide), ao_a ha, e]
    rcases lt3 e3 with rfl | rfl | rfl <;> rfl
theorem dz_26 {a : Nat × Nat} (ha : am_isO a.1 10 = true) (x y z u : Int32) (h : am_H) : Dz (f_L_does (some a) 26 x y z u h) (f_X10_screen a x (bI (decide (y = 1))) h) b1 := by
  by_cases hb : y = 1
  · have hd : bI (decide (y = 1)) = 1 := by rw [decide_eq_true hb]; rfl
    constructor
    · intro h' v e
      rw [hd] at e
      rw [f_L_does, if_pos (by decide), if_pos (by decide), if_pos (by decide), if_pos hb, f_L_does_56, ao_a ha, e]
      rw [bIx_ri, bit_b1]; rfl
    · intro h' e1 e e3
      rw [hd] at e
      rw [f_L_does, if_pos (by decide), if_pos (by decide), if_pos (by decide), if_pos hb, f_L_does_56, ao_a ha, e]
      rcases lt3 e3 with rfl | rfl | rfl <;> rfl
  · have hd : bI (decide (y = 1)) = 0 := by rw [decide_eq_false hb]; rfl
    constructor
    · intro h' v e
      rw [hd] at e
      rw [f_L_does, if_pos (by decide), if_pos (by decide), if_pos (by decide), if_neg hb, f_L_does_56, ao_a ha, e]
      rw [bIx_ri, bit_b1]; rfl
    · intro h' e1 e e3
      rw [hd] at e
      rw [f_L_does, if_pos (by decide), if_pos (by decide), if_pos (by decide), if_neg hb, f_L_does_56, ao_a ha, e]
      rcases lt3 e3 with rfl | rfl | rfl <;> rfl
theorem dz_27 {a : Nat × Nat} (ha : am_isO a.1 10 = true) (x y z u : Int32) (h : am_H) : Dz (f_L_does (some a) 27 x y z u h) (f_X10_comment a x y z h) id := by
  constructor
  · intro h' v e
    rw [f_L_does, if_pos (by decide), if_pos (by decide), if_neg (by decide), if_pos (by decide), ao_a ha, e]
    rfl
  · intro h' e1 e e3
    rw [f_L_does, if_pos (by decide), if_pos (by decide), if_neg (by decide), if_pos (by decide), ao_a ha, e]
    rcases lt3 e3 with rfl | rfl | rfl <;> rfl
theorem dz_28 {a : Nat × Nat} (ha : am_isO a.1 10 = true) (x y z u : Int32) (h : am_H) : Dz (f_L_does (some a) 28 x y z u h) (f_X10_change a x y h) b1 := by
  constructor
  · intro h' v e
    rw [f_L_does, if_pos (by decide), if_pos (by decide), if_neg (by decide), if_neg (by decide), if_pos (by decide), ao_a ha, e]
    rw [bIx_ri, bit_b1]; rfl
  · intro h' e1 e e3
    rw [f_L_does, if_pos (by decide), if_pos (by decide), if_neg (by decide), if_neg (by decide), if_pos (by decide), ao_a ha, e]
    rcases lt3 e3 with rfl | rfl | rfl <;> rfl
theorem dz_29 {a : Nat × Nat} (ha : am_isO a.1 10 = true) (x y z u : Int32) (h : am_H) : Dz (f_L_does (some a) 29 x y z u h) (f_X10_reads a x y h) id := by
  constructor
  · intro h' v e
    rw [f_L_does, if_pos (by decide), if_pos (by decide), if_neg (by decide), if_neg (by decide), if_neg (by decide), if_pos (by decide), ao_a ha, e]
    rfl
  · intro h' e1 e e3
    rw [f_L_does, if_pos (by decide), if_pos (by decide), if_neg (by decide), if_neg (by decide), if_neg (by decide), if_pos (by decide), ao_a ha, e]
    rcases lt3 e3 with rfl | rfl | rfl <;> rfl
theorem dz_30 {a : Nat × Nat} (ha : am_isO a.1 10 = true) (x y z u : Int32) (h : am_H) : Dz (f_L_does (some a) 30 x y z u h) (f_X10_kudos a x y h) id := by
  constructor
  · intro h' v e
    rw [f_L_does, if_pos (by decide), if_pos (by decide), if_neg (by decide), if_neg (by decide), if_neg (by decide), if_neg (by decide), if_pos (by decide), ao_a ha, e]
    rfl
  · intro h' e1 e e3
    rw [f_L_does, if_pos (by decide), if_pos (by decide), if_neg (by decide), if_neg (by decide), if_neg (by decide), if_neg (by decide), if_pos (by decide), ao_a ha, e]
    rcases lt3 e3 with rfl | rfl | rfl <;> rfl
theorem dz_31 {a : Nat × Nat} (ha : am_isO a.1 10 = true) (x y z u : Int32) (h : am_H) : Dz (f_L_does (some a) 31 x y z u h) (f_X10_liked a x h) id := by
  constructor
  · intro h' v e
    rw [f_L_does, if_pos (by decide), if_pos (by decide), if_neg (by decide), if_neg (by decide), if_neg (by decide), if_neg (by decide), if_neg (by decide), if_pos (by decide), ao_a ha, e]
    rfl
  · intro h' e1 e e3
    rw [f_L_does, if_pos (by decide), if_pos (by decide), if_neg (by decide), if_neg (by decide), if_neg (by decide), if_neg (by decide), if_neg (by decide), if_pos (by decide), ao_a ha, e]
    rcases lt3 e3 with rfl | rfl | rfl <;> rfl
theorem dz_32 {a : Nat × Nat} (ha : am_isO a.1 10 = true) (x y z u : Int32) (h : am_H) : Dz (f_L_does (some a) 32 x y z u h) (f_X10_subscribe a x (bI (decide (y = 1))) z h) b1 := by
  by_cases hb : y = 1
  · have hd : bI (decide (y = 1)) = 1 := by rw [decide_eq_true hb]; rfl
    constructor
    · intro h' v e
      rw [hd] at e
      rw [f_L_does, if_pos (by decide), if_pos (by decide), if_neg (by decide), if_neg (by decide), if_neg (by decide), if_neg (by decide), if_neg (by decide), if_neg (by decide), if_pos (by decide), if_pos hb, f_L_does_162, ao_a ha, e]
      rw [bIx_ri, bit_b1]; rfl
    · intro h' e1 e e3
      rw [hd] at e
      rw [f_L_does, if_pos (by decide), if_pos (by decide), if_neg (by decide), if_neg (by decide), if_neg (by decide), if_neg (by decide), if_neg (by decide), if_neg (by decide), if_pos (by decide), if_pos hb, f_L_does_162, ao_a ha, e]
      rcases lt3 e3 with rfl | rfl | rfl <;> rfl
  · have hd : bI (decide (y = 1)) = 0 := by rw [decide_eq_false hb]; rfl
    constructor
    · intro h' v e
      rw [hd] at e
      rw [f_L_does, if_pos (by decide), if_pos (by decide), if_neg (by decide), if_neg (by decide), if_neg (by decide), if_neg (by decide), if_neg (by decide), if_neg (by decide), if_pos (by decide), if_neg hb, f_L_does_162, ao_a ha, e]
      rw [bIx_ri, bit_b1]; rfl
    · intro h' e1 e e3
      rw [hd] at e
      rw [f_L_does, if_pos (by decide), if_pos (by decide), if_neg (by decide), if_neg (by decide), if_neg (by decide), if_neg (by decide), if_neg (by decide), if_neg (by decide), if_pos (by decide), if_neg hb, f_L_does_162, ao_a ha, e]
      rcases lt3 e3 with rfl | rfl | rfl <;> rfl
theorem dz_33 {a : Nat × Nat} (ha : am_isO a.1 10 = true) (x y z u : Int32) (h : am_H) : Dz (f_L_does (some a) 33 x y z u h) (f_X10_news a x h) id := by
  constructor
  · intro h' v e
    rw [f_L_does, if_pos (by decide), if_pos (by decide), if_neg (by decide), if_neg (by decide), if_neg (by decide), if_neg (by decide), if_neg (by decide), if_neg (by decide), if_neg (by decide), if_pos (by decide), ao_a ha, e]
    rfl
  · intro h' e1 e e3
    rw [f_L_does, if_pos (by decide), if_pos (by decide), if_neg (by decide), if_neg (by decide), if_neg (by decide), if_neg (by decide), if_neg (by decide), if_neg (by decide), if_neg (by decide), if_pos (by decide), ao_a ha, e]
    rcases lt3 e3 with rfl | rfl | rfl <;> rfl
theorem dz_34 {a : Nat × Nat} (ha : am_isO a.1 10 = true) (x y z u : Int32) (h : am_H) : Dz (f_L_does (some a) 34 x y z u h) (f_X10_digest a x h) id := by
  constructor
  · intro h' v e
    rw [f_L_does, if_pos (by decide), if_pos (by decide), if_neg (by decide), if_neg (by decide), if_neg (by decide), if_neg (by decide), if_neg (by decide), if_neg (by decide), if_neg (by decide), if_neg (by decide), ao_a ha, e]
    rfl
  · intro h' e1 e e3
    rw [f_L_does, if_pos (by decide), if_pos (by decide), if_neg (by decide), if_neg (by decide), if_neg (by decide), if_neg (by decide), if_neg (by decide), if_neg (by decide), if_neg (by decide), if_neg (by decide), ao_a ha, e]
    rcases lt3 e3 with rfl | rfl | rfl <;> rfl
theorem do_0 {b : Bool} {g h : am_H} (O : Ob b g h) (x y z u : Int32)  : DoP b d0 g h (f_L_does (some (rhoS b (69, 0))) 0 x y z u h) (f_X11_pass (70, 0) x) id := do_int (st_pass O x ) (dz_0 (isO_rhoS b) x y z u h)
theorem lo_0 (x y z u : Int32) : Loc (f_X11_pass (70, 0) x) := fun p q A => e_X11_pass id_ok A (70, 0) rfl x
theorem do_1 {b : Bool} {g h : am_H} (O : Ob b g h) (x y z u : Int32)  : DoP b d0 g h (f_L_does (some (rhoS b (69, 0))) 1 x y z u h) (f_X11_block (70, 0) x y (bI (decide (z = 1)))) b1 := do_bool (st_block O x y (decide (z = 1)) ) (dz_1 (isO_rhoS b) x y z u h)
theorem lo_1 (x y z u : Int32) : Loc (f_X11_block (70, 0) x y (bI (decide (z = 1)))) := fun p q A => e_X11_block id_ok A (70, 0) rfl x y (bI (decide (z = 1)))
theorem do_2 {b : Bool} {g h : am_H} (O : Ob b g h) (x y z u : Int32)  : DoP b d0 g h (f_L_does (some (rhoS b (69, 0))) 2 x y z u h) (f_X11_same (70, 0) x y) b1 := do_bool (st_same O x y ) (dz_2 (isO_rhoS b) x y z u h)
theorem lo_2 (x y z u : Int32) : Loc (f_X11_same (70, 0) x y) := fun p q A => e_X11_same id_ok A (70, 0) rfl x y
theorem do_3 {b : Bool} {g h : am_H} (O : Ob b g h) (x y z u : Int32) (hc : eqQA Sc (rhoS b) (dp 27 (dp 16 d0)) g h (f_X10_work (69, 0) x y g) (f_X10_work (rhoS b (69, 0)) x y h)) : DoP b (dp 27 (dp 16 d0)) g h (f_L_does (some (rhoS b (69, 0))) 3 x y z u h) (f_X11_work (70, 0) x y) id := do_int (st_work O x y hc) (dz_3 (isO_rhoS b) x y z u h)
theorem lo_3 (x y z u : Int32) : Loc (f_X11_work (70, 0) x y) := fun p q A => e_X11_work id_ok A (70, 0) rfl x y
theorem do_4 {b : Bool} {g h : am_H} (O : Ob b g h) (x y z u : Int32)  : DoP b d0 g h (f_L_does (some (rhoS b (69, 0))) 4 x y z u h) (f_X11_join (70, 0) x y) id := do_int (st_join O x y ) (dz_4 (isO_rhoS b) x y z u h)
theorem lo_4 (x y z u : Int32) : Loc (f_X11_join (70, 0) x y) := fun p q A => e_X11_join id_ok A (70, 0) rfl x y
theorem do_5 {b : Bool} {g h : am_H} (O : Ob b g h) (x y z u : Int32)  : DoP b d0 g h (f_L_does (some (rhoS b (69, 0))) 5 x y z u h) (f_X11_leave (70, 0) x y) id := do_int (st_leave O x y ) (dz_5 (isO_rhoS b) x y z u h)
theorem lo_5 (x y z u : Int32) : Loc (f_X11_leave (70, 0) x y) := fun p q A => e_X11_leave id_ok A (70, 0) rfl x y
theorem do_6 {b : Bool} {g h : am_H} (O : Ob b g h) (x y z u : Int32)  : DoP b d0 g h (f_L_does (some (rhoS b (69, 0))) 6 x y z u h) (f_X11_chapter (70, 0) x) id := do_int (st_chapter O x ) (dz_6 (isO_rhoS b) x y z u h)
theorem lo_6 (x y z u : Int32) : Loc (f_X11_chapter (70, 0) x) := fun p q A => e_X11_chapter id_ok A (70, 0) rfl x
theorem do_7 {b : Bool} {g h : am_H} (O : Ob b g h) (x y z u : Int32)  : DoP b d0 g h (f_L_does (some (rhoS b (69, 0))) 7 x y z u h) (f_X11_post (70, 0) x) id := do_int (st_post O x ) (dz_7 (isO_rhoS b) x y z u h)
theorem lo_7 (x y z u : Int32) : Loc (f_X11_post (70, 0) x) := fun p q A => e_X11_post id_ok A (70, 0) rfl x
theorem do_8 {b : Bool} {g h : am_H} (O : Ob b g h) (x y z u : Int32)  : DoP b d0 g h (f_L_does (some (rhoS b (69, 0))) 8 x y z u h) (f_X11_lock (70, 0) x (bI (decide (y = 1)))) b1 := do_bool (st_lock O x (decide (y = 1)) ) (dz_8 (isO_rhoS b) x y z u h)
theorem lo_8 (x y z u : Int32) : Loc (f_X11_lock (70, 0) x (bI (decide (y = 1)))) := fun p q A => e_X11_lock id_ok A (70, 0) rfl x (bI (decide (y = 1)))
theorem do_9 {b : Bool} {g h : am_H} (O : Ob b g h) (x y z u : Int32) (hc : eqQA Sc (rhoS b) (dp 28 d0) g h (f_X10_collection (69, 0) x y g) (f_X10_collection (rhoS b (69, 0)) x y h)) : DoP b (dp 28 d0) g h (f_L_does (some (rhoS b (69, 0))) 9 x y z u h) (f_X11_collection (70, 0) x y) id := do_int (st_collection O x y hc) (dz_9 (isO_rhoS b) x y z u h)
theorem lo_9 (x y z u : Int32) : Loc (f_X11_collection (70, 0) x y) := fun p q A => e_X11_collection id_ok A (70, 0) rfl x y
theorem do_11 {b : Bool} {g h : am_H} (O : Ob b g h) (x y z u : Int32)  : DoP b d0 g h (f_L_does (some (rhoS b (69, 0))) 11 x y z u h) (f_X11_sees (70, 0) x y) b1 := do_bool (st_sees O x y ) (dz_11 (isO_rhoS b) x y z u h)
theorem lo_11 (x y z u : Int32) : Loc (f_X11_sees (70, 0) x y) := fun p q A => e_X11_sees id_ok A (70, 0) rfl x y
theorem do_12 {b : Bool} {g h : am_H} (O : Ob b g h) (x y z u : Int32)  : DoP b d0 g h (f_L_does (some (rhoS b (69, 0))) 12 x y z u h) (f_X11_owners (70, 0) x y) id := do_int (st_owners O x y ) (dz_12 (isO_rhoS b) x y z u h)
theorem lo_12 (x y z u : Int32) : Loc (f_X11_owners (70, 0) x y) := fun p q A => e_X11_owners id_ok A (70, 0) rfl x y
theorem do_13 {b : Bool} {g h : am_H} (O : Ob b g h) (x y z u : Int32)  : DoP b d0 g h (f_L_does (some (rhoS b (69, 0))) 13 x y z u h) (f_X11_tag (70, 0) ) id := do_int (st_tag O  ) (dz_13 (isO_rhoS b) x y z u h)
theorem lo_13 (x y z u : Int32) : Loc (f_X11_tag (70, 0) ) := fun p q A => e_X11_tag id_ok A (70, 0) rfl 
theorem do_14 {b : Bool} {g h : am_H} (O : Ob b g h) (x y z u : Int32)  : DoP b d0 g h (f_L_does (some (rhoS b (69, 0))) 14 x y z u h) (f_X11_make (70, 0) x) id := do_int (st_make O x ) (dz_14 (isO_rhoS b) x y z u h)
theorem lo_14 (x y z u : Int32) : Loc (f_X11_make (70, 0) x) := fun p q A => e_X11_make id_ok A (70, 0) rfl x
theorem do_15 {b : Bool} {g h : am_H} (O : Ob b g h) (x y z u : Int32)  : DoP b d0 g h (f_L_does (some (rhoS b (69, 0))) 15 x y z u h) (f_X11_merge (70, 0) x y) id := do_int (st_merge O x y ) (dz_15 (isO_rhoS b) x y z u h)
theorem lo_15 (x y z u : Int32) : Loc (f_X11_merge (70, 0) x y) := fun p q A => e_X11_merge id_ok A (70, 0) rfl x y
theorem do_16 {b : Bool} {g h : am_H} (O : Ob b g h) (x y z u : Int32)  : DoP b d0 g h (f_L_does (some (rhoS b (69, 0))) 16 x y z u h) (f_X11_parent (70, 0) x y (bI (decide (z = 1)))) b1 := do_bool (st_parent O x y (decide (z = 1)) ) (dz_16 (isO_rhoS b) x y z u h)
theorem lo_16 (x y z u : Int32) : Loc (f_X11_parent (70, 0) x y (bI (decide (z = 1)))) := fun p q A => e_X11_parent id_ok A (70, 0) rfl x y (bI (decide (z = 1)))
theorem do_17 {b : Bool} {g h : am_H} (O : Ob b g h) (x y z u : Int32)  : DoP b d0 g h (f_L_does (some (rhoS b (69, 0))) 17 x y z u h) (f_X11_ofTag (70, 0) x y) id := do_int (st_ofTag O x y ) (dz_17 (isO_rhoS b) x y z u h)
theorem lo_17 (x y z u : Int32) : Loc (f_X11_ofTag (70, 0) x y) := fun p q A => e_X11_ofTag id_ok A (70, 0) rfl x y
theorem do_18 {b : Bool} {g h : am_H} (O : Ob b g h) (x y z u : Int32)  : DoP b d0 g h (f_L_does (some (rhoS b (69, 0))) 18 x y z u h) (f_X11_put (70, 0) x y (bI (decide (z = 1)))) b1 := do_bool (st_put O x y (decide (z = 1)) ) (dz_18 (isO_rhoS b) x y z u h)
theorem lo_18 (x y z u : Int32) : Loc (f_X11_put (70, 0) x y (bI (decide (z = 1)))) := fun p q A => e_X11_put id_ok A (70, 0) rfl x y (bI (decide (z = 1)))
theorem do_19 {b : Bool} {g h : am_H} (O : Ob b g h) (x y z u : Int32)  : DoP b d0 g h (f_L_does (some (rhoS b (69, 0))) 19 x y z u h) (f_X11_wave (70, 0) x) id := do_int (st_wave O x ) (dz_19 (isO_rhoS b) x y z u h)
theorem lo_19 (x y z u : Int32) : Loc (f_X11_wave (70, 0) x) := fun p q A => e_X11_wave id_ok A (70, 0) rfl x
theorem do_20 {b : Bool} {g h : am_H} (O : Ob b g h) (x y z u : Int32)  : DoP b d0 g h (f_L_does (some (rhoS b (69, 0))) 20 x y z u h) (f_X11_under (70, 0) x (bI (decide (y = 1)))) id := do_int (st_under O x (decide (y = 1)) ) (dz_20 (isO_rhoS b) x y z u h)
theorem lo_20 (x y z u : Int32) : Loc (f_X11_under (70, 0) x (bI (decide (y = 1)))) := fun p q A => e_X11_under id_ok A (70, 0) rfl x (bI (decide (y = 1)))
theorem do_21 {b : Bool} {g h : am_H} (O : Ob b g h) (x y z u : Int32)  : DoP b d0 g h (f_L_does (some (rhoS b (69, 0))) 21 x y z u h) (f_X11_type (70, 0) (Int32.toInt64 x) y) id := do_int (st_type O (Int32.toInt64 x) y ) (dz_21 (isO_rhoS b) x y z u h)
theorem lo_21 (x y z u : Int32) : Loc (f_X11_type (70, 0) (Int32.toInt64 x) y) := fun p q A => e_X11_type id_ok A (70, 0) rfl (Int32.toInt64 x) y
theorem do_22 {b : Bool} {g h : am_H} (O : Ob b g h) (x y z u : Int32)  : DoP b d0 g h (f_L_does (some (rhoS b (69, 0))) 22 x y z u h) (f_X11_search (70, 0) x (bI (decide (y = 1)))) id := do_int (st_search O x (decide (y = 1)) ) (dz_22 (isO_rhoS b) x y z u h)
theorem lo_22 (x y z u : Int32) : Loc (f_X11_search (70, 0) x (bI (decide (y = 1)))) := fun p q A => e_X11_search id_ok A (70, 0) rfl x (bI (decide (y = 1)))
theorem do_23 {b : Bool} {g h : am_H} (O : Ob b g h) (x y z u : Int32)  : DoP b d0 g h (f_L_does (some (rhoS b (69, 0))) 23 x y z u h) (f_X11_result (70, 0) x y) id := do_int (st_result O x y ) (dz_23 (isO_rhoS b) x y z u h)
theorem lo_23 (x y z u : Int32) : Loc (f_X11_result (70, 0) x y) := fun p q A => e_X11_result id_ok A (70, 0) rfl x y
theorem do_24 {b : Bool} {g h : am_H} (O : Ob b g h) (x y z u : Int32) (hc : eqQA Sc (rhoS b) (dp 29 d0) g h (f_X10_sign (69, 0) x y z u g) (f_X10_sign (rhoS b (69, 0)) x y z u h)) : DoP b (dp 29 d0) g h (f_L_does (some (rhoS b (69, 0))) 24 x y z u h) (f_X11_sign (70, 0) x y z u) id := do_int (st_sign O x y z u hc) (dz_24 (isO_rhoS b) x y z u h)
theorem lo_24 (x y z u : Int32) : Loc (f_X11_sign (70, 0) x y z u) := fun p q A => e_X11_sign id_ok A (70, 0) rfl x y z u
theorem do_25 {b : Bool} {g h : am_H} (O : Ob b g h) (x y z u : Int32)  : DoP b d0 g h (f_L_does (some (rhoS b (69, 0))) 25 x y z u h) (f_X11_match (70, 0) x) id := do_int (st_match O x ) (dz_25 (isO_rhoS b) x y z u h)
theorem lo_25 (x y z u : Int32) : Loc (f_X11_match (70, 0) x) := fun p q A => e_X11_match id_ok A (70, 0) rfl x
theorem do_26 {b : Bool} {g h : am_H} (O : Ob b g h) (x y z u : Int32)  : DoP b d0 g h (f_L_does (some (rhoS b (69, 0))) 26 x y z u h) (f_X11_screen (70, 0) x (bI (decide (y = 1)))) b1 := do_bool (st_screen O x (decide (y = 1)) ) (dz_26 (isO_rhoS b) x y z u h)
theorem lo_26 (x y z u : Int32) : Loc (f_X11_screen (70, 0) x (bI (decide (y = 1)))) := fun p q A => e_X11_screen id_ok A (70, 0) rfl x (bI (decide (y = 1)))
theorem do_27 {b : Bool} {g h : am_H} (O : Ob b g h) (x y z u : Int32) (hc : eqQA Sc (rhoS b) (dp 30 d0) g h (f_X10_comment (69, 0) x y z g) (f_X10_comment (rhoS b (69, 0)) x y z h)) : DoP b (dp 30 d0) g h (f_L_does (some (rhoS b (69, 0))) 27 x y z u h) (f_X11_comment (70, 0) x y z) id := do_int (st_comment O x y z hc) (dz_27 (isO_rhoS b) x y z u h)
theorem lo_27 (x y z u : Int32) : Loc (f_X11_comment (70, 0) x y z) := fun p q A => e_X11_comment id_ok A (70, 0) rfl x y z
theorem do_28 {b : Bool} {g h : am_H} (O : Ob b g h) (x y z u : Int32)  : DoP b d0 g h (f_L_does (some (rhoS b (69, 0))) 28 x y z u h) (f_X11_change (70, 0) x y) b1 := do_bool (st_change O x y ) (dz_28 (isO_rhoS b) x y z u h)
theorem lo_28 (x y z u : Int32) : Loc (f_X11_change (70, 0) x y) := fun p q A => e_X11_change id_ok A (70, 0) rfl x y
theorem do_29 {b : Bool} {g h : am_H} (O : Ob b g h) (x y z u : Int32)  : DoP b d0 g h (f_L_does (some (rhoS b (69, 0))) 29 x y z u h) (f_X11_reads (70, 0) x y) id := do_int (st_reads O x y ) (dz_29 (isO_rhoS b) x y z u h)
theorem lo_29 (x y z u : Int32) : Loc (f_X11_reads (70, 0) x y) := fun p q A => e_X11_reads id_ok A (70, 0) rfl x y
theorem do_30 {b : Bool} {g h : am_H} (O : Ob b g h) (x y z u : Int32)  : DoP b d0 g h (f_L_does (some (rhoS b (69, 0))) 30 x y z u h) (f_X11_kudos (70, 0) x y) id := do_int (st_kudos O x y ) (dz_30 (isO_rhoS b) x y z u h)
theorem lo_30 (x y z u : Int32) : Loc (f_X11_kudos (70, 0) x y) := fun p q A => e_X11_kudos id_ok A (70, 0) rfl x y
theorem do_31 {b : Bool} {g h : am_H} (O : Ob b g h) (x y z u : Int32)  : DoP b d0 g h (f_L_does (some (rhoS b (69, 0))) 31 x y z u h) (f_X11_liked (70, 0) x) id := do_int (st_liked O x ) (dz_31 (isO_rhoS b) x y z u h)
theorem lo_31 (x y z u : Int32) : Loc (f_X11_liked (70, 0) x) := fun p q A => e_X11_liked id_ok A (70, 0) rfl x
theorem do_32 {b : Bool} {g h : am_H} (O : Ob b g h) (x y z u : Int32)  : DoP b d0 g h (f_L_does (some (rhoS b (69, 0))) 32 x y z u h) (f_X11_subscribe (70, 0) x (bI (decide (y = 1))) z) b1 := do_bool (st_subscribe O x (decide (y = 1)) z ) (dz_32 (isO_rhoS b) x y z u h)
theorem lo_32 (x y z u : Int32) : Loc (f_X11_subscribe (70, 0) x (bI (decide (y = 1))) z) := fun p q A => e_X11_subscribe id_ok A (70, 0) rfl x (bI (decide (y = 1))) z
theorem do_33 {b : Bool} {g h : am_H} (O : Ob b g h) (x y z u : Int32)  : DoP b d0 g h (f_L_does (some (rhoS b (69, 0))) 33 x y z u h) (f_X11_news (70, 0) x) id := do_int (st_news O x ) (dz_33 (isO_rhoS b) x y z u h)
theorem lo_33 (x y z u : Int32) : Loc (f_X11_news (70, 0) x) := fun p q A => e_X11_news id_ok A (70, 0) rfl x
theorem do_34 {b : Bool} {g h : am_H} (O : Ob b g h) (x y z u : Int32)  : DoP b d0 g h (f_L_does (some (rhoS b (69, 0))) 34 x y z u h) (f_X11_digest (70, 0) x) id := do_int (st_digest O x ) (dz_34 (isO_rhoS b) x y z u h)
theorem lo_34 (x y z u : Int32) : Loc (f_X11_digest (70, 0) x) := fun p q A => e_X11_digest id_ok A (70, 0) rfl x
