/-! ## the law's 'does': each number's call -/
def Dz (rd rc : am_R) (val : Int32 → Int32) : Prop := (∀ h' v, rc = m_ri h' v → rd = m_ri h' (val v)) ∧ ∀ h' e, rc = some (h', .inr e) → e < 3 → rd = m_ri (m_op h') (-2100000000)
theorem ao_a {a : Nat × Nat} {ci : Nat} {K : Nat × Nat → am_R} (ha : am_isO a.1 ci = true) : m_ao (some a) ci K = K a := by
  show m_ck (am_isO a.1 ci) (K a) = K a
  rw [ha]; rfl
theorem bit_b1 {v : Int32} {h : am_H} : f_L_bit v h = m_ri h (b1 v) := by
  unfold b1 f_L_bit
  by_cases hv : v = 0
  · rw [if_pos hv, if_pos hv]; rfl
  · rw [if_neg hv, if_neg hv]; rfl
theorem lt3 {e : Nat} (h : e < 3) : e = 0 ∨ e = 1 ∨ e = 2 := by omega
theorem bool_K {h1 : am_H} {v : Int32} : (if v = 0 then m_sL (some (71, 0)) 0 0 h1 (fun h6 => m_ri h6 0) else m_sL (some (71, 0)) 0 1 h1 fun h6 => m_ri h6 0) = m_ri (m_sl h1 71 0 0 (vB v)) 0 := by
  unfold vB
  by_cases hv : v = 0
  · rw [if_pos hv, if_pos hv]; rfl
  · rw [if_neg hv, if_neg hv]; rfl
theorem isO_rhoS (b : Bool) : am_isO (rhoS b (69, 0)).1 10 = true := by cases b <;> rfl
def DoP (b : Bool) (d : Nat → Nat) (g h : am_H) (rd : am_R) (mf : am_H → am_R) (val : Int32 → Int32) : Prop := ∃ (h' g' : am_H) (v : Int32), rd = m_ri h' v ∧ Post b g h g' h' ∧ Tr mf val g g' v ∧ (v = -2100000000 → AgR g g') ∧ (v ≠ -2100000000 → ∀ s, s ∈ [16, 27, 28, 29, 30] → m_nx g' s = m_nx g s + d s)
theorem do_int {b : Bool} {d : Nat → Nat} {g h : am_H} {rc r mr rd : am_R} {mf : am_H → am_R} (S : StI b d g h rc r mr mf vI) (D : Dz rd r id) : DoP b d g h rd mf id := by
  rcases S with ⟨h', g', g1, x, g2, v, b', q1, q2, q3, ⟨q4, q5, q6⟩, q7, q8, q9, q10, q11⟩ | ⟨h', g', x, g2, e, b', q1, q2, q3, ⟨q4, q5, q6⟩, q7, q8⟩
  · have e := vI_inj q8
    exact ⟨h', g', v, D.1 _ _ q1, q3, ⟨x, g2, _, q4, q5, q6, by rw [if_pos q7]; exact e⟩, fun z => q9 rfl (e.symm.trans z), fun _ => q11⟩
  · exact ⟨m_op h', g', -2100000000, D.2 _ _ q1 q2, q3, ⟨x, g2, _, q4, q5, q6, by rw [if_neg q7]⟩, fun _ => q8, fun z => absurd rfl z⟩
theorem b1_ne (v : Int32) : b1 v ≠ -2100000000 := by unfold b1; split <;> decide
theorem do_bool {b : Bool} {d : Nat → Nat} {g h : am_H} {rc r mr rd : am_R} {mf : am_H → am_R} (S : StI b d g h rc r mr mf vB) (D : Dz rd r b1) : DoP b d g h rd mf b1 := by
  rcases S with ⟨h', g', g1, x, g2, v, b', q1, q2, q3, ⟨q4, q5, q6⟩, q7, q8, q9, q10, q11⟩ | ⟨h', g', x, g2, e, b', q1, q2, q3, ⟨q4, q5, q6⟩, q7, q8⟩
  · have e := vB_b1 q8
    exact ⟨h', g', b1 v, D.1 _ _ q1, q3, ⟨x, g2, _, q4, q5, q6, by rw [if_pos q7]; exact e⟩, fun z => absurd z (b1_ne v), fun _ => q11⟩
  · exact ⟨m_op h', g', -2100000000, D.2 _ _ q1 q2, q3, ⟨x, g2, _, q4, q5, q6, by rw [if_neg q7]⟩, fun _ => q8, fun z => absurd rfl z⟩
theorem st_pass {b : Bool} {g h : am_H} (O : Ob b g h) (x : Int32)  : StI b d0 g h (f_X10_pass (69, 0) x g) (f_X10_pass (rhoS b (69, 0)) x h) (f_G_pass (some (69, 0)) x (some (71, 0)) g) (f_X11_pass (70, 0) x) vI := by
  obtain ⟨W, Cn, Tn, Sn, Qn, R⟩ := id O.2.2.2
  refine stepI O (e_X10_pass (rhoS_ok b) O.1 (69, 0) rfl x).toA (fun p q A => e_X11_pass id_ok A (70, 0) rfl x) (op_pass R x) (fun h1 k e => ?_)
  unfold f_G_pass at e
  rw [ao_69] at e
  refine inv_I (fun h1 v => rfl) (fun h1 e h2 k q => ?_) e
  repeat' split at q
  all_goals first | (cases q; exact ⟨by omega, by decide, rfl⟩) | cases q
theorem st_block {b : Bool} {g h : am_H} (O : Ob b g h) (x : Int32) (y : Int32) (c : Bool)  : StI b d0 g h (f_X10_block (69, 0) x y (bI c) g) (f_X10_block (rhoS b (69, 0)) x y (bI c) h) (f_G_block (some (69, 0)) x y (bI c) (some (71, 0)) g) (f_X11_block (70, 0) x y (bI c)) vB := by
  obtain ⟨W, Cn, Tn, Sn, Qn, R⟩ := id O.2.2.2
  refine stepI O (e_X10_block (rhoS_ok b) O.1 (69, 0) rfl x y (bI c)).toA (fun p q A => e_X11_block id_ok A (70, 0) rfl x y (bI c)) (op_block R x y c) (fun h1 k e => ?_)
  unfold f_G_block at e
  rw [ao_69] at e
  refine inv_I (fun h1 v => ?_) (fun h1 e h2 k q => ?_) e
  · exact bool_K (v := v)
  repeat' split at q
  all_goals first | (cases q; exact ⟨by omega, by decide, rfl⟩) | cases q
theorem st_same {b : Bool} {g h : am_H} (O : Ob b g h) (x : Int32) (y : Int32)  : StI b d0 g h (f_X10_same (69, 0) x y g) (f_X10_same (rhoS b (69, 0)) x y h) (f_G_same (some (69, 0)) x y (some (71, 0)) g) (f_X11_same (70, 0) x y) vB := by
  obtain ⟨W, Cn, Tn, Sn, Qn, R⟩ := id O.2.2.2
  refine stepI O (e_X10_same (rhoS_ok b) O.1 (69, 0) rfl x y).toA (fun p q A => e_X11_same id_ok A (70, 0) rfl x y) (op_same R x y) (fun h1 k e => ?_)
  unfold f_G_same at e
  rw [ao_69] at e
  refine inv_I (fun h1 v => ?_) (fun h1 e h2 k q => ?_) e
  · exact bool_K (v := v)
  repeat' split at q
  all_goals first | (cases q; exact ⟨by omega, by decide, rfl⟩) | cases q
theorem st_work {b : Bool} {g h : am_H} (O : Ob b g h) (x : Int32) (y : Int32) (hc : eqQA Sc (rhoS b) (dp 27 (dp 16 d0)) g h (f_X10_work (69, 0) x y g) (f_X10_work (rhoS b (69, 0)) x y h)) : StI b (dp 27 (dp 16 d0)) g h (f_X10_work (69, 0) x y g) (f_X10_work (rhoS b (69, 0)) x y h) (f_G_work (some (69, 0)) x y (some (71, 0)) g) (f_X11_work (70, 0) x y) vI := by
  obtain ⟨W, Cn, Tn, Sn, Qn, R⟩ := id O.2.2.2
  refine stepI O hc (fun p q A => e_X11_work id_ok A (70, 0) rfl x y) (op_work R x y) (fun h1 k e => ?_)
  unfold f_G_work at e
  rw [ao_69] at e
  refine inv_I (fun h1 v => rfl) (fun h1 e h2 k q => ?_) e
  repeat' split at q
  all_goals first | (cases q; exact ⟨by omega, by decide, rfl⟩) | cases q
theorem st_join {b : Bool} {g h : am_H} (O : Ob b g h) (x : Int32) (y : Int32)  : StI b d0 g h (f_X10_join (69, 0) x y g) (f_X10_join (rhoS b (69, 0)) x y h) (f_G_join (some (69, 0)) x y (some (71, 0)) g) (f_X11_join (70, 0) x y) vI := by
  obtain ⟨W, Cn, Tn, Sn, Qn, R⟩ := id O.2.2.2
  refine stepI O (e_X10_join (rhoS_ok b) O.1 (69, 0) rfl x y).toA (fun p q A => e_X11_join id_ok A (70, 0) rfl x y) (op_join R x y) (fun h1 k e => ?_)
  unfold f_G_join at e
  rw [ao_69] at e
  refine inv_I (fun h1 v => rfl) (fun h1 e h2 k q => ?_) e
  repeat' split at q
  all_goals first | (cases q; exact ⟨by omega, by decide, rfl⟩) | cases q
theorem st_leave {b : Bool} {g h : am_H} (O : Ob b g h) (x : Int32) (y : Int32)  : StI b d0 g h (f_X10_leave (69, 0) x y g) (f_X10_leave (rhoS b (69, 0)) x y h) (f_G_leave (some (69, 0)) x y (some (71, 0)) g) (f_X11_leave (70, 0) x y) vI := by
  obtain ⟨W, Cn, Tn, Sn, Qn, R⟩ := id O.2.2.2
  refine stepI O (e_X10_leave (rhoS_ok b) O.1 (69, 0) rfl x y).toA (fun p q A => e_X11_leave id_ok A (70, 0) rfl x y) (op_leave R x y) (fun h1 k e => ?_)
  unfold f_G_leave at e
  rw [ao_69] at e
  refine inv_I (fun h1 v => rfl) (fun h1 e h2 k q => ?_) e
  repeat' split at q
  all_goals first | (cases q; exact ⟨by omega, by decide, rfl⟩) | cases q
theorem st_chapter {b : Bool} {g h : am_H} (O : Ob b g h) (x : Int32)  : StI b d0 g h (f_X10_chapter (69, 0) x g) (f_X10_chapter (rhoS b (69, 0)) x h) (f_G_chapter (some (69, 0)) x (some (71, 0)) g) (f_X11_chapter (70, 0) x) vI := by
  obtain ⟨W, Cn, Tn, Sn, Qn, R⟩ := id O.2.2.2
  refine stepI O (e_X10_chapter (rhoS_ok b) O.1 (69, 0) rfl x).toA (fun p q A => e_X11_chapter id_ok A (70, 0) rfl x) (op_chapter R x) (fun h1 k e => ?_)
  unfold f_G_chapter at e
  rw [ao_69] at e
  refine inv_I (fun h1 v => rfl) (fun h1 e h2 k q => ?_) e
  repeat' split at q
  all_goals first | (cases q; exact ⟨by omega, by decide, rfl⟩) | cases q
theorem st_post {b : Bool} {g h : am_H} (O : Ob b g h) (x : Int32)  : StI b d0 g h (f_X10_post (69, 0) x g) (f_X10_post (rhoS b (69, 0)) x h) (f_G_post (some (69, 0)) x (some (71, 0)) g) (f_X11_post (70, 0) x) vI := by
  obtain ⟨W, Cn, Tn, Sn, Qn, R⟩ := id O.2.2.2
  refine stepI O (e_X10_post (rhoS_ok b) O.1 (69, 0) rfl x).toA (fun p q A => e_X11_post id_ok A (70, 0) rfl x) (op_post R x) (fun h1 k e => ?_)
  unfold f_G_post at e
  rw [ao_69] at e
  refine inv_I (fun h1 v => rfl) (fun h1 e h2 k q => ?_) e
  repeat' split at q
  all_goals first | (cases q; exact ⟨by omega, by decide, rfl⟩) | cases q
theorem st_lock {b : Bool} {g h : am_H} (O : Ob b g h) (x : Int32) (c : Bool)  : StI b d0 g h (f_X10_lock (69, 0) x (bI c) g) (f_X10_lock (rhoS b (69, 0)) x (bI c) h) (f_G_lock (some (69, 0)) x (bI c) (some (71, 0)) g) (f_X11_lock (70, 0) x (bI c)) vB := by
  obtain ⟨W, Cn, Tn, Sn, Qn, R⟩ := id O.2.2.2
  refine stepI O (e_X10_lock (rhoS_ok b) O.1 (69, 0) rfl x (bI c)).toA (fun p q A => e_X11_lock id_ok A (70, 0) rfl x (bI c)) (op_lock R x c) (fun h1 k e => ?_)
  unfold f_G_lock at e
  rw [ao_69] at e
  refine inv_I (fun h1 v => ?_) (fun h1 e h2 k q => ?_) e
  · exact bool_K (v := v)
  repeat' split at q
  all_goals first | (cases q; exact ⟨by omega, by decide, rfl⟩) | cases q
theorem st_collection {b : Bool} {g h : am_H} (O : Ob b g h) (x : Int32) (y : Int32) (hc : eqQA Sc (rhoS b) (dp 28 d0) g h (f_X10_collection (69, 0) x y g) (f_X10_collection (rhoS b (69, 0)) x y h)) : StI b (dp 28 d0) g h (f_X10_collection (69, 0) x y g) (f_X10_collection (rhoS b (69, 0)) x y h) (f_G_collection (some (69, 0)) x y (some (71, 0)) g) (f_X11_collection (70, 0) x y) vI := by
  obtain ⟨W, Cn, Tn, Sn, Qn, R⟩ := id O.2.2.2
  refine stepI O hc (fun p q A => e_X11_collection id_ok A (70, 0) rfl x y) (op_collection R x y) (fun h1 k e => ?_)
  unfold f_G_collection at e
  rw [ao_69] at e
  refine inv_I (fun h1 v => rfl) (fun h1 e h2 k q => ?_) e
  repeat' split at q
  all_goals first | (cases q; exact ⟨by omega, by decide, rfl⟩) | cases q
theorem st_sees {b : Bool} {g h : am_H} (O : Ob b g h) (x : Int32) (y : Int32)  : StI b d0 g h (f_X10_sees (69, 0) x y g) (f_X10_sees (rhoS b (69, 0)) x y h) (f_G_sees (some (69, 0)) x y (some (71, 0)) g) (f_X11_sees (70, 0) x y) vB := by
  obtain ⟨W, Cn, Tn, Sn, Qn, R⟩ := id O.2.2.2
  refine stepI O (e_X10_sees (rhoS_ok b) O.1 (69, 0) rfl x y).toA (fun p q A => e_X11_sees id_ok A (70, 0) rfl x y) (op_sees R x y) (fun h1 k e => ?_)
  unfold f_G_sees at e
  rw [ao_69] at e
  refine inv_I (fun h1 v => ?_) (fun h1 e h2 k q => ?_) e
  · exact bool_K (v := v)
  repeat' split at q
  all_goals first | (cases q; exact ⟨by omega, by decide, rfl⟩) | cases q
theorem st_owners {b : Bool} {g h : am_H} (O : Ob b g h) (x : Int32) (y : Int32)  : StI b d0 g h (f_X10_owners (69, 0) x y g) (f_X10_owners (rhoS b (69, 0)) x y h) (f_G_owners (some (69, 0)) x y (some (71, 0)) g) (f_X11_owners (70, 0) x y) vI := by
  obtain ⟨W, Cn, Tn, Sn, Qn, R⟩ := id O.2.2.2
  refine stepI O (e_X10_owners (rhoS_ok b) O.1 (69, 0) rfl x y).toA (fun p q A => e_X11_owners id_ok A (70, 0) rfl x y) (op_owners R x y) (fun h1 k e => ?_)
  unfold f_G_owners at e
  rw [ao_69] at e
  refine inv_I (fun h1 v => rfl) (fun h1 e h2 k q => ?_) e
  repeat' split at q
  all_goals first | (cases q; exact ⟨by omega, by decide, rfl⟩) | cases q
theorem st_tag {b : Bool} {g h : am_H} (O : Ob b g h)   : StI b d0 g h (f_X10_tag (69, 0)  g) (f_X10_tag (rhoS b (69, 0))  h) (f_G_tag (some (69, 0))  (some (71, 0)) g) (f_X11_tag (70, 0) ) vI := by
  obtain ⟨W, Cn, Tn, Sn, Qn, R⟩ := id O.2.2.2
  refine stepI O (e_X10_tag (rhoS_ok b) O.1 (69, 0) rfl ).toA (fun p q A => e_X11_tag id_ok A (70, 0) rfl ) (op_tag R ) (fun h1 k e => ?_)
  unfold f_G_tag at e
  rw [ao_69] at e
  refine inv_I (fun h1 v => rfl) (fun h1 e h2 k q => ?_) e
  repeat' split at q
  all_goals first | (cases q; exact ⟨by omega, by decide, rfl⟩) | cases q
theorem st_make {b : Bool} {g h : am_H} (O : Ob b g h) (x : Int32)  : StI b d0 g h (f_X10_make (69, 0) x g) (f_X10_make (rhoS b (69, 0)) x h) (f_G_make (some (69, 0)) x (some (71, 0)) g) (f_X11_make (70, 0) x) vI := by
  obtain ⟨W, Cn, Tn, Sn, Qn, R⟩ := id O.2.2.2
  refine stepI O (e_X10_make (rhoS_ok b) O.1 (69, 0) rfl x).toA (fun p q A => e_X11_make id_ok A (70, 0) rfl x) (op_make R x) (fun h1 k e => ?_)
  unfold f_G_make at e
  rw [ao_69] at e
  refine inv_I (fun h1 v => rfl) (fun h1 e h2 k q => ?_) e
  repeat' split at q
  all_goals first | (cases q; exact ⟨by omega, by decide, rfl⟩) | cases q
theorem st_merge {b : Bool} {g h : am_H} (O : Ob b g h) (x : Int32) (y : Int32)  : StI b d0 g h (f_X10_merge (69, 0) x y g) (f_X10_merge (rhoS b (69, 0)) x y h) (f_G_merge (some (69, 0)) x y (some (71, 0)) g) (f_X11_merge (70, 0) x y) vI := by
  obtain ⟨W, Cn, Tn, Sn, Qn, R⟩ := id O.2.2.2
  refine stepI O (e_X10_merge (rhoS_ok b) O.1 (69, 0) rfl x y).toA (fun p q A => e_X11_merge id_ok A (70, 0) rfl x y) (op_merge R x y) (fun h1 k e => ?_)
  unfold f_G_merge at e
  rw [ao_69] at e
  refine inv_I (fun h1 v => rfl) (fun h1 e h2 k q => ?_) e
  repeat' split at q
  all_goals first | (cases q; exact ⟨by omega, by decide, rfl⟩) | cases q
theorem st_parent {b : Bool} {g h : am_H} (O : Ob b g h) (x : Int32) (y : Int32) (c : Bool)  : StI b d0 g h (f_X10_parent (69, 0) x y (bI c) g) (f_X10_parent (rhoS b (69, 0)) x y (bI c) h) (f_G_parent (some (69, 0)) x y (bI c) (some (71, 0)) g) (f_X11_parent (70, 0) x y (bI c)) vB := by
  obtain ⟨W, Cn, Tn, Sn, Qn, R⟩ := id O.2.2.2
  refine stepI O (e_X10_parent (rhoS_ok b) O.1 (69, 0) rfl x y (bI c)).toA (fun p q A => e_X11_parent id_ok A (70, 0) rfl x y (bI c)) (op_parent R x y c) (fun h1 k e => ?_)
  unfold f_G_parent at e
  rw [ao_69] at e
  refine inv_I (fun h1 v => ?_) (fun h1 e h2 k q => ?_) e
  · exact bool_K (v := v)
  repeat' split at q
  all_goals first | (cases q; exact ⟨by omega, by decide, rfl⟩) | cases q
theorem st_ofTag {b : Bool} {g h : am_H} (O : Ob b g h) (x : Int32) (y : Int32)  : StI b d0 g h (f_X10_ofTag (69, 0) x y g) (f_X10_ofTag (rhoS b (69, 0)) x y h) (f_G_ofTag (some (69, 0)) x y (some (71, 0)) g) (f_X11_ofTag (70, 0) x y) vI := by
  obtain ⟨W, Cn, Tn, Sn, Qn, R⟩ := id O.2.2.2
  refine stepI O (e_X10_ofTag (rhoS_ok b) O.1 (69, 0) rfl x y).toA (fun p q A => e_X11_ofTag id_ok A (70, 0) rfl x y) (op_ofTag R x y) (fun h1 k e => ?_)
  unfold f_G_ofTag at e
  rw [ao_69] at e
  refine inv_I (fun h1 v => rfl) (fun h1 e h2 k q => ?_) e
  repeat' split at q
  all_goals first | (cases q; exact ⟨by omega, by decide, rfl⟩) | cases q
theorem st_put {b : Bool} {g h : am_H} (O : Ob b g h) (x : Int32) (y : Int32) (c : Bool)  : StI b d0 g h (f_X10_put (69, 0) x y (bI c) g) (f_X10_put (rhoS b (69, 0)) x y (bI c) h) (f_G_put (some (69, 0)) x y (bI c) (some (71, 0)) g) (f_X11_put (70, 0) x y (bI c)) vB := by
  obtain ⟨W, Cn, Tn, Sn, Qn, R⟩ := id O.2.2.2
  refine stepI O (e_X10_put (rhoS_ok b) O.1 (69, 0) rfl x y (bI c)).toA (fun p q A => e_X11_put id_ok A (70, 0) rfl x y (bI c)) (op_put R x y c) (fun h1 k e => ?_)
  unfold f_G_put at e
  rw [ao_69] at e
  refine inv_I (fun h1 v => ?_) (fun h1 e h2 k q => ?_) e
  · exact bool_K (v := v)
  repeat' split at q
  all_goals first | (cases q; exact ⟨by omega, by decide, rfl⟩) | cases q
theorem st_wave {b : Bool} {g h : am_H} (O : Ob b g h) (x : Int32)  : StI b d0 g h (f_X10_wave (69, 0) x g) (f_X10_wave (rhoS b (69, 0)) x h) (f_G_wave (some (69, 0)) x (some (71, 0)) g) (f_X11_wave (70, 0) x) vI := by
  obtain ⟨W, Cn, Tn, Sn, Qn, R⟩ := id O.2.2.2
  refine stepI O (e_X10_wave (rhoS_ok b) O.1 (69, 0) rfl x).toA (fun p q A => e_X11_wave id_ok A (70, 0) rfl x) (op_wave R x) (fun h1 k e => ?_)
  unfold f_G_wave at e
  rw [ao_69] at e
  refine inv_I (fun h1 v => rfl) (fun h1 e h2 k q => ?_) e
  repeat' split at q
  all_goals first | (cases q; exact ⟨by omega, by decide, rfl⟩) | cases q
theorem st_under {b : Bool} {g h : am_H} (O : Ob b g h) (x : Int32) (c : Bool)  : StI b d0 g h (f_X10_under (69, 0) x (bI c) g) (f_X10_under (rhoS b (69, 0)) x (bI c) h) (f_G_under (some (69, 0)) x (bI c) (some (71, 0)) g) (f_X11_under (70, 0) x (bI c)) vI := by
  obtain ⟨W, Cn, Tn, Sn, Qn, R⟩ := id O.2.2.2
  refine stepI O (e_X10_under (rhoS_ok b) O.1 (69, 0) rfl x (bI c)).toA (fun p q A => e_X11_under id_ok A (70, 0) rfl x (bI c)) (op_under R x c) (fun h1 k e => ?_)
  unfold f_G_under at e
  rw [ao_69] at e
  refine inv_I (fun h1 v => rfl) (fun h1 e h2 k q => ?_) e
  repeat' split at q
  all_goals first | (cases q; exact ⟨by omega, by decide, rfl⟩) | cases q
theorem st_type {b : Bool} {g h : am_H} (O : Ob b g h) (x : Int64) (y : Int32)  : StI b d0 g h (f_X10_type (69, 0) x y g) (f_X10_type (rhoS b (69, 0)) x y h) (f_G_type (some (69, 0)) x y (some (71, 0)) g) (f_X11_type (70, 0) x y) vI := by
  obtain ⟨W, Cn, Tn, Sn, Qn, R⟩ := id O.2.2.2
  refine stepI O (e_X10_type (rhoS_ok b) O.1 (69, 0) rfl x y).toA (fun p q A => e_X11_type id_ok A (70, 0) rfl x y) (op_type R x y) (fun h1 k e => ?_)
  unfold f_G_type at e
  rw [ao_69] at e
  refine inv_I (fun h1 v => rfl) (fun h1 e h2 k q => ?_) e
  repeat' split at q
  all_goals first | (cases q; exact ⟨by omega, by decide, rfl⟩) | cases q
theorem st_search {b : Bool} {g h : am_H} (O : Ob b g h) (x : Int32) (c : Bool)  : StI b d0 g h (f_X10_search (69, 0) x (bI c) g) (f_X10_search (rhoS b (69, 0)) x (bI c) h) (f_G_search (some (69, 0)) x (bI c) (some (71, 0)) g) (f_X11_search (70, 0) x (bI c)) vI := by
  obtain ⟨W, Cn, Tn, Sn, Qn, R⟩ := id O.2.2.2
  refine stepI O (e_X10_search (rhoS_ok b) O.1 (69, 0) rfl x (bI c)).toA (fun p q A => e_X11_search id_ok A (70, 0) rfl x (bI c)) (op_search R x c) (fun h1 k e => ?_)
  unfold f_G_search at e
  rw [ao_69] at e
  refine inv_I (fun h1 v => rfl) (fun h1 e h2 k q => ?_) e
  repeat' split at q
  all_goals first | (cases q; exact ⟨by omega, by decide, rfl⟩) | cases q
theorem st_result {b : Bool} {g h : am_H} (O : Ob b g h) (x : Int32) (y : Int32)  : StI b d0 g h (f_X10_result (69, 0) x y g) (f_X10_result (rhoS b (69, 0)) x y h) (f_G_result (some (69, 0)) x y (some (71, 0)) g) (f_X11_result (70, 0) x y) vI := by
  obtain ⟨W, Cn, Tn, Sn, Qn, R⟩ := id O.2.2.2
  refine stepI O (e_X10_result (rhoS_ok b) O.1 (69, 0) rfl x y).toA (fun p q A => e_X11_result id_ok A (70, 0) rfl x y) (op_result R x y) (fun h1 k e => ?_)
  unfold f_G_result at e
  rw [ao_69] at e
  refine inv_I (fun h1 v => rfl) (fun h1 e h2 k q => ?_) e
  repeat' split at q
  all_goals first | (cases q; exact ⟨by omega, by decide, rfl⟩) | cases q
theorem st_sign {b : Bool} {g h : am_H} (O : Ob b g h) (x : Int32) (y : Int32) (z : Int32) (u : Int32) (hc : eqQA Sc (rhoS b) (dp 29 d0) g h (f_X10_sign (69, 0) x y z u g) (f_X10_sign (rhoS b (69, 0)) x y z u h)) : StI b (dp 29 d0) g h (f_X10_sign (69, 0) x y z u g) (f_X10_sign (rhoS b (69, 0)) x y z u h) (f_G_sign (some (69, 0)) x y z u (some (71, 0)) g) (f_X11_sign (70, 0) x y z u) vI := by
  obtain ⟨W, Cn, Tn, Sn, Qn, R⟩ := id O.2.2.2
  refine stepI O hc (fun p q A => e_X11_sign id_ok A (70, 0) rfl x y z u) (op_sign R x y z u) (fun h1 k e => ?_)
  unfold f_G_sign at e
  rw [ao_69] at e
  refine inv_I (fun h1 v => rfl) (fun h1 e h2 k q => ?_) e
  repeat' split at q
  all_goals first | (cases q; exact ⟨by omega, by decide, rfl⟩) | cases q
theorem st_match {b : Bool} {g h : am_H} (O : Ob b g h) (x : Int32)  : StI b d0 g h (f_X10_match (69, 0) x g) (f_X10_match (rhoS b (69, 0)) x h) (f_G_match (some (69, 0)) x (some (71, 0)) g) (f_X11_match (70, 0) x) vI := by
  obtain ⟨W, Cn, Tn, Sn, Qn, R⟩ := id O.2.2.2
  refine stepI O (e_X10_match (rhoS_ok b) O.1 (69, 0) rfl x).toA (fun p q A => e_X11_match id_ok A (70, 0) rfl x) (op_match R x) (fun h1 k e => ?_)
  unfold f_G_match at e
  rw [ao_69] at e
  refine inv_I (fun h1 v => rfl) (fun h1 e h2 k q => ?_) e
  repeat' split at q
  all_goals first | (cases q; exact ⟨by omega, by decide, rfl⟩) | cases q
theorem st_screen {b : Bool} {g h : am_H} (O : Ob b g h) (x : Int32) (c : Bool)  : StI b d0 g h (f_X10_screen (69, 0) x (bI c) g) (f_X10_screen (rhoS b (69, 0)) x (bI c) h) (f_G_screen (some (69, 0)) x (bI c) (some (71, 0)) g) (f_X11_screen (70, 0) x (bI c)) vB := by
  obtain ⟨W, Cn, Tn, Sn, Qn, R⟩ := id O.2.2.2
  refine stepI O (e_X10_screen (rhoS_ok b) O.1 (69, 0) rfl x (bI c)).toA (fun p q A => e_X11_screen id_ok A (70, 0) rfl x (bI c)) (op_screen R x c) (fun h1 k e => ?_)
  unfold f_G_screen at e
  rw [ao_69] at e
  refine inv_I (fun h1 v => ?_) (fun h1 e h2 k q => ?_) e
  · exact bool_K (v := v)
  repeat' split at q
  all_goals first | (cases q; exact ⟨by omega, by decide, rfl⟩) | cases q
theorem st_comment {b : Bool} {g h : am_H} (O : Ob b g h) (x : Int32) (y : Int32) (z : Int32) (hc : eqQA Sc (rhoS b) (dp 30 d0) g h (f_X10_comment (69, 0) x y z g) (f_X10_comment (rhoS b (69, 0)) x y z h)) : StI b (dp 30 d0) g h (f_X10_comment (69, 0) x y z g) (f_X10_comment (rhoS b (69, 0)) x y z h) (f_G_comment (some (69, 0)) x y z (some (71, 0)) g) (f_X11_comment (70, 0) x y z) vI := by
  obtain ⟨W, Cn, Tn, Sn, Qn, R⟩ := id O.2.2.2
  refine stepI O hc (fun p q A => e_X11_comment id_ok A (70, 0) rfl x y z) (op_comment R x y z) (fun h1 k e => ?_)
  unfold f_G_comment at e
  rw [ao_69] at e
  refine inv_I (fun h1 v => rfl) (fun h1 e h2 k q => ?_) e
  repeat' split at q
  all_goals first | (cases q; exact ⟨by omega, by decide, rfl⟩) | cases q
theorem st_change {b : Bool} {g h : am_H} (O : Ob b g h) (x : Int32) (y : Int32)  : StI b d0 g h (f_X10_change (69, 0) x y g) (f_X10_change (rhoS b (69, 0)) x y h) (f_G_change (some (69, 0)) x y (some (71, 0)) g) (f_X11_change (70, 0) x y) vB := by
  obtain ⟨W, Cn, Tn, Sn, Qn, R⟩ := id O.2.2.2
  refine stepI O (e_X10_change (rhoS_ok b) O.1 (69, 0) rfl x y).toA (fun p q A => e_X11_change id_ok A (70, 0) rfl x y) (op_change R x y) (fun h1 k e => ?_)
  unfold f_G_change at e
  rw [ao_69] at e
  refine inv_I (fun h1 v => ?_) (fun h1 e h2 k q => ?_) e
  · exact bool_K (v := v)
  repeat' split at q
  all_goals first | (cases q; exact ⟨by omega, by decide, rfl⟩) | cases q
theorem st_reads {b : Bool} {g h : am_H} (O : Ob b g h) (x : Int32) (y : Int32)  : StI b d0 g h (f_X10_reads (69, 0) x y g) (f_X10_reads (rhoS b (69, 0)) x y h) (f_G_reads (some (69, 0)) x y (some (71, 0)) g) (f_X11_reads (70, 0) x y) vI := by
  obtain ⟨W, Cn, Tn, Sn, Qn, R⟩ := id O.2.2.2
  refine stepI O (e_X10_reads (rhoS_ok b) O.1 (69, 0) rfl x y).toA (fun p q A => e_X11_reads id_ok A (70, 0) rfl x y) (op_reads R x y) (fun h1 k e => ?_)
  unfold f_G_reads at e
  rw [ao_69] at e
  refine inv_I (fun h1 v => rfl) (fun h1 e h2 k q => ?_) e
  repeat' split at q
  all_goals first | (cases q; exact ⟨by omega, by decide, rfl⟩) | cases q
theorem st_kudos {b : Bool} {g h : am_H} (O : Ob b g h) (x : Int32) (y : Int32)  : StI b d0 g h (f_X10_kudos (69, 0) x y g) (f_X10_kudos (rhoS b (69, 0)) x y h) (f_G_kudos (some (69, 0)) x y (some (71, 0)) g) (f_X11_kudos (70, 0) x y) vI := by
  obtain ⟨W, Cn, Tn, Sn, Qn, R⟩ := id O.2.2.2
  refine stepI O (e_X10_kudos (rhoS_ok b) O.1 (69, 0) rfl x y).toA (fun p q A => e_X11_kudos id_ok A (70, 0) rfl x y) (op_kudos R x y) (fun h1 k e => ?_)
  unfold f_G_kudos at e
  rw [ao_69] at e
  refine inv_I (fun h1 v => rfl) (fun h1 e h2 k q => ?_) e
  repeat' split at q
  all_goals first | (cases q; exact ⟨by omega, by decide, rfl⟩) | cases q
theorem st_liked {b : Bool} {g h : am_H} (O : Ob b g h) (x : Int32)  : StI b d0 g h (f_X10_liked (69, 0) x g) (f_X10_liked (rhoS b (69, 0)) x h) (f_G_liked (some (69, 0)) x (some (71, 0)) g) (f_X11_liked (70, 0) x) vI := by
  obtain ⟨W, Cn, Tn, Sn, Qn, R⟩ := id O.2.2.2
  refine stepI O (e_X10_liked (rhoS_ok b) O.1 (69, 0) rfl x).toA (fun p q A => e_X11_liked id_ok A (70, 0) rfl x) (op_liked R x) (fun h1 k e => ?_)
  unfold f_G_liked at e
  rw [ao_69] at e
  refine inv_I (fun h1 v => rfl) (fun h1 e h2 k q => ?_) e
  repeat' split at q
  all_goals first | (cases q; exact ⟨by omega, by decide, rfl⟩) | cases q
theorem st_subscribe {b : Bool} {g h : am_H} (O : Ob b g h) (x : Int32) (c : Bool) (y : Int32)  : StI b d0 g h (f_X10_subscribe (69, 0) x (bI c) y g) (f_X10_subscribe (rhoS b (69, 0)) x (bI c) y h) (f_G_subscribe (some (69, 0)) x (bI c) y (some (71, 0)) g) (f_X11_subscribe (70, 0) x (bI c) y) vB := by
  obtain ⟨W, Cn, Tn, Sn, Qn, R⟩ := id O.2.2.2
  refine stepI O (e_X10_subscribe (rhoS_ok b) O.1 (69, 0) rfl x (bI c) y).toA (fun p q A => e_X11_subscribe id_ok A (70, 0) rfl x (bI c) y) (op_subscribe R x c y) (fun h1 k e => ?_)
  unfold f_G_subscribe at e
  rw [ao_69] at e
  refine inv_I (fun h1 v => ?_) (fun h1 e h2 k q => ?_) e
  · exact bool_K (v := v)
  repeat' split at q
  all_goals first | (cases q; exact ⟨by omega, by decide, rfl⟩) | cases q
theorem st_news {b : Bool} {g h : am_H} (O : Ob b g h) (x : Int32)  : StI b d0 g h (f_X10_news (69, 0) x g) (f_X10_news (rhoS b (69, 0)) x h) (f_G_news (some (69, 0)) x (some (71, 0)) g) (f_X11_news (70, 0) x) vI := by
  obtain ⟨W, Cn, Tn, Sn, Qn, R⟩ := id O.2.2.2
  refine stepI O (e_X10_news (rhoS_ok b) O.1 (69, 0) rfl x).toA (fun p q A => e_X11_news id_ok A (70, 0) rfl x) (op_news R x) (fun h1 k e => ?_)
  unfold f_G_news at e
  rw [ao_69] at e
  refine inv_I (fun h1 v => rfl) (fun h1 e h2 k q => ?_) e
  repeat' split at q
  all_goals first | (cases q; exact ⟨by omega, by decide, rfl⟩) | cases q
theorem st_digest {b : Bool} {g h : am_H} (O : Ob b g h) (x : Int32)  : StI b d0 g h (f_X10_digest (69, 0) x g) (f_X10_digest (rhoS b (69, 0)) x h) (f_G_digest (some (69, 0)) x (some (71, 0)) g) (f_X11_digest (70, 0) x) vI := by
  obtain ⟨W, Cn, Tn, Sn, Qn, R⟩ := id O.2.2.2
  refine stepI O (e_X10_digest (rhoS_ok b) O.1 (69, 0) rfl x).toA (fun p q A => e_X11_digest id_ok A (70, 0) rfl x) (op_digest R x) (fun h1 k e => ?_)
  unfold f_G_digest at e
  rw [ao_69] at e
  refine inv_I (fun h1 v => rfl) (fun h1 e h2 k q => ?_) e
  repeat' split at q
  all_goals first | (cases q; exact ⟨by omega, by decide, rfl⟩) | cases q
