abbrev m_X5_mark : am_M := (yX5_mark, cX5_mark, 3, none, [])
def f_X5_mark_140   (h : am_H) : am_R := m_rt h none
theorem t_X5_mark_140 (d : Nat) (hd : 1 ≤ d)   (h : am_H) : Sim m_X5_mark d 140 [none, none, none] [] h (f_X5_mark_140   h) := by
  unfold f_X5_mark_140
  exact sim_vret dX5_mark_140 rfl
def f_X5_mark_103  (a0 : Nat × Nat) (x1 : Int32) (h : am_H) : am_R := if x1 = (124 : Int32) then (m_gR (some a0) 5 0 h fun o22 => m_gI (some a0) 5 3 h fun v23 => m_aI o22 0 v23 h fun v24 => m_gR (some a0) 5 1 h fun o25 => m_gI (some a0) 5 3 h fun v26 => m_aI o25 0 v26 h fun v27 => m_sI o22 v23 (v24 ||| v27) h fun h28 => m_gR (some a0) 5 1 h28 fun o29 => m_gI (some a0) 5 3 h28 fun v30 => m_sI o29 v30 (-1 : Int32) h28 fun h31 => f_X5_mark_140 h31) else (f_X5_mark_140 h)
theorem t_X5_mark_103 (d : Nat) (hd : 1 ≤ d)  (a0 : Nat × Nat) (x1 : Int32) (h : am_H) : Sim m_X5_mark d 103 [some (.inr (.inr (some a0))), some (.inl x1), none] [] h (f_X5_mark_103  a0 x1 h) := by
  unfold f_X5_mark_103
  refine sim_iload_n dX5_mark_103 rfl ?_
  refine sim_bipush (124) dX5_mark_104 (by decide +kernel) ?_
  refine sim_ic_ne 140 dX5_mark_106 (by decide) (fun c => ?_) (fun c => ?_)
  · exact sim_lv (am_leN (am_leN (am_leN am_leT))) (t_X5_mark_140 d (by omega) _)
  · refine sim_aload_n dX5_mark_109 rfl ?_
    refine sim_gR 5 0 dX5_mark_110 rfl wf_RX5_9 (Nat.le_of_ble_eq_true rfl) rfl (fun o22 => ?_)
    refine sim_aload_n dX5_mark_113 rfl ?_
    refine sim_gI 5 3 dX5_mark_114 rfl wf_RX5_22 (Nat.le_of_ble_eq_true rfl) rfl (fun v23 => ?_)
    refine sim_dup2 dX5_mark_117 ?_
    refine sim_aI dX5_mark_118 (fun v24 => ?_)
    refine sim_aload_n dX5_mark_119 rfl ?_
    refine sim_gR 5 1 dX5_mark_120 rfl wf_RX5_15 (Nat.le_of_ble_eq_true rfl) rfl (fun o25 => ?_)
    refine sim_aload_n dX5_mark_123 rfl ?_
    refine sim_gI 5 3 dX5_mark_124 rfl wf_RX5_22 (Nat.le_of_ble_eq_true rfl) rfl (fun v26 => ?_)
    refine sim_aI dX5_mark_127 (fun v27 => ?_)
    refine sim_ior dX5_mark_128 ?_
    refine sim_sI dX5_mark_129 (fun h28 => ?_)
    refine sim_aload_n dX5_mark_130 rfl ?_
    refine sim_gR 5 1 dX5_mark_131 rfl wf_RX5_15 (Nat.le_of_ble_eq_true rfl) rfl (fun o29 => ?_)
    refine sim_aload_n dX5_mark_134 rfl ?_
    refine sim_gI 5 3 dX5_mark_135 rfl wf_RX5_22 (Nat.le_of_ble_eq_true rfl) rfl (fun v30 => ?_)
    refine sim_iconst (-1) dX5_mark_138 (by decide +kernel) ?_
    refine sim_sI dX5_mark_139 (fun h31 => ?_)
    exact sim_lv (am_leN (am_leN (am_leN am_leT))) (t_X5_mark_140 d (by omega) _)
def f_X5_mark_67  (a0 : Nat × Nat) (x1 : Int32) (h : am_H) : am_R := if x1 = (41 : Int32) then (m_gI (some a0) 5 3 h fun v13 => if v13 ≤ 0 then (f_X5_mark_103 a0 x1 h) else (m_ao (some a0) 5 fun a16 => m_bI (f_X5_end a16 h) fun h14 v15 => m_gI (some a0) 5 3 h14 fun v17 => m_pI (some a0) 5 3 (v17 - (1 : Int32)) h14 fun h18 => m_ao (some a0) 5 fun a21 => m_bV (f_X5_item a21 v15 h18) fun h19 => f_X5_mark_140 h19)) else (f_X5_mark_103 a0 x1 h)
theorem t_X5_mark_67 (d : Nat) (hd : 1 ≤ d)  (a0 : Nat × Nat) (x1 : Int32) (h : am_H) : Sim m_X5_mark d 67 [some (.inr (.inr (some a0))), some (.inl x1), none] [] h (f_X5_mark_67  a0 x1 h) := by
  unfold f_X5_mark_67
  refine sim_iload_n dX5_mark_67 rfl ?_
  refine sim_bipush (41) dX5_mark_68 (by decide +kernel) ?_
  refine sim_ic_ne 103 dX5_mark_70 (by decide) (fun c => ?_) (fun c => ?_)
  · exact sim_lv (am_leS (am_leS (am_leN am_leT))) (t_X5_mark_103 d (by omega) _ _ _)
  · refine sim_aload_n dX5_mark_73 rfl ?_
    refine sim_gI 5 3 dX5_mark_74 rfl wf_RX5_22 (Nat.le_of_ble_eq_true rfl) rfl (fun v13 => ?_)
    refine sim_if_le 103 dX5_mark_77 (by decide) (fun c => ?_) (fun c => ?_)
    · exact sim_lv (am_leS (am_leS (am_leN am_leT))) (t_X5_mark_103 d (by omega) _ _ _)
    · refine sim_aload_n dX5_mark_80 rfl ?_
      refine sim_ao0 (fun a16 e => ?_)
      refine sim_virt (d - 1) e dX5_mark_81 (k_X5_end (d - 1) (by omega) _  _) q_X5_end rfl rfl wm_RX5_29 rfl rfl (by omega) (Nat.le_of_ble_eq_true rfl) am_nI (am_rI fun h14 v15 => ?_) am_eI
      refine sim_istore_n dX5_mark_84 (Nat.le_of_ble_eq_true rfl) ?_
      refine sim_aload_n dX5_mark_85 rfl ?_
      refine sim_dup_r dX5_mark_86 ?_
      refine sim_gI 5 3 dX5_mark_87 rfl wf_RX5_22 (Nat.le_of_ble_eq_true rfl) rfl (fun v17 => ?_)
      refine sim_iconst (1) dX5_mark_90 (by decide +kernel) ?_
      refine sim_isub dX5_mark_91 ?_
      refine sim_pI 5 3 dX5_mark_92 rfl wf_RX5_22 (Nat.le_of_ble_eq_true rfl) rfl (Or.inl rfl) rfl (fun h18 => ?_)
      refine sim_aload_n dX5_mark_95 rfl ?_
      refine sim_iload_n dX5_mark_96 rfl ?_
      refine sim_ao1 (fun a21 e => ?_)
      refine sim_virt (d - 1) e dX5_mark_97 (k_X5_item (d - 1) (by omega) _ _ _) q_X5_item rfl rfl wm_RX5_33 rfl rfl (by omega) (Nat.le_of_ble_eq_true rfl) am_nV (am_rV fun h19 => ?_) am_eV
      refine sim_goto 140 dX5_mark_100 (by decide) ?_
      exact sim_lv (am_leN (am_leN (am_leN am_leT))) (t_X5_mark_140 d (by omega) _)
def f_X5_mark_31  (s0 : Int32) (s1 : Int32) (s2 : Option (Nat × Nat)) (h : am_H) : am_R := m_sZ s2 s1 s0 h fun h12 => f_X5_mark_140 h12
theorem t_X5_mark_31 (d : Nat) (hd : 1 ≤ d)  (s0 : Int32) (s1 : Int32) (s2 : Option (Nat × Nat)) (h : am_H) : Sim m_X5_mark d 31 [none, none, none] [.inl s0, .inl s1, .inr (.inr s2)] h (f_X5_mark_31  s0 s1 s2 h) := by
  unfold f_X5_mark_31
  refine sim_sZ dX5_mark_31 (fun h12 => ?_)
  refine sim_goto 140 dX5_mark_32 (by decide) ?_
  exact sim_lv (am_leN (am_leN (am_leN am_leT))) (t_X5_mark_140 d (by omega) _)
def f_X5_mark (a0 : Nat × Nat) (x1 : Int32) (h : am_H) : am_R := if x1 = (33 : Int32) then (m_gR (some a0) 5 2 h fun o7 => m_gI (some a0) 5 3 h fun v8 => m_gR (some a0) 5 2 h fun o9 => m_gI (some a0) 5 3 h fun v10 => m_aI o9 1 v10 h fun v11 => if v11 = 0 then (f_X5_mark_31 (1 : Int32) v8 o7 h) else (f_X5_mark_31 (0 : Int32) v8 o7 h)) else (if x1 = (40 : Int32) then (m_gI (some a0) 5 3 h fun v1 => if (60 : Int32) ≤ v1 then (f_X5_mark_67 a0 x1 h) else (m_gI (some a0) 5 3 h fun v2 => m_pI (some a0) 5 3 (v2 + (1 : Int32)) h fun h3 => m_ao (some a0) 5 fun a6 => m_bV (f_X5_clear a6 h3) fun h4 => f_X5_mark_140 h4)) else (f_X5_mark_67 a0 x1 h))
theorem k_X5_mark (d : Nat) (hd : 1 ≤ d) (a0 : Nat × Nat) (x1 : Int32) (h : am_H) : am_Con m_X5_mark d [.inr (.inr (some a0)), .inl x1] h (f_X5_mark a0 x1 h) := am_con (by decide +kernel) (Nat.le_of_ble_eq_true rfl) (by
  unfold f_X5_mark
  refine sim_iload_n dX5_mark_0 rfl ?_
  refine sim_bipush (33) dX5_mark_1 (by decide +kernel) ?_
  refine sim_ic_ne 35 dX5_mark_3 (by decide) (fun c => ?_) (fun c => ?_)
  · refine sim_iload_n dX5_mark_35 rfl ?_
    refine sim_bipush (40) dX5_mark_36 (by decide +kernel) ?_
    refine sim_ic_ne 67 dX5_mark_38 (by decide) (fun c => ?_) (fun c => ?_)
    · exact sim_lv (am_leS (am_leS (am_leN am_leT))) (t_X5_mark_67 d (by omega) _ _ _)
    · refine sim_aload_n dX5_mark_41 rfl ?_
      refine sim_gI 5 3 dX5_mark_42 rfl wf_RX5_22 (Nat.le_of_ble_eq_true rfl) rfl (fun v1 => ?_)
      refine sim_bipush (60) dX5_mark_45 (by decide +kernel) ?_
      refine sim_ic_ge 67 dX5_mark_47 (by decide) (fun c => ?_) (fun c => ?_)
      · exact sim_lv (am_leS (am_leS (am_leN am_leT))) (t_X5_mark_67 d (by omega) _ _ _)
      · refine sim_aload_n dX5_mark_50 rfl ?_
        refine sim_dup_r dX5_mark_51 ?_
        refine sim_gI 5 3 dX5_mark_52 rfl wf_RX5_22 (Nat.le_of_ble_eq_true rfl) rfl (fun v2 => ?_)
        refine sim_iconst (1) dX5_mark_55 (by decide +kernel) ?_
        refine sim_iadd dX5_mark_56 ?_
        refine sim_pI 5 3 dX5_mark_57 rfl wf_RX5_22 (Nat.le_of_ble_eq_true rfl) rfl (Or.inl rfl) rfl (fun h3 => ?_)
        refine sim_aload_n dX5_mark_60 rfl ?_
        refine sim_ao0 (fun a6 e => ?_)
        refine sim_virt (d - 1) e dX5_mark_61 (k_X5_clear (d - 1) (by omega) _  _) q_X5_clear rfl rfl wm_RX5_26 rfl rfl (by omega) (Nat.le_of_ble_eq_true rfl) am_nV (am_rV fun h4 => ?_) am_eV
        refine sim_goto 140 dX5_mark_64 (by decide) ?_
        exact sim_lv (am_leN (am_leN (am_leN am_leT))) (t_X5_mark_140 d (by omega) _)
  · refine sim_aload_n dX5_mark_6 rfl ?_
    refine sim_gR 5 2 dX5_mark_7 rfl wf_RX5_18 (Nat.le_of_ble_eq_true rfl) rfl (fun o7 => ?_)
    refine sim_aload_n dX5_mark_10 rfl ?_
    refine sim_gI 5 3 dX5_mark_11 rfl wf_RX5_22 (Nat.le_of_ble_eq_true rfl) rfl (fun v8 => ?_)
    refine sim_aload_n dX5_mark_14 rfl ?_
    refine sim_gR 5 2 dX5_mark_15 rfl wf_RX5_18 (Nat.le_of_ble_eq_true rfl) rfl (fun o9 => ?_)
    refine sim_aload_n dX5_mark_18 rfl ?_
    refine sim_gI 5 3 dX5_mark_19 rfl wf_RX5_22 (Nat.le_of_ble_eq_true rfl) rfl (fun v10 => ?_)
    refine sim_aZ dX5_mark_22 (fun v11 => ?_)
    refine sim_if_ne 30 dX5_mark_23 (by decide) (fun c => ?_) (fun c => ?_)
    · refine sim_iconst (0) dX5_mark_30 (by decide +kernel) ?_
      exact sim_lv (am_leN (am_leN (am_leN am_leT))) (t_X5_mark_31 d (by omega) _ _ _ _)
    · refine sim_iconst (1) dX5_mark_26 (by decide +kernel) ?_
      refine sim_goto 31 dX5_mark_27 (by decide) ?_
      exact sim_lv (am_leN (am_leN (am_leN am_leT))) (t_X5_mark_31 d (by omega) _ _ _ _))
theorem q_X5_mark : am_Cal m_X5_mark 1 2 := ⟨am_mem 737 (w := Cond.code yX5_mark cX5_mark 3 none) (by decide +kernel) rfl, am_mem 34 (w := Cond.initialized RX5) (by decide +kernel) rfl, fun z => absurd z (by decide), fun _ => am_mem 735 (w := Cond.instanceMethod yX5_mark) (by decide +kernel) rfl, fun z => absurd z (by decide), fun _ => am_mem 736 (w := Cond.selects RX5 yX5_mark yX5_mark) (by decide +kernel) rfl, by decide +kernel, by decide +kernel, Nat.le_of_ble_eq_true rfl⟩
abbrev m_X5_start : am_M := (yX5_start, cX5_start, 1, none, [])
def f_X5_start (a0 : Nat × Nat) (h : am_H) : am_R := m_pI (some a0) 5 3 (0 : Int32) h fun h1 => m_ao (some a0) 5 fun a4 => m_bV (f_X5_clear a4 h1) fun h2 => m_rt h2 none
theorem k_X5_start (d : Nat) (hd : 1 ≤ d) (a0 : Nat × Nat) (h : am_H) : am_Con m_X5_start d [.inr (.inr (some a0))] h (f_X5_start a0 h) := am_con (by decide +kernel) (Nat.le_of_ble_eq_true rfl) (by
  unfold f_X5_start
  refine sim_aload_n dX5_start_0 rfl ?_
  refine sim_iconst (0) dX5_start_1 (by decide +kernel) ?_
  refine sim_pI 5 3 dX5_start_2 rfl wf_RX5_22 (Nat.le_of_ble_eq_true rfl) rfl (Or.inl rfl) rfl (fun h1 => ?_)
  refine sim_aload_n dX5_start_5 rfl ?_
  refine sim_ao0 (fun a4 e => ?_)
  refine sim_virt (d - 1) e dX5_start_6 (k_X5_clear (d - 1) (by omega) _  _) q_X5_clear rfl rfl wm_RX5_26 rfl rfl (by omega) (Nat.le_of_ble_eq_true rfl) am_nV (am_rV fun h2 => ?_) am_eV
  exact sim_vret dX5_start_9 rfl)
theorem q_X5_start : am_Cal m_X5_start 0 2 := ⟨am_mem 728 (w := Cond.code yX5_start cX5_start 1 none) (by decide +kernel) rfl, am_mem 34 (w := Cond.initialized RX5) (by decide +kernel) rfl, fun z => absurd z (by decide), fun _ => am_mem 726 (w := Cond.instanceMethod yX5_start) (by decide +kernel) rfl, fun z => absurd z (by decide), fun _ => am_mem 727 (w := Cond.selects RX5 yX5_start yX5_start) (by decide +kernel) rfl, by decide +kernel, by decide +kernel, Nat.le_of_ble_eq_true rfl⟩
abbrev m_X10_found : am_M := (yX10_found, cX10_found, 6, some .int, [])
def f_X10_found_92 (rc22 : Nat × Nat → Int32 → Int32 → Option (Nat × Nat) → Int32 → am_H → am_R) (a0 : Nat × Nat) (x1 : Int32) (x2 : Int32) (x3 : Option (Nat × Nat)) (x4 : Int32) (h : am_H) : am_R := rc22 a0 x1 x2 x3 (x4 + 1) h
theorem t_X10_found_92 (d : Nat) (hd : 5 ≤ d) (rc22 : Nat × Nat → Int32 → Int32 → Option (Nat × Nat) → Int32 → am_H → am_R) (hrc22 : ∀ a0 x1 x2 x3 x4 h, Sim m_X10_found d 22 [some (.inr (.inr (some a0))), some (.inl x1), some (.inl x2), some (.inr (.inr x3)), some (.inl x4), none] [] h (rc22 a0 x1 x2 x3 x4 h)) (a0 : Nat × Nat) (x1 : Int32) (x2 : Int32) (x3 : Option (Nat × Nat)) (x4 : Int32) (h : am_H) : Sim m_X10_found d 92 [some (.inr (.inr (some a0))), some (.inl x1), some (.inl x2), some (.inr (.inr x3)), some (.inl x4), none] [] h (f_X10_found_92 rc22 a0 x1 x2 x3 x4 h) := by
  unfold f_X10_found_92
  refine sim_iinc (1) dX10_found_92 rfl (by decide +kernel) (Nat.le_of_ble_eq_true rfl) ?_
  refine sim_goto 22 dX10_found_95 (by decide) ?_
  exact sim_lv (am_leS (am_leS (am_leS (am_leS (am_leS (am_leN am_leT)))))) (hrc22 _ _ _ _ _ _)
def f_X10_found_22  : Nat → Nat × Nat → Int32 → Int32 → Option (Nat × Nat) → Int32 → am_H → am_R
  | 0, _, _, _, _, _, _ => none
  | n + 1, a0, x1, x2, x3, x4, h => m_gR (some a0) 10 8 h fun o10 => m_gI o10 8 1 h fun v11 => if v11 ≤ x4 then (m_gR (some a0) 10 9 h fun o12 => m_ao o12 5 fun a15 => m_bI (f_X5_end a15 h) fun h13 v14 => m_ao (some a0) 10 fun a18 => m_bI (f_X10_worksSeenBy a18 x1 h13) fun h16 v17 => m_ri h16 (v14 &&& v17)) else (m_gR (some a0) 10 8 h fun o19 => m_gR o19 8 0 h fun o20 => m_aI o20 2 x4 h fun v21 => m_ao x3 4 fun a24 => m_bI (f_X4_takes a24 v21 h) fun h22 v23 => m_gR (some a0) 10 9 h22 fun o25 => m_ao o25 5 fun a28 => m_bV (f_X5_mark a28 v21 h22) fun h26 => m_ao x3 4 fun a31 => m_bI (f_X4_hasItem a31 v21 h26) fun h29 v30 => if v30 = 0 then (f_X10_found_92 (f_X10_found_22  n) a0 x1 x2 x3 x4 h29) else (m_gR (some a0) 10 9 h29 fun o32 => m_gI x3 4 3 h29 fun v33 => m_gI x3 4 4 h29 fun v34 => m_ao (some a0) 10 fun a37 => m_bI (f_X10_worksOfItem a37 v33 v34 x1 x2 h29) fun h35 v36 => m_ao o32 5 fun a40 => m_bV (f_X5_item a40 v36 h35) fun h38 => f_X10_found_92 (f_X10_found_22  n) a0 x1 x2 x3 x4 h38))
theorem t_X10_found_22 (d : Nat) (hd : 5 ≤ d)  : ∀ (n : Nat) (a0 : Nat × Nat) (x1 : Int32) (x2 : Int32) (x3 : Option (Nat × Nat)) (x4 : Int32) (h : am_H), Sim m_X10_found d 22 [some (.inr (.inr (some a0))), some (.inl x1), some (.inl x2), some (.inr (.inr x3)), some (.inl x4), none] [] h (f_X10_found_22  n a0 x1 x2 x3 x4 h) := by
  intro n
  induction n with
  | zero => intros; exact sim_none
  | succ n hrc22 =>
    intro a0 x1 x2 x3 x4 h
    rw [f_X10_found_22]
    refine sim_iload dX10_found_22 rfl ?_
    refine sim_aload_n dX10_found_24 rfl ?_
    refine sim_gR 10 8 dX10_found_25 rfl wf_RX10_41 (Nat.le_of_ble_eq_true rfl) rfl (fun o10 => ?_)
    refine sim_gI 8 1 dX10_found_28 rfl wf_RX10_263 (Nat.le_of_ble_eq_true rfl) rfl (fun v11 => ?_)
    refine sim_ic_ge 98 dX10_found_31 (by decide) (fun c => ?_) (fun c => ?_)
    · refine sim_aload_n dX10_found_98 rfl ?_
      refine sim_gR 10 9 dX10_found_99 rfl wf_RX10_48 (Nat.le_of_ble_eq_true rfl) rfl (fun o12 => ?_)
      refine sim_ao0 (fun a15 e => ?_)
      refine sim_virt (d - 1) e dX10_found_102 (k_X5_end (d - 1) (by omega) _  _) q_X5_end rfl rfl wm_RX10_430 rfl rfl (by omega) (Nat.le_of_ble_eq_true rfl) am_nI (am_rI fun h13 v14 => ?_) am_eI
      refine sim_aload_n dX10_found_105 rfl ?_
      refine sim_iload_n dX10_found_106 rfl ?_
      refine sim_ao1 (fun a18 e => ?_)
      refine sim_virt (d - 1) e dX10_found_107 (k_X10_worksSeenBy (d - 1) (by omega) _ _ _) q_X10_worksSeenBy rfl rfl wm_RX10_433 rfl rfl (by omega) (Nat.le_of_ble_eq_true rfl) am_nI (am_rI fun h16 v17 => ?_) am_eI
      refine sim_iand dX10_found_110 ?_
      exact sim_iret dX10_found_111 rfl
    · refine sim_aload_n dX10_found_34 rfl ?_
      refine sim_gR 10 8 dX10_found_35 rfl wf_RX10_41 (Nat.le_of_ble_eq_true rfl) rfl (fun o19 => ?_)
      refine sim_gR 8 0 dX10_found_38 rfl wf_RX10_403 (Nat.le_of_ble_eq_true rfl) rfl (fun o20 => ?_)
      refine sim_iload dX10_found_41 rfl ?_
      refine sim_aC dX10_found_43 (fun v21 => ?_)
      refine sim_istore dX10_found_44 (Nat.le_of_ble_eq_true rfl) ?_
      refine sim_aload_n dX10_found_46 rfl ?_
      refine sim_iload dX10_found_47 rfl ?_
      refine sim_ao1 (fun a24 e => ?_)
      refine sim_virt (d - 1) e dX10_found_49 (k_X4_takes (d - 1) (by omega) _ _ _) q_X4_takes rfl rfl wm_RX10_407 rfl rfl (by omega) (Nat.le_of_ble_eq_true rfl) am_nI (am_rI fun h22 v23 => ?_) am_eI
      refine sim_pop_i dX10_found_52 ?_
      refine sim_aload_n dX10_found_53 rfl ?_
      refine sim_gR 10 9 dX10_found_54 rfl wf_RX10_48 (Nat.le_of_ble_eq_true rfl) rfl (fun o25 => ?_)
      refine sim_iload dX10_found_57 rfl ?_
      refine sim_ao1 (fun a28 e => ?_)
      refine sim_virt (d - 1) e dX10_found_59 (k_X5_mark (d - 1) (by omega) _ _ _) q_X5_mark rfl rfl wm_RX10_410 rfl rfl (by omega) (Nat.le_of_ble_eq_true rfl) am_nV (am_rV fun h26 => ?_) am_eV
      refine sim_aload_n dX10_found_62 rfl ?_
      refine sim_iload dX10_found_63 rfl ?_
      refine sim_ao1 (fun a31 e => ?_)
      refine sim_virt (d - 1) e dX10_found_65 (k_X4_hasItem (d - 1) (by omega) _ _ _) q_X4_hasItem rfl rfl wm_RX10_413 rfl rfl (by omega) (Nat.le_of_ble_eq_true rfl) am_nI (am_rI fun h29 v30 => ?_) am_eI
      refine sim_if_eq 92 dX10_found_68 (by decide) (fun c => ?_) (fun c => ?_)
      · exact sim_lv (am_leS (am_leS (am_leS (am_leS (am_leS (am_leN am_leT)))))) (t_X10_found_92 d (by omega) _ hrc22 _ _ _ _ _ _)
      · refine sim_aload_n dX10_found_71 rfl ?_
        refine sim_gR 10 9 dX10_found_72 rfl wf_RX10_48 (Nat.le_of_ble_eq_true rfl) rfl (fun o32 => ?_)
        refine sim_aload_n dX10_found_75 rfl ?_
        refine sim_aload_n dX10_found_76 rfl ?_
        refine sim_gI 4 3 dX10_found_77 rfl wf_RX10_416 (Nat.le_of_ble_eq_true rfl) rfl (fun v33 => ?_)
        refine sim_aload_n dX10_found_80 rfl ?_
        refine sim_gI 4 4 dX10_found_81 rfl wf_RX10_420 (Nat.le_of_ble_eq_true rfl) rfl (fun v34 => ?_)
        refine sim_iload_n dX10_found_84 rfl ?_
        refine sim_iload_n dX10_found_85 rfl ?_
        refine sim_ao4 (fun a37 e => ?_)
        refine sim_virt (d - 1) e dX10_found_86 (k_X10_worksOfItem (d - 1) (by omega) _ _ _ _ _ _) q_X10_worksOfItem rfl rfl wm_RX10_423 rfl rfl (by omega) (Nat.le_of_ble_eq_true rfl) am_nI (am_rI fun h35 v36 => ?_) am_eI
        refine sim_ao1 (fun a40 e => ?_)
        refine sim_virt (d - 1) e dX10_found_89 (k_X5_item (d - 1) (by omega) _ _ _) q_X5_item rfl rfl wm_RX10_427 rfl rfl (by omega) (Nat.le_of_ble_eq_true rfl) am_nV (am_rV fun h38 => ?_) am_eV
        exact sim_lv (am_leS (am_leS (am_leS (am_leS (am_leS (am_leN am_leT)))))) (t_X10_found_92 d (by omega) _ hrc22 _ _ _ _ _ _)
def f_X10_found (a0 : Nat × Nat) (x1 : Int32) (x2 : Int32) (h : am_H) : am_R := m_gR (some a0) 10 8 h fun o1 => m_gR o1 8 2 h fun o2 => m_ao o2 4 fun a5 => m_bV (f_X4_start a5 h) fun h3 => m_gR (some a0) 10 9 h3 fun o6 => m_ao o6 5 fun a9 => m_bV (f_X5_start a9 h3) fun h7 => f_X10_found_22 5000 a0 x1 x2 o2 (0 : Int32) h7
theorem k_X10_found (d : Nat) (hd : 5 ≤ d) (a0 : Nat × Nat) (x1 : Int32) (x2 : Int32) (h : am_H) : am_Con m_X10_found d [.inr (.inr (some a0)), .inl x1, .inl x2] h (f_X10_found a0 x1 x2 h) := am_con (by decide +kernel) (Nat.le_of_ble_eq_true rfl) (by
  unfold f_X10_found
  refine sim_aload_n dX10_found_0 rfl ?_
  refine sim_gR 10 8 dX10_found_1 rfl wf_RX10_41 (Nat.le_of_ble_eq_true rfl) rfl (fun o1 => ?_)
  refine sim_gR 8 2 dX10_found_4 rfl wf_RX10_393 (Nat.le_of_ble_eq_true rfl) rfl (fun o2 => ?_)
  refine sim_astore_n dX10_found_7 (Nat.le_of_ble_eq_true rfl) ?_
  refine sim_aload_n dX10_found_8 rfl ?_
  refine sim_ao0 (fun a5 e => ?_)
  refine sim_virt (d - 1) e dX10_found_9 (k_X4_start (d - 1) (by omega) _  _) q_X4_start rfl rfl wm_RX10_397 rfl rfl (by omega) (Nat.le_of_ble_eq_true rfl) am_nV (am_rV fun h3 => ?_) am_eV
  refine sim_aload_n dX10_found_12 rfl ?_
  refine sim_gR 10 9 dX10_found_13 rfl wf_RX10_48 (Nat.le_of_ble_eq_true rfl) rfl (fun o6 => ?_)
  refine sim_ao0 (fun a9 e => ?_)
  refine sim_virt (d - 1) e dX10_found_16 (k_X5_start (d - 1) (by omega) _  _) q_X5_start rfl rfl wm_RX10_402 rfl rfl (by omega) (Nat.le_of_ble_eq_true rfl) am_nV (am_rV fun h7 => ?_) am_eV
  refine sim_iconst (0) dX10_found_19 (by decide +kernel) ?_
  refine sim_istore dX10_found_20 (Nat.le_of_ble_eq_true rfl) ?_
  exact sim_lv (am_leS (am_leS (am_leS (am_leS (am_leS (am_leN am_leT)))))) (t_X10_found_22 d (by omega) _ _ _ _ _ _ _))
theorem q_X10_found : am_Cal m_X10_found 2 2 := ⟨am_mem 723 (w := Cond.code yX10_found cX10_found 6 (some .int)) (by decide +kernel) rfl, am_mem 30 (w := Cond.initialized RX10) (by decide +kernel) rfl, fun z => absurd z (by decide), fun _ => am_mem 722 (w := Cond.instanceMethod yX10_found) (by decide +kernel) rfl, fun z => absurd z (by decide), fun _ => am_mem 13 (w := Cond.selects RX10 yX10_found yX10_found) (by decide +kernel) rfl, by decide +kernel, by decide +kernel, Nat.le_of_ble_eq_true rfl⟩
abbrev m_X10_result : am_M := (yX10_result, cX10_result, 5, some .int, [])
def f_X10_result_65 (rc33 : Nat × Nat → Int32 → Int32 → Int32 → am_H → am_R) (a0 : Nat × Nat) (x2 : Int32) (x3 : Int32) (x4 : Int32) (h : am_H) : am_R := rc33 a0 x2 x3 (x4 + 1) h
theorem t_X10_result_65 (d : Nat) (hd : 7 ≤ d) (rc33 : Nat × Nat → Int32 → Int32 → Int32 → am_H → am_R) (hrc33 : ∀ a0 x2 x3 x4 h, Sim m_X10_result d 33 [some (.inr (.inr (some a0))), none, some (.inl x2), some (.inl x3), some (.inl x4)] [] h (rc33 a0 x2 x3 x4 h)) (a0 : Nat × Nat) (x2 : Int32) (x3 : Int32) (x4 : Int32) (h : am_H) : Sim m_X10_result d 65 [some (.inr (.inr (some a0))), none, some (.inl x2), some (.inl x3), some (.inl x4)] [] h (f_X10_result_65 rc33 a0 x2 x3 x4 h) := by
  unfold f_X10_result_65
  refine sim_iinc (1) dX10_result_65 rfl (by decide +kernel) (Nat.le_of_ble_eq_true rfl) ?_
  refine sim_goto 33 dX10_result_68 (by decide) ?_
  exact sim_lv (am_leS (am_leN (am_leS (am_leS (am_leS am_leT))))) (hrc33 _ _ _ _ _)
def f_X10_result_33  : Nat → Nat × Nat → Int32 → Int32 → Int32 → am_H → am_R
  | 0, _, _, _, _, _ => none
  | n + 1, a0, x2, x3, x4, h => m_gI (some a0) 10 4 h fun v9 => if v9 ≤ x4 then (m_ri h (-1 : Int32)) else (m_bI (f_X10_has x3 x4 h) fun h10 v11 => if v11 = 0 then (f_X10_result_65 (f_X10_result_33  n) a0 x2 x3 x4 h10) else (m_ao (some a0) 10 fun a14 => m_bI (f_X10_countAheadOf a14 x4 x3 h10) fun h12 v13 => if v13 = x2 then (m_ri h12 x4) else (f_X10_result_65 (f_X10_result_33  n) a0 x2 x3 x4 h12)))
theorem t_X10_result_33 (d : Nat) (hd : 7 ≤ d)  : ∀ (n : Nat) (a0 : Nat × Nat) (x2 : Int32) (x3 : Int32) (x4 : Int32) (h : am_H), Sim m_X10_result d 33 [some (.inr (.inr (some a0))), none, some (.inl x2), some (.inl x3), some (.inl x4)] [] h (f_X10_result_33  n a0 x2 x3 x4 h) := by
  intro n
  induction n with
  | zero => intros; exact sim_none
  | succ n hrc33 =>
    intro a0 x2 x3 x4 h
    rw [f_X10_result_33]
    refine sim_iload dX10_result_33 rfl ?_
    refine sim_aload_n dX10_result_35 rfl ?_
    refine sim_gI 10 4 dX10_result_36 rfl wf_RX10_104 (Nat.le_of_ble_eq_true rfl) rfl (fun v9 => ?_)
    refine sim_ic_ge 71 dX10_result_39 (by decide) (fun c => ?_) (fun c => ?_)
    · refine sim_iconst (-1) dX10_result_71 (by decide +kernel) ?_
      exact sim_iret dX10_result_72 rfl
    · refine sim_iload_n dX10_result_42 rfl ?_
      refine sim_iload dX10_result_43 rfl ?_
      refine sim_static (d - 1) dX10_result_45 (k_X10_has (d - 1) (by omega) _ _ _) q_X10_has wm_RX10_91 rfl rfl (by omega) (Nat.le_of_ble_eq_true rfl) am_nI (am_rI fun h10 v11 => ?_) am_eI
      refine sim_if_eq 65 dX10_result_48 (by decide) (fun c => ?_) (fun c => ?_)
      · exact sim_lv (am_leS (am_leN (am_leS (am_leS (am_leS am_leT))))) (t_X10_result_65 d (by omega) _ hrc33 _ _ _ _ _)
      · refine sim_aload_n dX10_result_51 rfl ?_
        refine sim_iload dX10_result_52 rfl ?_
        refine sim_iload_n dX10_result_54 rfl ?_
        refine sim_ao2 (fun a14 e => ?_)
        refine sim_virt (d - 1) e dX10_result_55 (k_X10_countAheadOf (d - 1) (by omega) _ _ _ _) q_X10_countAheadOf rfl rfl wm_RX10_283 rfl rfl (by omega) (Nat.le_of_ble_eq_true rfl) am_nI (am_rI fun h12 v13 => ?_) am_eI
        refine sim_iload_n dX10_result_58 rfl ?_
        refine sim_ic_ne 65 dX10_result_59 (by decide) (fun c => ?_) (fun c => ?_)
        · exact sim_lv (am_leS (am_leN (am_leS (am_leS (am_leS am_leT))))) (t_X10_result_65 d (by omega) _ hrc33 _ _ _ _ _)
        · refine sim_iload dX10_result_62 rfl ?_
          exact sim_iret dX10_result_64 rfl
def f_X10_result (a0 : Nat × Nat) (x1 : Int32) (x2 : Int32) (h : am_H) : am_R := m_bV (f_X10_checkFace x1 h) fun h1 => if 0 ≤ x2 then (m_ao (some a0) 10 fun a5 => m_bV (f_X10_checkQuery a5 h1) fun h3 => m_ao (some a0) 10 fun a8 => m_bI (f_X10_found a8 x1 (0 : Int32) h3) fun h6 v7 => f_X10_result_33 5000 a0 x2 v7 (0 : Int32) h6) else (m_ex h1 0)
theorem k_X10_result (d : Nat) (hd : 7 ≤ d) (a0 : Nat × Nat) (x1 : Int32) (x2 : Int32) (h : am_H) : am_Con m_X10_result d [.inr (.inr (some a0)), .inl x1, .inl x2] h (f_X10_result a0 x1 x2 h) := am_con (by decide +kernel) (Nat.le_of_ble_eq_true rfl) (by
  unfold f_X10_result
  refine sim_iload_n dX10_result_0 rfl ?_
  refine sim_static (d - 1) dX10_result_1 (k_X10_checkFace (d - 1) (by omega) _ _) q_X10_checkFace wm_RX10_99 rfl rfl (by omega) (Nat.le_of_ble_eq_true rfl) am_nV (am_rV fun h1 => ?_) am_eV
  refine sim_iload_n dX10_result_4 rfl ?_
  refine sim_if_ge 19 dX10_result_5 (by decide) (fun c => ?_) (fun c => ?_)
  · refine sim_aload_n dX10_result_19 rfl ?_
    refine sim_ao0 (fun a5 e => ?_)
    refine sim_virt (d - 1) e dX10_result_20 (k_X10_checkQuery (d - 1) (by omega) _  _) q_X10_checkQuery rfl rfl wm_RX10_274 rfl rfl (by omega) (Nat.le_of_ble_eq_true rfl) am_nV (am_rV fun h3 => ?_) am_eV
    refine sim_aload_n dX10_result_23 rfl ?_
    refine sim_iload_n dX10_result_24 rfl ?_
    refine sim_iconst (0) dX10_result_25 (by decide +kernel) ?_
    refine sim_ao2 (fun a8 e => ?_)
    refine sim_virt (d - 1) e dX10_result_26 (k_X10_found (d - 1) (by omega) _ _ _ _) q_X10_found rfl rfl wm_RX10_277 rfl rfl (by omega) (Nat.le_of_ble_eq_true rfl) am_nI (am_rI fun h6 v7 => ?_) am_eI
    refine sim_istore_n dX10_result_29 (Nat.le_of_ble_eq_true rfl) ?_
    refine sim_iconst (0) dX10_result_30 (by decide +kernel) ?_
    refine sim_istore dX10_result_31 (Nat.le_of_ble_eq_true rfl) ?_
    exact sim_lv (am_leS (am_leN (am_leS (am_leS (am_leS am_leT))))) (t_X10_result_33 d (by omega) _ _ _ _ _ _)
  · exact sim_throwW 0 (by decide) dX10_result_8 dX10_result_11 dX10_result_12 dX10_result_15 dX10_result_18 wx_RX10_162 wy_0 ws_RX10_281 at_RX10_166 gd_RX10_166 (by omega) (Nat.le_of_ble_eq_true rfl))
theorem q_X10_result : am_Cal m_X10_result 2 2 := ⟨am_mem 767 (w := Cond.code yX10_result cX10_result 5 (some .int)) (by decide +kernel) rfl, am_mem 30 (w := Cond.initialized RX10) (by decide +kernel) rfl, fun z => absurd z (by decide), fun _ => am_mem 765 (w := Cond.instanceMethod yX10_result) (by decide +kernel) rfl, fun z => absurd z (by decide), fun _ => am_mem 766 (w := Cond.selects RX10 yX10_result yX10_result) (by decide +kernel) rfl, by decide +kernel, by decide +kernel, Nat.le_of_ble_eq_true rfl⟩
abbrev m_X10_search : am_M := (yX10_search, cX10_search, 3, some .int, [])
def f_X10_search (a0 : Nat × Nat) (x1 : Int32) (x2 : Int32) (h : am_H) : am_R := m_bV (f_X10_checkFace x1 h) fun h1 => m_ao (some a0) 10 fun a5 => m_bV (f_X10_checkQuery a5 h1) fun h3 => m_ao (some a0) 10 fun a8 => m_bI (f_X10_found a8 x1 x2 h3) fun h6 v7 => m_ri h6 v7
theorem k_X10_search (d : Nat) (hd : 7 ≤ d) (a0 : Nat × Nat) (x1 : Int32) (x2 : Int32) (h : am_H) : am_Con m_X10_search d [.inr (.inr (some a0)), .inl x1, .inl x2] h (f_X10_search a0 x1 x2 h) := am_con (by decide +kernel) (Nat.le_of_ble_eq_true rfl) (by
  unfold f_X10_search
  refine sim_iload_n dX10_search_0 rfl ?_
  refine sim_static (d - 1) dX10_search_1 (k_X10_checkFace (d - 1) (by omega) _ _) q_X10_checkFace wm_RX10_99 rfl rfl (by omega) (Nat.le_of_ble_eq_true rfl) am_nV (am_rV fun h1 => ?_) am_eV
  refine sim_aload_n dX10_search_4 rfl ?_
  refine sim_ao0 (fun a5 e => ?_)
  refine sim_virt (d - 1) e dX10_search_5 (k_X10_checkQuery (d - 1) (by omega) _  _) q_X10_checkQuery rfl rfl wm_RX10_274 rfl rfl (by omega) (Nat.le_of_ble_eq_true rfl) am_nV (am_rV fun h3 => ?_) am_eV
  refine sim_aload_n dX10_search_8 rfl ?_
  refine sim_iload_n dX10_search_9 rfl ?_
  refine sim_iload_n dX10_search_10 rfl ?_
  refine sim_ao2 (fun a8 e => ?_)
  refine sim_virt (d - 1) e dX10_search_11 (k_X10_found (d - 1) (by omega) _ _ _ _) q_X10_found rfl rfl wm_RX10_277 rfl rfl (by omega) (Nat.le_of_ble_eq_true rfl) am_nI (am_rI fun h6 v7 => ?_) am_eI
  exact sim_iret dX10_search_14 rfl)
theorem q_X10_search : am_Cal m_X10_search 2 2 := ⟨am_mem 681 (w := Cond.code yX10_search cX10_search 3 (some .int)) (by decide +kernel) rfl, am_mem 30 (w := Cond.initialized RX10) (by decide +kernel) rfl, fun z => absurd z (by decide), fun _ => am_mem 679 (w := Cond.instanceMethod yX10_search) (by decide +kernel) rfl, fun z => absurd z (by decide), fun _ => am_mem 680 (w := Cond.selects RX10 yX10_search yX10_search) (by decide +kernel) rfl, by decide +kernel, by decide +kernel, Nat.le_of_ble_eq_true rfl⟩
abbrev m_X10_isWithin : am_M := (yX10_isWithin, cX10_isWithin, 2, some .boolean, [])
def f_X10_isWithin_11  (s0 : Int32) (h : am_H) : am_R := m_rz h s0
theorem t_X10_isWithin_11 (d : Nat) (hd : 0 ≤ d)  (s0 : Int32) (h : am_H) : Sim m_X10_isWithin d 11 [none, none] [.inl s0] h (f_X10_isWithin_11  s0 h) := by
  unfold f_X10_isWithin_11
  exact sim_zret dX10_isWithin_11 rfl
def f_X10_isWithin (x0 : Int32) (x1 : Int32) (h : am_H) : am_R := if (m_ushr x0 x1) = 0 then (f_X10_isWithin_11 (1 : Int32) h) else (f_X10_isWithin_11 (0 : Int32) h)
theorem k_X10_isWithin (d : Nat) (hd : 0 ≤ d) (x0 : Int32) (x1 : Int32) (h : am_H) : am_Con m_X10_isWithin d [.inl x0, .inl x1] h (f_X10_isWithin x0 x1 h) := am_con (by decide +kernel) (Nat.le_of_ble_eq_true rfl) (by
  unfold f_X10_isWithin
  refine sim_iload_n dX10_isWithin_0 rfl ?_
  refine sim_iload_n dX10_isWithin_1 rfl ?_
  refine sim_iushr dX10_isWithin_2 ?_
  refine sim_if_ne 10 dX10_isWithin_3 (by decide) (fun c => ?_) (fun c => ?_)
  · refine sim_iconst (0) dX10_isWithin_10 (by decide +kernel) ?_
    exact sim_lv (am_leN (am_leN am_leT)) (t_X10_isWithin_11 d (by omega) _ _)
  · refine sim_iconst (1) dX10_isWithin_6 (by decide +kernel) ?_
    refine sim_goto 11 dX10_isWithin_7 (by decide) ?_
    exact sim_lv (am_leN (am_leN am_leT)) (t_X10_isWithin_11 d (by omega) _ _))
theorem q_X10_isWithin : am_Cal m_X10_isWithin 2 0 := ⟨am_mem 790 (w := Cond.code yX10_isWithin cX10_isWithin 2 (some .boolean)) (by decide +kernel) rfl, am_mem 30 (w := Cond.initialized RX10) (by decide +kernel) rfl, fun _ => am_mem 789 (w := Cond.static yX10_isWithin) (by decide +kernel) rfl, fun z => absurd rfl z, fun z => absurd z (by decide), fun z => absurd z (by decide), by decide +kernel, by decide +kernel, Nat.le_of_ble_eq_true rfl⟩
abbrev m_X2_add : am_M := (yX2_add, cX2_add, 2, some .int, [])
def f_X2_add (a0 : Nat × Nat) (x1 : Option (Nat × Nat)) (h : am_H) : am_R := m_gR (some a0) 2 0 h fun o1 => m_gI (some a0) 2 1 h fun v2 => m_sR o1 8 6 v2 x1 h fun h3 => m_gI (some a0) 2 1 h3 fun v4 => m_pI (some a0) 2 1 (v4 + (1 : Int32)) h3 fun h5 => m_gI (some a0) 2 1 h5 fun v6 => m_ri h5 (v6 - (1 : Int32))
theorem k_X2_add (d : Nat) (hd : 0 ≤ d) (a0 : Nat × Nat) (x1 : Option (Nat × Nat)) (h : am_H) : am_Con m_X2_add d [.inr (.inr (some a0)), .inr (.inr x1)] h (f_X2_add a0 x1 h) := am_con (by decide +kernel) (Nat.le_of_ble_eq_true rfl) (by
  unfold f_X2_add
  refine sim_aload_n dX2_add_0 rfl ?_
  refine sim_gR 2 0 dX2_add_1 rfl wf_RX2_11 (Nat.le_of_ble_eq_true rfl) rfl (fun o1 => ?_)
  refine sim_aload_n dX2_add_4 rfl ?_
  refine sim_gI 2 1 dX2_add_5 rfl wf_RX2_24 (Nat.le_of_ble_eq_true rfl) rfl (fun v2 => ?_)
  refine sim_aload_n dX2_add_8 rfl ?_
  refine sim_sR 8 rfl dX2_add_9 (fun h3 => ?_)
  refine sim_aload_n dX2_add_10 rfl ?_
  refine sim_dup_r dX2_add_11 ?_
  refine sim_gI 2 1 dX2_add_12 rfl wf_RX2_24 (Nat.le_of_ble_eq_true rfl) rfl (fun v4 => ?_)
  refine sim_iconst (1) dX2_add_15 (by decide +kernel) ?_
  refine sim_iadd dX2_add_16 ?_
  refine sim_pI 2 1 dX2_add_17 rfl wf_RX2_24 (Nat.le_of_ble_eq_true rfl) rfl (Or.inl rfl) rfl (fun h5 => ?_)
  refine sim_aload_n dX2_add_20 rfl ?_
  refine sim_gI 2 1 dX2_add_21 rfl wf_RX2_24 (Nat.le_of_ble_eq_true rfl) rfl (fun v6 => ?_)
  refine sim_iconst (1) dX2_add_24 (by decide +kernel) ?_
  refine sim_isub dX2_add_25 ?_
  exact sim_iret dX2_add_26 rfl)
theorem q_X2_add : am_Cal m_X2_add 1 2 := ⟨am_mem 820 (w := Cond.code yX2_add cX2_add 2 (some .int)) (by decide +kernel) rfl, am_mem 35 (w := Cond.initialized RX2) (by decide +kernel) rfl, fun z => absurd z (by decide), fun _ => am_mem 818 (w := Cond.instanceMethod yX2_add) (by decide +kernel) rfl, fun z => absurd z (by decide), fun _ => am_mem 819 (w := Cond.selects RX2 yX2_add yX2_add) (by decide +kernel) rfl, by decide +kernel, by decide +kernel, Nat.le_of_ble_eq_true rfl⟩
abbrev m_X2_hasSignOf : am_M := (yX2_hasSignOf, cX2_hasSignOf, 3, some .boolean, [])
def f_X2_hasSignOf_2  : Nat → Nat × Nat → Int32 → Int32 → am_H → am_R
  | 0, _, _, _, _ => none
  | n + 1, a0, x1, x2, h => m_gI (some a0) 2 1 h fun v1 => if v1 ≤ x2 then (m_rz h (0 : Int32)) else (m_gR (some a0) 2 0 h fun o2 => m_aR o2 8 x2 h fun o3 => m_gI o3 6 0 h fun v4 => if v4 = x1 then (m_rz h (1 : Int32)) else ((f_X2_hasSignOf_2  n) a0 x1 (x2 + 1) h))
theorem t_X2_hasSignOf_2 (d : Nat) (hd : 0 ≤ d)  : ∀ (n : Nat) (a0 : Nat × Nat) (x1 : Int32) (x2 : Int32) (h : am_H), Sim m_X2_hasSignOf d 2 [some (.inr (.inr (some a0))), some (.inl x1), some (.inl x2)] [] h (f_X2_hasSignOf_2  n a0 x1 x2 h) := by
  intro n
  induction n with
  | zero => intros; exact sim_none
  | succ n hrc2 =>
    intro a0 x1 x2 h
    rw [f_X2_hasSignOf_2]
    refine sim_iload_n dX2_hasSignOf_2 rfl ?_
    refine sim_aload_n dX2_hasSignOf_3 rfl ?_
    refine sim_gI 2 1 dX2_hasSignOf_4 rfl wf_RX2_24 (Nat.le_of_ble_eq_true rfl) rfl (fun v1 => ?_)
    refine sim_ic_ge 31 dX2_hasSignOf_7 (by decide) (fun c => ?_) (fun c => ?_)
    · refine sim_iconst (0) dX2_hasSignOf_31 (by decide +kernel) ?_
      exact sim_zret dX2_hasSignOf_32 rfl
    · refine sim_aload_n dX2_hasSignOf_10 rfl ?_
      refine sim_gR 2 0 dX2_hasSignOf_11 rfl wf_RX2_11 (Nat.le_of_ble_eq_true rfl) rfl (fun o2 => ?_)
      refine sim_iload_n dX2_hasSignOf_14 rfl ?_
      refine sim_aR 8 rfl dX2_hasSignOf_15 (fun o3 => ?_)
      refine sim_gI 6 0 dX2_hasSignOf_16 rfl wf_RX2_28 (Nat.le_of_ble_eq_true rfl) rfl (fun v4 => ?_)
      refine sim_iload_n dX2_hasSignOf_19 rfl ?_
      refine sim_ic_ne 25 dX2_hasSignOf_20 (by decide) (fun c => ?_) (fun c => ?_)
      · refine sim_iinc (1) dX2_hasSignOf_25 rfl (by decide +kernel) (Nat.le_of_ble_eq_true rfl) ?_
        refine sim_goto 2 dX2_hasSignOf_28 (by decide) ?_
        exact sim_lv (am_leS (am_leS (am_leS am_leT))) (hrc2 _ _ _ _)
      · refine sim_iconst (1) dX2_hasSignOf_23 (by decide +kernel) ?_
        exact sim_zret dX2_hasSignOf_24 rfl
def f_X2_hasSignOf (a0 : Nat × Nat) (x1 : Int32) (h : am_H) : am_R := f_X2_hasSignOf_2 5000 a0 x1 (0 : Int32) h
theorem k_X2_hasSignOf (d : Nat) (hd : 0 ≤ d) (a0 : Nat × Nat) (x1 : Int32) (h : am_H) : am_Con m_X2_hasSignOf d [.inr (.inr (some a0)), .inl x1] h (f_X2_hasSignOf a0 x1 h) := am_con (by decide +kernel) (Nat.le_of_ble_eq_true rfl) (by
  unfold f_X2_hasSignOf
  refine sim_iconst (0) dX2_hasSignOf_0 (by decide +kernel) ?_
  refine sim_istore_n dX2_hasSignOf_1 (Nat.le_of_ble_eq_true rfl) ?_
  exact sim_lv (am_leS (am_leS (am_leS am_leT))) (t_X2_hasSignOf_2 d (by omega) _ _ _ _ _))
theorem q_X2_hasSignOf : am_Cal m_X2_hasSignOf 1 2 := ⟨am_mem 795 (w := Cond.code yX2_hasSignOf cX2_hasSignOf 3 (some .boolean)) (by decide +kernel) rfl, am_mem 35 (w := Cond.initialized RX2) (by decide +kernel) rfl, fun z => absurd z (by decide), fun _ => am_mem 793 (w := Cond.instanceMethod yX2_hasSignOf) (by decide +kernel) rfl, fun z => absurd z (by decide), fun _ => am_mem 794 (w := Cond.selects RX2 yX2_hasSignOf yX2_hasSignOf) (by decide +kernel) rfl, by decide +kernel, by decide +kernel, Nat.le_of_ble_eq_true rfl⟩
abbrev m_X6_init : am_M := (yX6_init, cX6_init, 5, none, [])
def f_X6_init (a0 : Nat × Nat) (x1 : Int32) (x2 : Int32) (x3 : Int32) (x4 : Int32) (h : am_H) : am_R := m_pI (some a0) 6 0 x1 h fun h1 => m_pI (some a0) 6 1 x2 h1 fun h2 => m_pI (some a0) 6 2 x3 h2 fun h3 => m_pI (some a0) 6 3 x4 h3 fun h4 => m_rt h4 none
theorem k_X6_init (d : Nat) (hd : 1 ≤ d) (a0 : Nat × Nat) (x1 : Int32) (x2 : Int32) (x3 : Int32) (x4 : Int32) (h : am_H) : am_Con m_X6_init d [.inr (.inr (some a0)), .inl x1, .inl x2, .inl x3, .inl x4] h (f_X6_init a0 x1 x2 x3 x4 h) := am_con (by decide +kernel) (Nat.le_of_ble_eq_true rfl) (by
  unfold f_X6_init
  refine sim_aload_n dX6_init_0 rfl ?_
  refine sim_obj dX6_init_1 wm_RX6_1 wobj_i wobj_c (by omega) (Nat.le_of_ble_eq_true rfl) ?_
  refine sim_aload_n dX6_init_4 rfl ?_
  refine sim_iload_n dX6_init_5 rfl ?_
  refine sim_pI 6 0 dX6_init_6 rfl wf_RX6_7 (Nat.le_of_ble_eq_true rfl) rfl (Or.inr ⟨rfl, rfl, rfl⟩) rfl (fun h1 => ?_)
  refine sim_aload_n dX6_init_9 rfl ?_
  refine sim_iload_n dX6_init_10 rfl ?_
  refine sim_pI 6 1 dX6_init_11 rfl wf_RX6_13 (Nat.le_of_ble_eq_true rfl) rfl (Or.inr ⟨rfl, rfl, rfl⟩) rfl (fun h2 => ?_)
  refine sim_aload_n dX6_init_14 rfl ?_
  refine sim_iload_n dX6_init_15 rfl ?_
  refine sim_pI 6 2 dX6_init_16 rfl wf_RX6_16 (Nat.le_of_ble_eq_true rfl) rfl (Or.inr ⟨rfl, rfl, rfl⟩) rfl (fun h3 => ?_)
  refine sim_aload_n dX6_init_19 rfl ?_
  refine sim_iload dX6_init_20 rfl ?_
  refine sim_pI 6 3 dX6_init_22 rfl wf_RX6_19 (Nat.le_of_ble_eq_true rfl) rfl (Or.inr ⟨rfl, rfl, rfl⟩) rfl (fun h4 => ?_)
  exact sim_vret dX6_init_25 rfl)
theorem q_X6_init : am_Cal m_X6_init 4 1 := ⟨am_mem 801 (w := Cond.code yX6_init cX6_init 5 none) (by decide +kernel) rfl, am_mem 49 (w := Cond.initialized RX6) (by decide +kernel) rfl, fun z => absurd z (by decide), fun _ => am_mem 800 (w := Cond.instanceMethod yX6_init) (by decide +kernel) rfl, fun _ => rfl, fun z => absurd z (by decide), by decide +kernel, by decide +kernel, Nat.le_of_ble_eq_true rfl⟩
abbrev m_X10_sign : am_M := (yX10_sign, cX10_sign, 5, some .int, [])
def f_X10_sign_76   (h : am_H) : am_R := m_ex h 2
theorem t_X10_sign_76 (d : Nat) (hd : 7 ≤ d)   (h : am_H) : Sim m_X10_sign d 76 [none, none, none, none, none] [] h (f_X10_sign_76   h) := by
  unfold f_X10_sign_76
  exact sim_throwW 2 (by decide) dX10_sign_76 dX10_sign_79 dX10_sign_80 dX10_sign_83 dX10_sign_86 wx_RX10_77 wy_2 ws_RX10_295 at_RX10_81 gd_RX10_81 (by omega) (Nat.le_of_ble_eq_true rfl)
def f_X10_sign_42   (h : am_H) : am_R := m_ex h 1
theorem t_X10_sign_42 (d : Nat) (hd : 7 ≤ d)   (h : am_H) : Sim m_X10_sign d 42 [none, none, none, none, none] [] h (f_X10_sign_42   h) := by
  unfold f_X10_sign_42
  exact sim_throwW 1 (by decide) dX10_sign_42 dX10_sign_45 dX10_sign_46 dX10_sign_49 dX10_sign_52 wx_RX10_66 wy_1 ws_RX10_289 at_RX10_70 gd_RX10_70 (by omega) (Nat.le_of_ble_eq_true rfl)
def f_X10_sign (a0 : Nat × Nat) (x1 : Int32) (x2 : Int32) (x3 : Int32) (x4 : Int32) (h : am_H) : am_R := m_bV (f_X10_checkPerson x1 h) fun h1 => m_gR (some a0) 10 7 h1 fun o3 => m_gI o3 7 0 h1 fun v4 => m_bI (f_X10_isWithin x2 v4 h1) fun h5 v6 => if v6 = 0 then (f_X10_sign_42 h5) else (m_gR (some a0) 10 7 h5 fun o7 => m_gI o7 7 0 h5 fun v8 => m_bI (f_X10_isWithin x3 v8 h5) fun h9 v10 => if v10 = 0 then (f_X10_sign_42 h9) else (m_bI (f_X10_isWithin x4 (12 : Int32) h9) fun h11 v12 => if v12 = 0 then (f_X10_sign_42 h11) else (m_gR (some a0) 10 10 h11 fun o13 => m_ao o13 2 fun a16 => m_bI (f_X2_hasSignOf a16 x1 h11) fun h14 v15 => if v15 = 0 then (m_gR (some a0) 10 10 h14 fun o17 => m_gI o17 2 1 h14 fun v18 => if v18 < (8 : Int32) then (m_gR (some a0) 10 10 h14 fun o19 => m_new 29 4 h14 fun a20 h21 => m_bW (f_X6_init a20 x1 x2 x3 x4 h21) fun h22 => m_ao o19 2 fun a26 => m_bI (f_X2_add a26 (some a20) h22) fun h24 v25 => m_ri h24 v25) else (f_X10_sign_76 h14)) else (f_X10_sign_76 h14))))
theorem k_X10_sign (d : Nat) (hd : 7 ≤ d) (a0 : Nat × Nat) (x1 : Int32) (x2 : Int32) (x3 : Int32) (x4 : Int32) (h : am_H) : am_Con m_X10_sign d [.inr (.inr (some a0)), .inl x1, .inl x2, .inl x3, .inl x4] h (f_X10_sign a0 x1 x2 x3 x4 h) := am_con (by decide +kernel) (Nat.le_of_ble_eq_true rfl) (by
  unfold f_X10_sign
  refine sim_iload_n dX10_sign_0 rfl ?_
  refine sim_static (d - 1) dX10_sign_1 (k_X10_checkPerson (d - 1) (by omega) _ _) q_X10_checkPerson wm_RX10_82 rfl rfl (by omega) (Nat.le_of_ble_eq_true rfl) am_nV (am_rV fun h1 => ?_) am_eV
  refine sim_iload_n dX10_sign_4 rfl ?_
  refine sim_aload_n dX10_sign_5 rfl ?_
  refine sim_gR 10 7 dX10_sign_6 rfl wf_RX10_34 (Nat.le_of_ble_eq_true rfl) rfl (fun o3 => ?_)
  refine sim_gI 7 0 dX10_sign_9 rfl wf_RX10_180 (Nat.le_of_ble_eq_true rfl) rfl (fun v4 => ?_)
  refine sim_static (d - 1) dX10_sign_12 (k_X10_isWithin (d - 1) (by omega) _ _ _) q_X10_isWithin wm_RX10_286 rfl rfl (by omega) (Nat.le_of_ble_eq_true rfl) am_nI (am_rI fun h5 v6 => ?_) am_eI
  refine sim_if_eq 42 dX10_sign_15 (by decide) (fun c => ?_) (fun c => ?_)
  · exact sim_lv (am_leN (am_leN (am_leN (am_leN (am_leN am_leT))))) (t_X10_sign_42 d (by omega) _)
  · refine sim_iload_n dX10_sign_18 rfl ?_
    refine sim_aload_n dX10_sign_19 rfl ?_
    refine sim_gR 10 7 dX10_sign_20 rfl wf_RX10_34 (Nat.le_of_ble_eq_true rfl) rfl (fun o7 => ?_)
    refine sim_gI 7 0 dX10_sign_23 rfl wf_RX10_180 (Nat.le_of_ble_eq_true rfl) rfl (fun v8 => ?_)
    refine sim_static (d - 1) dX10_sign_26 (k_X10_isWithin (d - 1) (by omega) _ _ _) q_X10_isWithin wm_RX10_286 rfl rfl (by omega) (Nat.le_of_ble_eq_true rfl) am_nI (am_rI fun h9 v10 => ?_) am_eI
    refine sim_if_eq 42 dX10_sign_29 (by decide) (fun c => ?_) (fun c => ?_)
    · exact sim_lv (am_leN (am_leN (am_leN (am_leN (am_leN am_leT))))) (t_X10_sign_42 d (by omega) _)
    · refine sim_iload dX10_sign_32 rfl ?_
      refine sim_bipush (12) dX10_sign_34 (by decide +kernel) ?_
      refine sim_static (d - 1) dX10_sign_36 (k_X10_isWithin (d - 1) (by omega) _ _ _) q_X10_isWithin wm_RX10_286 rfl rfl (by omega) (Nat.le_of_ble_eq_true rfl) am_nI (am_rI fun h11 v12 => ?_) am_eI
      refine sim_if_ne 53 dX10_sign_39 (by decide) (fun c => ?_) (fun c => ?_)
      · refine sim_aload_n dX10_sign_53 rfl ?_
        refine sim_gR 10 10 dX10_sign_54 rfl wf_RX10_55 (Nat.le_of_ble_eq_true rfl) rfl (fun o13 => ?_)
        refine sim_iload_n dX10_sign_57 rfl ?_
        refine sim_ao1 (fun a16 e => ?_)
        refine sim_virt (d - 1) e dX10_sign_58 (k_X2_hasSignOf (d - 1) (by omega) _ _ _) q_X2_hasSignOf rfl rfl wm_RX10_291 rfl rfl (by omega) (Nat.le_of_ble_eq_true rfl) am_nI (am_rI fun h14 v15 => ?_) am_eI
        refine sim_if_ne 76 dX10_sign_61 (by decide) (fun c => ?_) (fun c => ?_)
        · exact sim_lv (am_leN (am_leN (am_leN (am_leN (am_leN am_leT))))) (t_X10_sign_76 d (by omega) _)
        · refine sim_aload_n dX10_sign_64 rfl ?_
          refine sim_gR 10 10 dX10_sign_65 rfl wf_RX10_55 (Nat.le_of_ble_eq_true rfl) rfl (fun o17 => ?_)
          refine sim_gI 2 1 dX10_sign_68 rfl wf_RX10_294 (Nat.le_of_ble_eq_true rfl) rfl (fun v18 => ?_)
          refine sim_bipush (8) dX10_sign_71 (by decide +kernel) ?_
          refine sim_ic_lt 87 dX10_sign_73 (by decide) (fun c => ?_) (fun c => ?_)
          · refine sim_aload_n dX10_sign_87 rfl ?_
            refine sim_gR 10 10 dX10_sign_88 rfl wf_RX10_55 (Nat.le_of_ble_eq_true rfl) rfl (fun o19 => ?_)
            refine sim_nw 29 6 4 dX10_sign_91 rfl rfl wc_RX10_297 wi_RX6 wz_RX6 (fun a20 h21 => ?_)
            refine sim_dup_r dX10_sign_94 ?_
            refine sim_iload_n dX10_sign_95 rfl ?_
            refine sim_iload_n dX10_sign_96 rfl ?_
            refine sim_iload_n dX10_sign_97 rfl ?_
            refine sim_iload dX10_sign_98 rfl ?_
            refine sim_ctor (d - 1) dX10_sign_100 (k_X6_init (d - 1) (by omega) _ _ _ _ _ _) q_X6_init wm_RX10_299 rfl rfl (by omega) (Nat.le_of_ble_eq_true rfl) am_nW am_xW (am_rW fun h22 => ?_)
            refine sim_ao1 (fun a26 e => ?_)
            refine sim_virt (d - 1) e dX10_sign_103 (k_X2_add (d - 1) (by omega) _ _ _) q_X2_add rfl rfl wm_RX10_302 rfl rfl (by omega) (Nat.le_of_ble_eq_true rfl) am_nI (am_rI fun h24 v25 => ?_) am_eI
            exact sim_iret dX10_sign_106 rfl
          · exact sim_lv (am_leN (am_leN (am_leN (am_leN (am_leN am_leT))))) (t_X10_sign_76 d (by omega) _)
      · exact sim_lv (am_leN (am_leN (am_leN (am_leN (am_leN am_leT))))) (t_X10_sign_42 d (by omega) _))
theorem q_X10_sign : am_Cal m_X10_sign 4 2 := ⟨am_mem 787 (w := Cond.code yX10_sign cX10_sign 5 (some .int)) (by decide +kernel) rfl, am_mem 30 (w := Cond.initialized RX10) (by decide +kernel) rfl, fun z => absurd z (by decide), fun _ => am_mem 785 (w := Cond.instanceMethod yX10_sign) (by decide +kernel) rfl, fun z => absurd z (by decide), fun _ => am_mem 786 (w := Cond.selects RX10 yX10_sign yX10_sign) (by decide +kernel) rfl, by decide +kernel, by decide +kernel, Nat.le_of_ble_eq_true rfl⟩
abbrev m_X10_characterAt : am_M := (yX10_characterAt, cX10_characterAt, 3, some .char, [])
def f_X10_characterAt (x0 : Int64) (x2 : Int32) (h : am_H) : am_R := m_rc h (m_i2c (Int64.toInt32 ((m_lushr x0 ((8 : Int32) * x2)) &&& (255 : Int64))))
theorem k_X10_characterAt (d : Nat) (hd : 0 ≤ d) (x0 : Int64) (x2 : Int32) (h : am_H) : am_Con m_X10_characterAt d [.inr (.inl x0), .inl x2] h (f_X10_characterAt x0 x2 h) := am_con (by decide +kernel) (Nat.le_of_ble_eq_true rfl) (by
  unfold f_X10_characterAt
  refine sim_lload_n dX10_characterAt_0 rfl ?_
  refine sim_bipush (8) dX10_characterAt_1 (by decide +kernel) ?_
  refine sim_iload_n dX10_characterAt_3 rfl ?_
  refine sim_imul dX10_characterAt_4 ?_
  refine sim_lushr dX10_characterAt_5 ?_
  refine sim_ldc2 (255) dX10_characterAt_6 wl_RX10_391 ?_
  refine sim_land dX10_characterAt_9 ?_
  refine sim_l2i dX10_characterAt_10 ?_
  refine sim_i2c dX10_characterAt_11 ?_
  exact sim_cret dX10_characterAt_12 rfl)
theorem q_X10_characterAt : am_Cal m_X10_characterAt 2 0 := ⟨am_mem 661 (w := Cond.code yX10_characterAt cX10_characterAt 3 (some .char)) (by decide +kernel) rfl, am_mem 30 (w := Cond.initialized RX10) (by decide +kernel) rfl, fun _ => am_mem 660 (w := Cond.static yX10_characterAt) (by decide +kernel) rfl, fun z => absurd rfl z, fun z => absurd z (by decide), fun z => absurd z (by decide), by decide +kernel, by decide +kernel, Nat.le_of_ble_eq_true rfl⟩
abbrev m_X8_add : am_M := (yX8_add, cX8_add, 2, none, [])
def f_X8_add (a0 : Nat × Nat) (x1 : Int32) (h : am_H) : am_R := m_gR (some a0) 8 0 h fun o1 => m_gI (some a0) 8 1 h fun v2 => m_sC o1 v2 x1 h fun h3 => m_gI (some a0) 8 1 h3 fun v4 => m_pI (some a0) 8 1 (v4 + (1 : Int32)) h3 fun h5 => m_rt h5 none
theorem k_X8_add (d : Nat) (hd : 0 ≤ d) (a0 : Nat × Nat) (x1 : Int32) (h : am_H) : am_Con m_X8_add d [.inr (.inr (some a0)), .inl x1] h (f_X8_add a0 x1 h) := am_con (by decide +kernel) (Nat.le_of_ble_eq_true rfl) (by
  unfold f_X8_add
  refine sim_aload_n dX8_add_0 rfl ?_
  refine sim_gR 8 0 dX8_add_1 rfl wf_RX8_9 (Nat.le_of_ble_eq_true rfl) rfl (fun o1 => ?_)
  refine sim_aload_n dX8_add_4 rfl ?_
  refine sim_gI 8 1 dX8_add_5 rfl wf_RX8_30 (Nat.le_of_ble_eq_true rfl) rfl (fun v2 => ?_)
  refine sim_iload_n dX8_add_8 rfl ?_
  refine sim_sC dX8_add_9 (fun h3 => ?_)
  refine sim_aload_n dX8_add_10 rfl ?_
  refine sim_dup_r dX8_add_11 ?_
  refine sim_gI 8 1 dX8_add_12 rfl wf_RX8_30 (Nat.le_of_ble_eq_true rfl) rfl (fun v4 => ?_)
  refine sim_iconst (1) dX8_add_15 (by decide +kernel) ?_
  refine sim_iadd dX8_add_16 ?_
  refine sim_pI 8 1 dX8_add_17 rfl wf_RX8_30 (Nat.le_of_ble_eq_true rfl) rfl (Or.inl rfl) rfl (fun h5 => ?_)
  exact sim_vret dX8_add_20 rfl)
theorem q_X8_add : am_Cal m_X8_add 1 2 := ⟨am_mem 677 (w := Cond.code yX8_add cX8_add 2 none) (by decide +kernel) rfl, am_mem 32 (w := Cond.initialized RX8) (by decide +kernel) rfl, fun z => absurd z (by decide), fun _ => am_mem 675 (w := Cond.instanceMethod yX8_add) (by decide +kernel) rfl, fun z => absurd z (by decide), fun _ => am_mem 676 (w := Cond.selects RX8 yX8_add yX8_add) (by decide +kernel) rfl, by decide +kernel, by decide +kernel, Nat.le_of_ble_eq_true rfl⟩
abbrev m_X8_holds : am_M := (yX8_holds, cX8_holds, 1, some .boolean, [])
def f_X8_holds_49  (s0 : Int32) (h : am_H) : am_R := m_rz h s0
theorem t_X8_holds_49 (d : Nat) (hd : 1 ≤ d)  (s0 : Int32) (h : am_H) : Sim m_X8_holds d 49 [none] [.inl s0] h (f_X8_holds_49  s0 h) := by
  unfold f_X8_holds_49
  exact sim_zret dX8_holds_49 rfl
def f_X8_holds_44   (h : am_H) : am_R := f_X8_holds_49 (1 : Int32) h
theorem t_X8_holds_44 (d : Nat) (hd : 1 ≤ d)   (h : am_H) : Sim m_X8_holds d 44 [none] [] h (f_X8_holds_44   h) := by
  unfold f_X8_holds_44
  refine sim_iconst (1) dX8_holds_44 (by decide +kernel) ?_
  refine sim_goto 49 dX8_holds_45 (by decide) ?_
  exact sim_lv (am_leN am_leT) (t_X8_holds_49 d (by omega) _ _)
def f_X8_holds (x0 : Int32) (h : am_H) : am_R := m_bI (f_X4_isFigure x0 h) fun h1 v2 => if v2 = 0 then (m_bI (f_X4_figuresOf x0 h1) fun h3 v4 => if 0 < v4 then (f_X8_holds_44 h3) else (if x0 = (38 : Int32) then (f_X8_holds_44 h3) else (if x0 = (124 : Int32) then (f_X8_holds_44 h3) else (if x0 = (33 : Int32) then (f_X8_holds_44 h3) else (if x0 = (40 : Int32) then (f_X8_holds_44 h3) else (if x0 = (41 : Int32) then (f_X8_holds_44 h3) else (f_X8_holds_49 (0 : Int32) h3))))))) else (f_X8_holds_44 h1)
theorem k_X8_holds (d : Nat) (hd : 1 ≤ d) (x0 : Int32) (h : am_H) : am_Con m_X8_holds d [.inl x0] h (f_X8_holds x0 h) := am_con (by decide +kernel) (Nat.le_of_ble_eq_true rfl) (by
  unfold f_X8_holds
  refine sim_iload_n dX8_holds_0 rfl ?_
  refine sim_static (d - 1) dX8_holds_1 (k_X4_isFigure (d - 1) (by omega) _ _) q_X4_isFigure wm_RX8_22 rfl rfl (by omega) (Nat.le_of_ble_eq_true rfl) am_nI (am_rI fun h1 v2 => ?_) am_eI
  refine sim_if_ne 44 dX8_holds_4 (by decide) (fun c => ?_) (fun c => ?_)
  · exact sim_lv (am_leN am_leT) (t_X8_holds_44 d (by omega) _)
  · refine sim_iload_n dX8_holds_7 rfl ?_
    refine sim_static (d - 1) dX8_holds_8 (k_X4_figuresOf (d - 1) (by omega) _ _) q_X4_figuresOf wm_RX8_26 rfl rfl (by omega) (Nat.le_of_ble_eq_true rfl) am_nI (am_rI fun h3 v4 => ?_) am_eI
    refine sim_if_gt 44 dX8_holds_11 (by decide) (fun c => ?_) (fun c => ?_)
    · exact sim_lv (am_leN am_leT) (t_X8_holds_44 d (by omega) _)
    · refine sim_iload_n dX8_holds_14 rfl ?_
      refine sim_bipush (38) dX8_holds_15 (by decide +kernel) ?_
      refine sim_ic_eq 44 dX8_holds_17 (by decide) (fun c => ?_) (fun c => ?_)
      · exact sim_lv (am_leN am_leT) (t_X8_holds_44 d (by omega) _)
      · refine sim_iload_n dX8_holds_20 rfl ?_
        refine sim_bipush (124) dX8_holds_21 (by decide +kernel) ?_
        refine sim_ic_eq 44 dX8_holds_23 (by decide) (fun c => ?_) (fun c => ?_)
        · exact sim_lv (am_leN am_leT) (t_X8_holds_44 d (by omega) _)
        · refine sim_iload_n dX8_holds_26 rfl ?_
          refine sim_bipush (33) dX8_holds_27 (by decide +kernel) ?_
          refine sim_ic_eq 44 dX8_holds_29 (by decide) (fun c => ?_) (fun c => ?_)
          · exact sim_lv (am_leN am_leT) (t_X8_holds_44 d (by omega) _)
          · refine sim_iload_n dX8_holds_32 rfl ?_
            refine sim_bipush (40) dX8_holds_33 (by decide +kernel) ?_
            refine sim_ic_eq 44 dX8_holds_35 (by decide) (fun c => ?_) (fun c => ?_)
            · exact sim_lv (am_leN am_leT) (t_X8_holds_44 d (by omega) _)
            · refine sim_iload_n dX8_holds_38 rfl ?_
              refine sim_bipush (41) dX8_holds_39 (by decide +kernel) ?_
              refine sim_ic_ne 48 dX8_holds_41 (by decide) (fun c => ?_) (fun c => ?_)
              · refine sim_iconst (0) dX8_holds_48 (by decide +kernel) ?_
                exact sim_lv (am_leN am_leT) (t_X8_holds_49 d (by omega) _ _)
              · exact sim_lv (am_leN am_leT) (t_X8_holds_44 d (by omega) _))
theorem q_X8_holds : am_Cal m_X8_holds 1 0 := ⟨am_mem 665 (w := Cond.code yX8_holds cX8_holds 1 (some .boolean)) (by decide +kernel) rfl, am_mem 32 (w := Cond.initialized RX8) (by decide +kernel) rfl, fun _ => am_mem 664 (w := Cond.static yX8_holds) (by decide +kernel) rfl, fun z => absurd rfl z, fun z => absurd z (by decide), fun z => absurd z (by decide), by decide +kernel, by decide +kernel, Nat.le_of_ble_eq_true rfl⟩
abbrev m_X10_type : am_M := (yX10_type, cX10_type, 5, some .int, [])
def f_X10_type_87  : Nat → Nat × Nat → Int64 → Int32 → Int32 → am_H → am_R
  | 0, _, _, _, _, _ => none
  | n + 1, a0, x1, x3, x4, h => if x3 ≤ x4 then (m_gR (some a0) 10 8 h fun o7 => m_gI o7 8 1 h fun v8 => m_ri h v8) else (m_gR (some a0) 10 8 h fun o9 => m_bI (f_X10_characterAt x1 x4 h) fun h10 v11 => m_ao o9 8 fun a14 => m_bV (f_X8_add a14 v11 h10) fun h12 => (f_X10_type_87  n) a0 x1 x3 (x4 + 1) h12)
theorem t_X10_type_87 (d : Nat) (hd : 6 ≤ d)  : ∀ (n : Nat) (a0 : Nat × Nat) (x1 : Int64) (x3 : Int32) (x4 : Int32) (h : am_H), Sim m_X10_type d 87 [some (.inr (.inr (some a0))), some (.inr (.inl x1)), none, some (.inl x3), some (.inl x4)] [] h (f_X10_type_87  n a0 x1 x3 x4 h) := by
  intro n
  induction n with
  | zero => intros; exact sim_none
  | succ n hrc87 =>
    intro a0 x1 x3 x4 h
    rw [f_X10_type_87]
    refine sim_iload dX10_type_87 rfl ?_
    refine sim_iload_n dX10_type_89 rfl ?_
    refine sim_ic_ge 112 dX10_type_90 (by decide) (fun c => ?_) (fun c => ?_)
    · refine sim_aload_n dX10_type_112 rfl ?_
      refine sim_gR 10 8 dX10_type_113 rfl wf_RX10_41 (Nat.le_of_ble_eq_true rfl) rfl (fun o7 => ?_)
      refine sim_gI 8 1 dX10_type_116 rfl wf_RX10_263 (Nat.le_of_ble_eq_true rfl) rfl (fun v8 => ?_)
      exact sim_iret dX10_type_119 rfl
    · refine sim_aload_n dX10_type_93 rfl ?_
      refine sim_gR 10 8 dX10_type_94 rfl wf_RX10_41 (Nat.le_of_ble_eq_true rfl) rfl (fun o9 => ?_)
      refine sim_lload_n dX10_type_97 rfl ?_
      refine sim_iload dX10_type_98 rfl ?_
      refine sim_static (d - 1) dX10_type_100 (k_X10_characterAt (d - 1) (by omega) _ _ _) q_X10_characterAt wm_RX10_253 rfl rfl (by omega) (Nat.le_of_ble_eq_true rfl) am_nI (am_rI fun h10 v11 => ?_) am_eI
      refine sim_ao1 (fun a14 e => ?_)
      refine sim_virt (d - 1) e dX10_type_103 (k_X8_add (d - 1) (by omega) _ _ _) q_X8_add rfl rfl wm_RX10_268 rfl rfl (by omega) (Nat.le_of_ble_eq_true rfl) am_nV (am_rV fun h12 => ?_) am_eV
      refine sim_iinc (1) dX10_type_106 rfl (by decide +kernel) (Nat.le_of_ble_eq_true rfl) ?_
      refine sim_goto 87 dX10_type_109 (by decide) ?_
      exact sim_lv (am_leS (am_leS (am_leN (am_leS (am_leS am_leT))))) (hrc87 _ _ _ _ _)
def f_X10_type_24  : Nat → Nat × Nat → Int64 → Int32 → Int32 → am_H → am_R
  | 0, _, _, _, _, _ => none
  | n + 1, a0, x1, x3, x4, h => if x3 ≤ x4 then (m_gR (some a0) 10 8 h fun o1 => m_gI o1 8 1 h fun v2 => if (v2 + x3) ≤ (60 : Int32) then (f_X10_type_87 5000 a0 x1 x3 (0 : Int32) h) else (m_ex h 2)) else (m_bI (f_X10_characterAt x1 x4 h) fun h3 v4 => m_bI (f_X8_holds v4 h3) fun h5 v6 => if v6 = 0 then (m_ex h5 1) else ((f_X10_type_24  n) a0 x1 x3 (x4 + 1) h5))
theorem t_X10_type_24 (d : Nat) (hd : 6 ≤ d)  : ∀ (n : Nat) (a0 : Nat × Nat) (x1 : Int64) (x3 : Int32) (x4 : Int32) (h : am_H), Sim m_X10_type d 24 [some (.inr (.inr (some a0))), some (.inr (.inl x1)), none, some (.inl x3), some (.inl x4)] [] h (f_X10_type_24  n a0 x1 x3 x4 h) := by
  intro n
  induction n with
  | zero => intros; exact sim_none
  | succ n hrc24 =>
    intro a0 x1 x3 x4 h
    rw [f_X10_type_24]
    refine sim_iload dX10_type_24 rfl ?_
    refine sim_iload_n dX10_type_26 rfl ?_
    refine sim_ic_ge 59 dX10_type_27 (by decide) (fun c => ?_) (fun c => ?_)
    · refine sim_aload_n dX10_type_59 rfl ?_
      refine sim_gR 10 8 dX10_type_60 rfl wf_RX10_41 (Nat.le_of_ble_eq_true rfl) rfl (fun o1 => ?_)
      refine sim_gI 8 1 dX10_type_63 rfl wf_RX10_263 (Nat.le_of_ble_eq_true rfl) rfl (fun v2 => ?_)
      refine sim_iload_n dX10_type_66 rfl ?_
      refine sim_iadd dX10_type_67 ?_
      refine sim_bipush (60) dX10_type_68 (by decide +kernel) ?_
      refine sim_ic_le 84 dX10_type_70 (by decide) (fun c => ?_) (fun c => ?_)
      · refine sim_iconst (0) dX10_type_84 (by decide +kernel) ?_
        refine sim_istore dX10_type_85 (Nat.le_of_ble_eq_true rfl) ?_
        exact sim_lv (am_leS (am_leS (am_leN (am_leS (am_leS am_leT))))) (t_X10_type_87 d (by omega) _ _ _ _ _ _)
      · exact sim_throwW 2 (by decide) dX10_type_73 dX10_type_76 dX10_type_77 dX10_type_80 dX10_type_83 wx_RX10_77 wy_2 ws_RX10_266 at_RX10_81 gd_RX10_81 (by omega) (Nat.le_of_ble_eq_true rfl)
    · refine sim_lload_n dX10_type_30 rfl ?_
      refine sim_iload dX10_type_31 rfl ?_
      refine sim_static (d - 1) dX10_type_33 (k_X10_characterAt (d - 1) (by omega) _ _ _) q_X10_characterAt wm_RX10_253 rfl rfl (by omega) (Nat.le_of_ble_eq_true rfl) am_nI (am_rI fun h3 v4 => ?_) am_eI
      refine sim_static (d - 1) dX10_type_36 (k_X8_holds (d - 1) (by omega) _ _) q_X8_holds wm_RX10_257 rfl rfl (by omega) (Nat.le_of_ble_eq_true rfl) am_nI (am_rI fun h5 v6 => ?_) am_eI
      refine sim_if_ne 53 dX10_type_39 (by decide) (fun c => ?_) (fun c => ?_)
      · refine sim_iinc (1) dX10_type_53 rfl (by decide +kernel) (Nat.le_of_ble_eq_true rfl) ?_
        refine sim_goto 24 dX10_type_56 (by decide) ?_
        exact sim_lv (am_leS (am_leS (am_leN (am_leS (am_leS am_leT))))) (hrc24 _ _ _ _ _)
      · exact sim_throwW 1 (by decide) dX10_type_42 dX10_type_45 dX10_type_46 dX10_type_49 dX10_type_52 wx_RX10_66 wy_1 ws_RX10_261 at_RX10_70 gd_RX10_70 (by omega) (Nat.le_of_ble_eq_true rfl)
def f_X10_type_11   (h : am_H) : am_R := m_ex h 1
theorem t_X10_type_11 (d : Nat) (hd : 6 ≤ d)   (h : am_H) : Sim m_X10_type d 11 [none, none, none, none, none] [] h (f_X10_type_11   h) := by
  unfold f_X10_type_11
  exact sim_throw 1 (by decide) dX10_type_11 dX10_type_14 dX10_type_15 dX10_type_17 dX10_type_20 wx_RX10_66 wy_1 ws_RX10_251 at_RX10_70 gd_RX10_70 (by omega) (Nat.le_of_ble_eq_true rfl)
def f_X10_type (a0 : Nat × Nat) (x1 : Int64) (x3 : Int32) (h : am_H) : am_R := if x3 < (1 : Int32) then (f_X10_type_11 h) else (if x3 ≤ (8 : Int32) then (f_X10_type_24 5000 a0 x1 x3 (0 : Int32) h) else (f_X10_type_11 h))
theorem k_X10_type (d : Nat) (hd : 6 ≤ d) (a0 : Nat × Nat) (x1 : Int64) (x3 : Int32) (h : am_H) : am_Con m_X10_type d [.inr (.inr (some a0)), .inr (.inl x1), .inl x3] h (f_X10_type a0 x1 x3 h) := am_con (by decide +kernel) (Nat.le_of_ble_eq_true rfl) (by
  unfold f_X10_type
  refine sim_iload_n dX10_type_0 rfl ?_
  refine sim_iconst (1) dX10_type_1 (by decide +kernel) ?_
  refine sim_ic_lt 11 dX10_type_2 (by decide) (fun c => ?_) (fun c => ?_)
  · exact sim_lv (am_leN (am_leN (am_leN (am_leN (am_leN am_leT))))) (t_X10_type_11 d (by omega) _)
  · refine sim_iload_n dX10_type_5 rfl ?_
    refine sim_bipush (8) dX10_type_6 (by decide +kernel) ?_
    refine sim_ic_le 21 dX10_type_8 (by decide) (fun c => ?_) (fun c => ?_)
    · refine sim_iconst (0) dX10_type_21 (by decide +kernel) ?_
      refine sim_istore dX10_type_22 (Nat.le_of_ble_eq_true rfl) ?_
      exact sim_lv (am_leS (am_leS (am_leN (am_leS (am_leS am_leT))))) (t_X10_type_24 d (by omega) _ _ _ _ _ _)
    · exact sim_lv (am_leN (am_leN (am_leN (am_leN (am_leN am_leT))))) (t_X10_type_11 d (by omega) _))
theorem q_X10_type : am_Cal m_X10_type 2 2 := ⟨am_mem 657 (w := Cond.code yX10_type cX10_type 5 (some .int)) (by decide +kernel) rfl, am_mem 30 (w := Cond.initialized RX10) (by decide +kernel) rfl, fun z => absurd z (by decide), fun _ => am_mem 655 (w := Cond.instanceMethod yX10_type) (by decide +kernel) rfl, fun z => absurd z (by decide), fun _ => am_mem 656 (w := Cond.selects RX10 yX10_type yX10_type) (by decide +kernel) rfl, by decide +kernel, by decide +kernel, Nat.le_of_ble_eq_true rfl⟩
abbrev m_X10_under : am_M := (yX10_under, cX10_under, 3, some .int, [])
def f_X10_under (a0 : Nat × Nat) (x1 : Int32) (x2 : Int32) (h : am_H) : am_R := m_ao (some a0) 10 fun a3 => m_bR (f_X10_workAt a3 x1 h) fun h1 o2 => m_ao (some a0) 10 fun a6 => m_bI (f_X10_placesOf a6 o2 x2 h1) fun h4 v5 => m_ri h4 v5
theorem k_X10_under (d : Nat) (hd : 8 ≤ d) (a0 : Nat × Nat) (x1 : Int32) (x2 : Int32) (h : am_H) : am_Con m_X10_under d [.inr (.inr (some a0)), .inl x1, .inl x2] h (f_X10_under a0 x1 x2 h) := am_con (by decide +kernel) (Nat.le_of_ble_eq_true rfl) (by
  unfold f_X10_under
  refine sim_aload_n dX10_under_0 rfl ?_
  refine sim_aload_n dX10_under_1 rfl ?_
  refine sim_iload_n dX10_under_2 rfl ?_
  refine sim_ao1 (fun a3 e => ?_)
  refine sim_virt (d - 1) e dX10_under_3 (k_X10_workAt (d - 1) (by omega) _ _ _) q_X10_workAt rfl rfl wm_RX10_112 rfl rfl (by omega) (Nat.le_of_ble_eq_true rfl) am_nR (am_rR fun h1 o2 => ?_) am_eR
  refine sim_iload_n dX10_under_6 rfl ?_
  refine sim_ao2 (fun a6 e => ?_)
  refine sim_virt (d - 1) e dX10_under_7 (k_X10_placesOf (d - 1) (by omega) _ _ _ _) q_X10_placesOf rfl rfl wm_RX10_247 rfl rfl (by omega) (Nat.le_of_ble_eq_true rfl) am_nI (am_rI fun h4 v5 => ?_) am_eI
  exact sim_iret dX10_under_10 rfl)
theorem q_X10_under : am_Cal m_X10_under 2 2 := ⟨am_mem 649 (w := Cond.code yX10_under cX10_under 3 (some .int)) (by decide +kernel) rfl, am_mem 30 (w := Cond.initialized RX10) (by decide +kernel) rfl, fun z => absurd z (by decide), fun _ => am_mem 647 (w := Cond.instanceMethod yX10_under) (by decide +kernel) rfl, fun z => absurd z (by decide), fun _ => am_mem 648 (w := Cond.selects RX10 yX10_under yX10_under) (by decide +kernel) rfl, by decide +kernel, by decide +kernel, Nat.le_of_ble_eq_true rfl⟩
