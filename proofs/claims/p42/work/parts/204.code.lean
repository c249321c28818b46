abbrev m_X4_figuresOf : am_M := (yX4_figuresOf, cX4_figuresOf, 1, some .int, [])
def f_X4_figuresOf_25  (s0 : Int32) (h : am_H) : am_R := m_ri h s0
theorem t_X4_figuresOf_25 (d : Nat) (hd : 0 ≤ d)  (s0 : Int32) (h : am_H) : Sim m_X4_figuresOf d 25 [none] [.inl s0] h (f_X4_figuresOf_25  s0 h) := by
  unfold f_X4_figuresOf_25
  exact sim_iret dX4_figuresOf_25 rfl
def f_X4_figuresOf_12   (h : am_H) : am_R := m_ri h (2 : Int32)
theorem t_X4_figuresOf_12 (d : Nat) (hd : 0 ≤ d)   (h : am_H) : Sim m_X4_figuresOf d 12 [none] [] h (f_X4_figuresOf_12   h) := by
  unfold f_X4_figuresOf_12
  refine sim_iconst (2) dX4_figuresOf_12 (by decide +kernel) ?_
  exact sim_iret dX4_figuresOf_13 rfl
def f_X4_figuresOf (x0 : Int32) (h : am_H) : am_R := if x0 = (116 : Int32) then (f_X4_figuresOf_12 h) else (if x0 = (97 : Int32) then (f_X4_figuresOf_12 h) else (if x0 = (114 : Int32) then (f_X4_figuresOf_25 (1 : Int32) h) else (f_X4_figuresOf_25 (0 : Int32) h)))
theorem k_X4_figuresOf (d : Nat) (hd : 0 ≤ d) (x0 : Int32) (h : am_H) : am_Con m_X4_figuresOf d [.inl x0] h (f_X4_figuresOf x0 h) := am_con (by decide +kernel) (Nat.le_of_ble_eq_true rfl) (by
  unfold f_X4_figuresOf
  refine sim_iload_n dX4_figuresOf_0 rfl ?_
  refine sim_bipush (116) dX4_figuresOf_1 (by decide +kernel) ?_
  refine sim_ic_eq 12 dX4_figuresOf_3 (by decide) (fun c => ?_) (fun c => ?_)
  · exact sim_lv (am_leN am_leT) (t_X4_figuresOf_12 d (by omega) _)
  · refine sim_iload_n dX4_figuresOf_6 rfl ?_
    refine sim_bipush (97) dX4_figuresOf_7 (by decide +kernel) ?_
    refine sim_ic_ne 14 dX4_figuresOf_9 (by decide) (fun c => ?_) (fun c => ?_)
    · refine sim_iload_n dX4_figuresOf_14 rfl ?_
      refine sim_bipush (114) dX4_figuresOf_15 (by decide +kernel) ?_
      refine sim_ic_ne 24 dX4_figuresOf_17 (by decide) (fun c => ?_) (fun c => ?_)
      · refine sim_iconst (0) dX4_figuresOf_24 (by decide +kernel) ?_
        exact sim_lv (am_leN am_leT) (t_X4_figuresOf_25 d (by omega) _ _)
      · refine sim_iconst (1) dX4_figuresOf_20 (by decide +kernel) ?_
        refine sim_goto 25 dX4_figuresOf_21 (by decide) ?_
        exact sim_lv (am_leN am_leT) (t_X4_figuresOf_25 d (by omega) _ _)
    · exact sim_lv (am_leN am_leT) (t_X4_figuresOf_12 d (by omega) _))
theorem q_X4_figuresOf : am_Cal m_X4_figuresOf 1 0 := ⟨am_mem 671 (w := Cond.code yX4_figuresOf cX4_figuresOf 1 (some .int)) (by decide +kernel) rfl, am_mem 33 (w := Cond.initialized RX4) (by decide +kernel) rfl, fun _ => am_mem 670 (w := Cond.static yX4_figuresOf) (by decide +kernel) rfl, fun z => absurd rfl z, fun z => absurd z (by decide), fun z => absurd z (by decide), by decide +kernel, by decide +kernel, Nat.le_of_ble_eq_true rfl⟩
abbrev m_X4_takesItem : am_M := (yX4_takesItem, cX4_takesItem, 2, some .boolean, [])
def f_X4_takesItem_61  (s0 : Int32) (h : am_H) : am_R := m_rz h s0
theorem t_X4_takesItem_61 (d : Nat) (hd : 1 ≤ d)  (s0 : Int32) (h : am_H) : Sim m_X4_takesItem d 61 [none, none] [.inl s0] h (f_X4_takesItem_61  s0 h) := by
  unfold f_X4_takesItem_61
  exact sim_zret dX4_takesItem_61 rfl
def f_X4_takesItem (a0 : Nat × Nat) (x1 : Int32) (h : am_H) : am_R := if x1 = (33 : Int32) then (m_rz h (1 : Int32)) else (if x1 = (40 : Int32) then (m_gI (some a0) 4 0 h fun v8 => m_pI (some a0) 4 0 (v8 + (1 : Int32)) h fun h9 => m_rz h9 (1 : Int32)) else (m_pC (some a0) 4 3 x1 h fun h1 => m_pI (some a0) 4 4 (0 : Int32) h1 fun h2 => m_bI (f_X4_figuresOf x1 h2) fun h3 v4 => m_pI (some a0) 4 2 v4 h3 fun h5 => m_pZ (some a0) 4 1 (0 : Int32) h5 fun h6 => m_gI (some a0) 4 2 h6 fun v7 => if v7 ≤ 0 then (f_X4_takesItem_61 (0 : Int32) h6) else (f_X4_takesItem_61 (1 : Int32) h6)))
theorem k_X4_takesItem (d : Nat) (hd : 1 ≤ d) (a0 : Nat × Nat) (x1 : Int32) (h : am_H) : am_Con m_X4_takesItem d [.inr (.inr (some a0)), .inl x1] h (f_X4_takesItem a0 x1 h) := am_con (by decide +kernel) (Nat.le_of_ble_eq_true rfl) (by
  unfold f_X4_takesItem
  refine sim_iload_n dX4_takesItem_0 rfl ?_
  refine sim_bipush (33) dX4_takesItem_1 (by decide +kernel) ?_
  refine sim_ic_ne 8 dX4_takesItem_3 (by decide) (fun c => ?_) (fun c => ?_)
  · refine sim_iload_n dX4_takesItem_8 rfl ?_
    refine sim_bipush (40) dX4_takesItem_9 (by decide +kernel) ?_
    refine sim_ic_ne 26 dX4_takesItem_11 (by decide) (fun c => ?_) (fun c => ?_)
    · refine sim_aload_n dX4_takesItem_26 rfl ?_
      refine sim_iload_n dX4_takesItem_27 rfl ?_
      refine sim_pC 4 3 dX4_takesItem_28 rfl wf_RX4_35 (Nat.le_of_ble_eq_true rfl) rfl (Or.inl rfl) rfl (fun h1 => ?_)
      refine sim_aload_n dX4_takesItem_31 rfl ?_
      refine sim_iconst (0) dX4_takesItem_32 (by decide +kernel) ?_
      refine sim_pI 4 4 dX4_takesItem_33 rfl wf_RX4_39 (Nat.le_of_ble_eq_true rfl) rfl (Or.inl rfl) rfl (fun h2 => ?_)
      refine sim_aload_n dX4_takesItem_36 rfl ?_
      refine sim_iload_n dX4_takesItem_37 rfl ?_
      refine sim_static (d - 1) dX4_takesItem_38 (k_X4_figuresOf (d - 1) (by omega) _ _) q_X4_figuresOf wm_RX4_42 rfl rfl (by omega) (Nat.le_of_ble_eq_true rfl) am_nI (am_rI fun h3 v4 => ?_) am_eI
      refine sim_pI 4 2 dX4_takesItem_41 rfl wf_RX4_19 (Nat.le_of_ble_eq_true rfl) rfl (Or.inl rfl) rfl (fun h5 => ?_)
      refine sim_aload_n dX4_takesItem_44 rfl ?_
      refine sim_iconst (0) dX4_takesItem_45 (by decide +kernel) ?_
      refine sim_pZ 4 1 dX4_takesItem_46 rfl wf_RX4_15 (Nat.le_of_ble_eq_true rfl) rfl (Or.inl rfl) rfl (fun h6 => ?_)
      refine sim_aload_n dX4_takesItem_49 rfl ?_
      refine sim_gI 4 2 dX4_takesItem_50 rfl wf_RX4_19 (Nat.le_of_ble_eq_true rfl) rfl (fun v7 => ?_)
      refine sim_if_le 60 dX4_takesItem_53 (by decide) (fun c => ?_) (fun c => ?_)
      · refine sim_iconst (0) dX4_takesItem_60 (by decide +kernel) ?_
        exact sim_lv (am_leN (am_leN am_leT)) (t_X4_takesItem_61 d (by omega) _ _)
      · refine sim_iconst (1) dX4_takesItem_56 (by decide +kernel) ?_
        refine sim_goto 61 dX4_takesItem_57 (by decide) ?_
        exact sim_lv (am_leN (am_leN am_leT)) (t_X4_takesItem_61 d (by omega) _ _)
    · refine sim_aload_n dX4_takesItem_14 rfl ?_
      refine sim_dup_r dX4_takesItem_15 ?_
      refine sim_gI 4 0 dX4_takesItem_16 rfl wf_RX4_9 (Nat.le_of_ble_eq_true rfl) rfl (fun v8 => ?_)
      refine sim_iconst (1) dX4_takesItem_19 (by decide +kernel) ?_
      refine sim_iadd dX4_takesItem_20 ?_
      refine sim_pI 4 0 dX4_takesItem_21 rfl wf_RX4_9 (Nat.le_of_ble_eq_true rfl) rfl (Or.inl rfl) rfl (fun h9 => ?_)
      refine sim_iconst (1) dX4_takesItem_24 (by decide +kernel) ?_
      exact sim_zret dX4_takesItem_25 rfl
  · refine sim_iconst (1) dX4_takesItem_6 (by decide +kernel) ?_
    exact sim_zret dX4_takesItem_7 rfl)
theorem q_X4_takesItem : am_Cal m_X4_takesItem 1 2 := ⟨am_mem 709 (w := Cond.code yX4_takesItem cX4_takesItem 2 (some .boolean)) (by decide +kernel) rfl, am_mem 33 (w := Cond.initialized RX4) (by decide +kernel) rfl, fun z => absurd z (by decide), fun _ => am_mem 708 (w := Cond.instanceMethod yX4_takesItem) (by decide +kernel) rfl, fun z => absurd z (by decide), fun _ => am_mem 11 (w := Cond.selects RX4 yX4_takesItem yX4_takesItem) (by decide +kernel) rfl, by decide +kernel, by decide +kernel, Nat.le_of_ble_eq_true rfl⟩
abbrev m_X4_takesLink : am_M := (yX4_takesLink, cX4_takesLink, 2, some .boolean, [])
def f_X4_takesLink_51  (s0 : Int32) (h : am_H) : am_R := m_rz h s0
theorem t_X4_takesLink_51 (d : Nat) (hd : 0 ≤ d)  (s0 : Int32) (h : am_H) : Sim m_X4_takesLink d 51 [none, none] [.inl s0] h (f_X4_takesLink_51  s0 h) := by
  unfold f_X4_takesLink_51
  exact sim_zret dX4_takesLink_51 rfl
def f_X4_takesLink_46   (h : am_H) : am_R := f_X4_takesLink_51 (1 : Int32) h
theorem t_X4_takesLink_46 (d : Nat) (hd : 0 ≤ d)   (h : am_H) : Sim m_X4_takesLink d 46 [none, none] [] h (f_X4_takesLink_46   h) := by
  unfold f_X4_takesLink_46
  refine sim_iconst (1) dX4_takesLink_46 (by decide +kernel) ?_
  refine sim_goto 51 dX4_takesLink_47 (by decide) ?_
  exact sim_lv (am_leN (am_leN am_leT)) (t_X4_takesLink_51 d (by omega) _ _)
def f_X4_takesLink_28  (s0 : Int32) (h : am_H) : am_R := m_rz h s0
theorem t_X4_takesLink_28 (d : Nat) (hd : 0 ≤ d)  (s0 : Int32) (h : am_H) : Sim m_X4_takesLink d 28 [none, none] [.inl s0] h (f_X4_takesLink_28  s0 h) := by
  unfold f_X4_takesLink_28
  exact sim_zret dX4_takesLink_28 rfl
def f_X4_takesLink (a0 : Nat × Nat) (x1 : Int32) (h : am_H) : am_R := if x1 = (41 : Int32) then (m_gI (some a0) 4 0 h fun v2 => m_pI (some a0) 4 0 (v2 - (1 : Int32)) h fun h3 => m_gI (some a0) 4 0 h3 fun v4 => if v4 < 0 then (f_X4_takesLink_28 (0 : Int32) h3) else (f_X4_takesLink_28 (1 : Int32) h3)) else (m_pZ (some a0) 4 1 (1 : Int32) h fun h1 => if x1 = (38 : Int32) then (f_X4_takesLink_46 h1) else (if x1 = (124 : Int32) then (f_X4_takesLink_46 h1) else (f_X4_takesLink_51 (0 : Int32) h1)))
theorem k_X4_takesLink (d : Nat) (hd : 0 ≤ d) (a0 : Nat × Nat) (x1 : Int32) (h : am_H) : am_Con m_X4_takesLink d [.inr (.inr (some a0)), .inl x1] h (f_X4_takesLink a0 x1 h) := am_con (by decide +kernel) (Nat.le_of_ble_eq_true rfl) (by
  unfold f_X4_takesLink
  refine sim_iload_n dX4_takesLink_0 rfl ?_
  refine sim_bipush (41) dX4_takesLink_1 (by decide +kernel) ?_
  refine sim_ic_ne 29 dX4_takesLink_3 (by decide) (fun c => ?_) (fun c => ?_)
  · refine sim_aload_n dX4_takesLink_29 rfl ?_
    refine sim_iconst (1) dX4_takesLink_30 (by decide +kernel) ?_
    refine sim_pZ 4 1 dX4_takesLink_31 rfl wf_RX4_15 (Nat.le_of_ble_eq_true rfl) rfl (Or.inl rfl) rfl (fun h1 => ?_)
    refine sim_iload_n dX4_takesLink_34 rfl ?_
    refine sim_bipush (38) dX4_takesLink_35 (by decide +kernel) ?_
    refine sim_ic_eq 46 dX4_takesLink_37 (by decide) (fun c => ?_) (fun c => ?_)
    · exact sim_lv (am_leN (am_leN am_leT)) (t_X4_takesLink_46 d (by omega) _)
    · refine sim_iload_n dX4_takesLink_40 rfl ?_
      refine sim_bipush (124) dX4_takesLink_41 (by decide +kernel) ?_
      refine sim_ic_ne 50 dX4_takesLink_43 (by decide) (fun c => ?_) (fun c => ?_)
      · refine sim_iconst (0) dX4_takesLink_50 (by decide +kernel) ?_
        exact sim_lv (am_leN (am_leN am_leT)) (t_X4_takesLink_51 d (by omega) _ _)
      · exact sim_lv (am_leN (am_leN am_leT)) (t_X4_takesLink_46 d (by omega) _)
  · refine sim_aload_n dX4_takesLink_6 rfl ?_
    refine sim_dup_r dX4_takesLink_7 ?_
    refine sim_gI 4 0 dX4_takesLink_8 rfl wf_RX4_9 (Nat.le_of_ble_eq_true rfl) rfl (fun v2 => ?_)
    refine sim_iconst (1) dX4_takesLink_11 (by decide +kernel) ?_
    refine sim_isub dX4_takesLink_12 ?_
    refine sim_pI 4 0 dX4_takesLink_13 rfl wf_RX4_9 (Nat.le_of_ble_eq_true rfl) rfl (Or.inl rfl) rfl (fun h3 => ?_)
    refine sim_aload_n dX4_takesLink_16 rfl ?_
    refine sim_gI 4 0 dX4_takesLink_17 rfl wf_RX4_9 (Nat.le_of_ble_eq_true rfl) rfl (fun v4 => ?_)
    refine sim_if_lt 27 dX4_takesLink_20 (by decide) (fun c => ?_) (fun c => ?_)
    · refine sim_iconst (0) dX4_takesLink_27 (by decide +kernel) ?_
      exact sim_lv (am_leN (am_leN am_leT)) (t_X4_takesLink_28 d (by omega) _ _)
    · refine sim_iconst (1) dX4_takesLink_23 (by decide +kernel) ?_
      refine sim_goto 28 dX4_takesLink_24 (by decide) ?_
      exact sim_lv (am_leN (am_leN am_leT)) (t_X4_takesLink_28 d (by omega) _ _))
theorem q_X4_takesLink : am_Cal m_X4_takesLink 1 2 := ⟨am_mem 714 (w := Cond.code yX4_takesLink cX4_takesLink 2 (some .boolean)) (by decide +kernel) rfl, am_mem 33 (w := Cond.initialized RX4) (by decide +kernel) rfl, fun z => absurd z (by decide), fun _ => am_mem 713 (w := Cond.instanceMethod yX4_takesLink) (by decide +kernel) rfl, fun z => absurd z (by decide), fun _ => am_mem 12 (w := Cond.selects RX4 yX4_takesLink yX4_takesLink) (by decide +kernel) rfl, by decide +kernel, by decide +kernel, Nat.le_of_ble_eq_true rfl⟩
abbrev m_X4_takes : am_M := (yX4_takes, cX4_takes, 2, some .boolean, [])
def f_X4_takes_33  (s0 : Int32) (h : am_H) : am_R := m_rz h s0
theorem t_X4_takes_33 (d : Nat) (hd : 2 ≤ d)  (s0 : Int32) (h : am_H) : Sim m_X4_takes d 33 [none, none] [.inl s0] h (f_X4_takes_33  s0 h) := by
  unfold f_X4_takes_33
  exact sim_zret dX4_takes_33 rfl
def f_X4_takes (a0 : Nat × Nat) (x1 : Int32) (h : am_H) : am_R := m_gI (some a0) 4 2 h fun v1 => if v1 ≤ 0 then (m_gI (some a0) 4 1 h fun v2 => if v2 = 0 then (m_ao (some a0) 4 fun a5 => m_bI (f_X4_takesLink a5 x1 h) fun h3 v4 => f_X4_takes_33 v4 h3) else (m_ao (some a0) 4 fun a8 => m_bI (f_X4_takesItem a8 x1 h) fun h6 v7 => f_X4_takes_33 v7 h6)) else (m_ao (some a0) 4 fun a11 => m_bI (f_X4_takesFigure a11 x1 h) fun h9 v10 => m_rz h9 v10)
theorem k_X4_takes (d : Nat) (hd : 2 ≤ d) (a0 : Nat × Nat) (x1 : Int32) (h : am_H) : am_Con m_X4_takes d [.inr (.inr (some a0)), .inl x1] h (f_X4_takes a0 x1 h) := am_con (by decide +kernel) (Nat.le_of_ble_eq_true rfl) (by
  unfold f_X4_takes
  refine sim_aload_n dX4_takes_0 rfl ?_
  refine sim_gI 4 2 dX4_takes_1 rfl wf_RX4_19 (Nat.le_of_ble_eq_true rfl) rfl (fun v1 => ?_)
  refine sim_if_le 13 dX4_takes_4 (by decide) (fun c => ?_) (fun c => ?_)
  · refine sim_aload_n dX4_takes_13 rfl ?_
    refine sim_gI 4 1 dX4_takes_14 rfl wf_RX4_15 (Nat.le_of_ble_eq_true rfl) rfl (fun v2 => ?_)
    refine sim_if_eq 28 dX4_takes_17 (by decide) (fun c => ?_) (fun c => ?_)
    · refine sim_aload_n dX4_takes_28 rfl ?_
      refine sim_iload_n dX4_takes_29 rfl ?_
      refine sim_ao1 (fun a5 e => ?_)
      refine sim_virt (d - 1) e dX4_takes_30 (k_X4_takesLink (d - 1) (by omega) _ _ _) q_X4_takesLink rfl rfl wm_RX4_29 rfl rfl (by omega) (Nat.le_of_ble_eq_true rfl) am_nI (am_rI fun h3 v4 => ?_) am_eI
      exact sim_lv (am_leN (am_leN am_leT)) (t_X4_takes_33 d (by omega) _ _)
    · refine sim_aload_n dX4_takes_20 rfl ?_
      refine sim_iload_n dX4_takes_21 rfl ?_
      refine sim_ao1 (fun a8 e => ?_)
      refine sim_virt (d - 1) e dX4_takes_22 (k_X4_takesItem (d - 1) (by omega) _ _ _) q_X4_takesItem rfl rfl wm_RX4_26 rfl rfl (by omega) (Nat.le_of_ble_eq_true rfl) am_nI (am_rI fun h6 v7 => ?_) am_eI
      refine sim_goto 33 dX4_takes_25 (by decide) ?_
      exact sim_lv (am_leN (am_leN am_leT)) (t_X4_takes_33 d (by omega) _ _)
  · refine sim_aload_n dX4_takes_7 rfl ?_
    refine sim_iload_n dX4_takes_8 rfl ?_
    refine sim_ao1 (fun a11 e => ?_)
    refine sim_virt (d - 1) e dX4_takes_9 (k_X4_takesFigure (d - 1) (by omega) _ _ _) q_X4_takesFigure rfl rfl wm_RX4_22 rfl rfl (by omega) (Nat.le_of_ble_eq_true rfl) am_nI (am_rI fun h9 v10 => ?_) am_eI
    exact sim_zret dX4_takes_12 rfl)
theorem q_X4_takes : am_Cal m_X4_takes 1 2 := ⟨am_mem 697 (w := Cond.code yX4_takes cX4_takes 2 (some .boolean)) (by decide +kernel) rfl, am_mem 33 (w := Cond.initialized RX4) (by decide +kernel) rfl, fun z => absurd z (by decide), fun _ => am_mem 695 (w := Cond.instanceMethod yX4_takes) (by decide +kernel) rfl, fun z => absurd z (by decide), fun _ => am_mem 696 (w := Cond.selects RX4 yX4_takes yX4_takes) (by decide +kernel) rfl, by decide +kernel, by decide +kernel, Nat.le_of_ble_eq_true rfl⟩
abbrev m_X8_firstFault : am_M := (yX8_firstFault, cX8_firstFault, 2, some .int, [])
def f_X8_firstFault_59  (s0 : Int32) (h : am_H) : am_R := m_ri h s0
theorem t_X8_firstFault_59 (d : Nat) (hd : 3 ≤ d)  (s0 : Int32) (h : am_H) : Sim m_X8_firstFault d 59 [none, none] [.inl s0] h (f_X8_firstFault_59  s0 h) := by
  unfold f_X8_firstFault_59
  exact sim_iret dX8_firstFault_59 rfl
def f_X8_firstFault_9  : Nat → Nat × Nat → Int32 → am_H → am_R
  | 0, _, _, _ => none
  | n + 1, a0, x1, h => m_gI (some a0) 8 1 h fun v5 => if v5 ≤ x1 then (m_gR (some a0) 8 2 h fun o6 => m_ao o6 4 fun a9 => m_bI (f_X4_isAtEnd a9 h) fun h7 v8 => if v8 = 0 then (m_gI (some a0) 8 1 h7 fun v10 => f_X8_firstFault_59 v10 h7) else (f_X8_firstFault_59 (-1 : Int32) h7)) else (m_gR (some a0) 8 2 h fun o11 => m_gR (some a0) 8 0 h fun o12 => m_aI o12 2 x1 h fun v13 => m_ao o11 4 fun a16 => m_bI (f_X4_takes a16 v13 h) fun h14 v15 => if v15 = 0 then (m_ri h14 x1) else ((f_X8_firstFault_9  n) a0 (x1 + 1) h14))
theorem t_X8_firstFault_9 (d : Nat) (hd : 3 ≤ d)  : ∀ (n : Nat) (a0 : Nat × Nat) (x1 : Int32) (h : am_H), Sim m_X8_firstFault d 9 [some (.inr (.inr (some a0))), some (.inl x1)] [] h (f_X8_firstFault_9  n a0 x1 h) := by
  intro n
  induction n with
  | zero => intros; exact sim_none
  | succ n hrc9 =>
    intro a0 x1 h
    rw [f_X8_firstFault_9]
    refine sim_iload_n dX8_firstFault_9 rfl ?_
    refine sim_aload_n dX8_firstFault_10 rfl ?_
    refine sim_gI 8 1 dX8_firstFault_11 rfl wf_RX8_30 (Nat.le_of_ble_eq_true rfl) rfl (fun v5 => ?_)
    refine sim_ic_ge 41 dX8_firstFault_14 (by decide) (fun c => ?_) (fun c => ?_)
    · refine sim_aload_n dX8_firstFault_41 rfl ?_
      refine sim_gR 8 2 dX8_firstFault_42 rfl wf_RX8_18 (Nat.le_of_ble_eq_true rfl) rfl (fun o6 => ?_)
      refine sim_ao0 (fun a9 e => ?_)
      refine sim_virt (d - 1) e dX8_firstFault_45 (k_X4_isAtEnd (d - 1) (by omega) _  _) q_X4_isAtEnd rfl rfl wm_RX8_40 rfl rfl (by omega) (Nat.le_of_ble_eq_true rfl) am_nI (am_rI fun h7 v8 => ?_) am_eI
      refine sim_if_eq 55 dX8_firstFault_48 (by decide) (fun c => ?_) (fun c => ?_)
      · refine sim_aload_n dX8_firstFault_55 rfl ?_
        refine sim_gI 8 1 dX8_firstFault_56 rfl wf_RX8_30 (Nat.le_of_ble_eq_true rfl) rfl (fun v10 => ?_)
        exact sim_lv (am_leN (am_leN am_leT)) (t_X8_firstFault_59 d (by omega) _ _)
      · refine sim_iconst (-1) dX8_firstFault_51 (by decide +kernel) ?_
        refine sim_goto 59 dX8_firstFault_52 (by decide) ?_
        exact sim_lv (am_leN (am_leN am_leT)) (t_X8_firstFault_59 d (by omega) _ _)
    · refine sim_aload_n dX8_firstFault_17 rfl ?_
      refine sim_gR 8 2 dX8_firstFault_18 rfl wf_RX8_18 (Nat.le_of_ble_eq_true rfl) rfl (fun o11 => ?_)
      refine sim_aload_n dX8_firstFault_21 rfl ?_
      refine sim_gR 8 0 dX8_firstFault_22 rfl wf_RX8_9 (Nat.le_of_ble_eq_true rfl) rfl (fun o12 => ?_)
      refine sim_iload_n dX8_firstFault_25 rfl ?_
      refine sim_aC dX8_firstFault_26 (fun v13 => ?_)
      refine sim_ao1 (fun a16 e => ?_)
      refine sim_virt (d - 1) e dX8_firstFault_27 (k_X4_takes (d - 1) (by omega) _ _ _) q_X4_takes rfl rfl wm_RX8_37 rfl rfl (by omega) (Nat.le_of_ble_eq_true rfl) am_nI (am_rI fun h14 v15 => ?_) am_eI
      refine sim_if_ne 35 dX8_firstFault_30 (by decide) (fun c => ?_) (fun c => ?_)
      · refine sim_iinc (1) dX8_firstFault_35 rfl (by decide +kernel) (Nat.le_of_ble_eq_true rfl) ?_
        refine sim_goto 9 dX8_firstFault_38 (by decide) ?_
        exact sim_lv (am_leS (am_leS am_leT)) (hrc9 _ _ _)
      · refine sim_iload_n dX8_firstFault_33 rfl ?_
        exact sim_iret dX8_firstFault_34 rfl
def f_X8_firstFault (a0 : Nat × Nat) (h : am_H) : am_R := m_gR (some a0) 8 2 h fun o1 => m_ao o1 4 fun a4 => m_bV (f_X4_start a4 h) fun h2 => f_X8_firstFault_9 5000 a0 (0 : Int32) h2
theorem k_X8_firstFault (d : Nat) (hd : 3 ≤ d) (a0 : Nat × Nat) (h : am_H) : am_Con m_X8_firstFault d [.inr (.inr (some a0))] h (f_X8_firstFault a0 h) := am_con (by decide +kernel) (Nat.le_of_ble_eq_true rfl) (by
  unfold f_X8_firstFault
  refine sim_aload_n dX8_firstFault_0 rfl ?_
  refine sim_gR 8 2 dX8_firstFault_1 rfl wf_RX8_18 (Nat.le_of_ble_eq_true rfl) rfl (fun o1 => ?_)
  refine sim_ao0 (fun a4 e => ?_)
  refine sim_virt (d - 1) e dX8_firstFault_4 (k_X4_start (d - 1) (by omega) _  _) q_X4_start rfl rfl wm_RX8_34 rfl rfl (by omega) (Nat.le_of_ble_eq_true rfl) am_nV (am_rV fun h2 => ?_) am_eV
  refine sim_iconst (0) dX8_firstFault_7 (by decide +kernel) ?_
  refine sim_istore_n dX8_firstFault_8 (Nat.le_of_ble_eq_true rfl) ?_
  exact sim_lv (am_leS (am_leS am_leT)) (t_X8_firstFault_9 d (by omega) _ _ _ _))
theorem q_X8_firstFault : am_Cal m_X8_firstFault 0 2 := ⟨am_mem 689 (w := Cond.code yX8_firstFault cX8_firstFault 2 (some .int)) (by decide +kernel) rfl, am_mem 32 (w := Cond.initialized RX8) (by decide +kernel) rfl, fun z => absurd z (by decide), fun _ => am_mem 687 (w := Cond.instanceMethod yX8_firstFault) (by decide +kernel) rfl, fun z => absurd z (by decide), fun _ => am_mem 688 (w := Cond.selects RX8 yX8_firstFault yX8_firstFault) (by decide +kernel) rfl, by decide +kernel, by decide +kernel, Nat.le_of_ble_eq_true rfl⟩
abbrev m_X10_checkQuery : am_M := (yX10_checkQuery, cX10_checkQuery, 1, none, [])
def f_X10_checkQuery (a0 : Nat × Nat) (h : am_H) : am_R := m_gR (some a0) 10 8 h fun o1 => m_ao o1 8 fun a4 => m_bI (f_X8_firstFault a4 h) fun h2 v3 => if v3 = (-1 : Int32) then (m_rt h2 none) else (m_ex h2 1)
theorem k_X10_checkQuery (d : Nat) (hd : 6 ≤ d) (a0 : Nat × Nat) (h : am_H) : am_Con m_X10_checkQuery d [.inr (.inr (some a0))] h (f_X10_checkQuery a0 h) := am_con (by decide +kernel) (Nat.le_of_ble_eq_true rfl) (by
  unfold f_X10_checkQuery
  refine sim_aload_n dX10_checkQuery_0 rfl ?_
  refine sim_gR 10 8 dX10_checkQuery_1 rfl wf_RX10_41 (Nat.le_of_ble_eq_true rfl) rfl (fun o1 => ?_)
  refine sim_ao0 (fun a4 e => ?_)
  refine sim_virt (d - 1) e dX10_checkQuery_4 (k_X8_firstFault (d - 1) (by omega) _  _) q_X8_firstFault rfl rfl wm_RX10_271 rfl rfl (by omega) (Nat.le_of_ble_eq_true rfl) am_nI (am_rI fun h2 v3 => ?_) am_eI
  refine sim_iconst (-1) dX10_checkQuery_7 (by decide +kernel) ?_
  refine sim_ic_eq 22 dX10_checkQuery_8 (by decide) (fun c => ?_) (fun c => ?_)
  · exact sim_vret dX10_checkQuery_22 rfl
  · exact sim_throwW 1 (by decide) dX10_checkQuery_11 dX10_checkQuery_14 dX10_checkQuery_15 dX10_checkQuery_18 dX10_checkQuery_21 wx_RX10_66 wy_1 ws_RX10_382 at_RX10_70 gd_RX10_70 (by omega) (Nat.le_of_ble_eq_true rfl))
theorem q_X10_checkQuery : am_Cal m_X10_checkQuery 0 2 := ⟨am_mem 685 (w := Cond.code yX10_checkQuery cX10_checkQuery 1 none) (by decide +kernel) rfl, am_mem 30 (w := Cond.initialized RX10) (by decide +kernel) rfl, fun z => absurd z (by decide), fun _ => am_mem 684 (w := Cond.instanceMethod yX10_checkQuery) (by decide +kernel) rfl, fun z => absurd z (by decide), fun _ => am_mem 9 (w := Cond.selects RX10 yX10_checkQuery yX10_checkQuery) (by decide +kernel) rfl, by decide +kernel, by decide +kernel, Nat.le_of_ble_eq_true rfl⟩
abbrev m_X9_outDay : am_M := (yX9_outDay, cX9_outDay, 2, some .int, [])
def f_X9_outDay (a0 : Nat × Nat) (x1 : Int32) (h : am_H) : am_R := m_gR (some a0) 9 2 h fun o1 => m_aI o1 0 x1 h fun v2 => m_gI (some a0) 9 4 h fun v3 => m_ri h (m_max v2 v3)
theorem k_X9_outDay (d : Nat) (hd : 1 ≤ d) (a0 : Nat × Nat) (x1 : Int32) (h : am_H) : am_Con m_X9_outDay d [.inr (.inr (some a0)), .inl x1] h (f_X9_outDay a0 x1 h) := am_con (by decide +kernel) (Nat.le_of_ble_eq_true rfl) (by
  unfold f_X9_outDay
  refine sim_aload_n dX9_outDay_0 rfl ?_
  refine sim_gR 9 2 dX9_outDay_1 rfl wf_RX9_9 (Nat.le_of_ble_eq_true rfl) rfl (fun o1 => ?_)
  refine sim_iload_n dX9_outDay_4 rfl ?_
  refine sim_aI dX9_outDay_5 (fun v2 => ?_)
  refine sim_aload_n dX9_outDay_6 rfl ?_
  refine sim_gI 9 4 dX9_outDay_7 rfl wf_RX9_15 (Nat.le_of_ble_eq_true rfl) rfl (fun v3 => ?_)
  refine sim_mmax dX9_outDay_10 wm_RX9_56 wms_max wz_RJ9 wmc_max (by omega) (Nat.le_of_ble_eq_true rfl) ?_
  exact sim_iret dX9_outDay_13 rfl)
theorem q_X9_outDay : am_Cal m_X9_outDay 1 2 := ⟨am_mem 780 (w := Cond.code yX9_outDay cX9_outDay 2 (some .int)) (by decide +kernel) rfl, am_mem 44 (w := Cond.initialized RX9) (by decide +kernel) rfl, fun z => absurd z (by decide), fun _ => am_mem 778 (w := Cond.instanceMethod yX9_outDay) (by decide +kernel) rfl, fun z => absurd z (by decide), fun _ => am_mem 779 (w := Cond.selects RX9 yX9_outDay yX9_outDay) (by decide +kernel) rfl, by decide +kernel, by decide +kernel, Nat.le_of_ble_eq_true rfl⟩
abbrev m_X9_latest : am_M := (yX9_latest, cX9_latest, 1, some .int, [])
def f_X9_latest_28  (s0 : Int32) (h : am_H) : am_R := m_ri h s0
theorem t_X9_latest_28 (d : Nat) (hd : 2 ≤ d)  (s0 : Int32) (h : am_H) : Sim m_X9_latest d 28 [none] [.inl s0] h (f_X9_latest_28  s0 h) := by
  unfold f_X9_latest_28
  exact sim_iret dX9_latest_28 rfl
def f_X9_latest_27   (h : am_H) : am_R := f_X9_latest_28 (-1 : Int32) h
theorem t_X9_latest_27 (d : Nat) (hd : 2 ≤ d)   (h : am_H) : Sim m_X9_latest d 27 [none] [] h (f_X9_latest_27   h) := by
  unfold f_X9_latest_27
  refine sim_iconst (-1) dX9_latest_27 (by decide +kernel) ?_
  exact sim_lv (am_leN am_leT) (t_X9_latest_28 d (by omega) _ _)
def f_X9_latest (a0 : Nat × Nat) (h : am_H) : am_R := m_ao (some a0) 9 fun a3 => m_bI (f_X9_isPosted a3 h) fun h1 v2 => if v2 = 0 then (f_X9_latest_27 h1) else (m_gI (some a0) 9 3 h1 fun v4 => if v4 ≤ 0 then (f_X9_latest_27 h1) else (m_gI (some a0) 9 3 h1 fun v5 => m_ao (some a0) 9 fun a8 => m_bI (f_X9_outDay a8 (v5 - (1 : Int32)) h1) fun h6 v7 => f_X9_latest_28 v7 h6))
theorem k_X9_latest (d : Nat) (hd : 2 ≤ d) (a0 : Nat × Nat) (h : am_H) : am_Con m_X9_latest d [.inr (.inr (some a0))] h (f_X9_latest a0 h) := am_con (by decide +kernel) (Nat.le_of_ble_eq_true rfl) (by
  unfold f_X9_latest
  refine sim_aload_n dX9_latest_0 rfl ?_
  refine sim_ao0 (fun a3 e => ?_)
  refine sim_virt (d - 1) e dX9_latest_1 (k_X9_isPosted (d - 1) (by omega) _  _) q_X9_isPosted rfl rfl wm_RX9_42 rfl rfl (by omega) (Nat.le_of_ble_eq_true rfl) am_nI (am_rI fun h1 v2 => ?_) am_eI
  refine sim_if_eq 27 dX9_latest_4 (by decide) (fun c => ?_) (fun c => ?_)
  · exact sim_lv (am_leN am_leT) (t_X9_latest_27 d (by omega) _)
  · refine sim_aload_n dX9_latest_7 rfl ?_
    refine sim_gI 9 3 dX9_latest_8 rfl wf_RX9_62 (Nat.le_of_ble_eq_true rfl) rfl (fun v4 => ?_)
    refine sim_if_le 27 dX9_latest_11 (by decide) (fun c => ?_) (fun c => ?_)
    · exact sim_lv (am_leN am_leT) (t_X9_latest_27 d (by omega) _)
    · refine sim_aload_n dX9_latest_14 rfl ?_
      refine sim_aload_n dX9_latest_15 rfl ?_
      refine sim_gI 9 3 dX9_latest_16 rfl wf_RX9_62 (Nat.le_of_ble_eq_true rfl) rfl (fun v5 => ?_)
      refine sim_iconst (1) dX9_latest_19 (by decide +kernel) ?_
      refine sim_isub dX9_latest_20 ?_
      refine sim_ao1 (fun a8 e => ?_)
      refine sim_virt (d - 1) e dX9_latest_21 (k_X9_outDay (d - 1) (by omega) _ _ _) q_X9_outDay rfl rfl wm_RX9_65 rfl rfl (by omega) (Nat.le_of_ble_eq_true rfl) am_nI (am_rI fun h6 v7 => ?_) am_eI
      refine sim_goto 28 dX9_latest_24 (by decide) ?_
      exact sim_lv (am_leN am_leT) (t_X9_latest_28 d (by omega) _ _))
theorem q_X9_latest : am_Cal m_X9_latest 0 2 := ⟨am_mem 776 (w := Cond.code yX9_latest cX9_latest 1 (some .int)) (by decide +kernel) rfl, am_mem 44 (w := Cond.initialized RX9) (by decide +kernel) rfl, fun z => absurd z (by decide), fun _ => am_mem 774 (w := Cond.instanceMethod yX9_latest) (by decide +kernel) rfl, fun z => absurd z (by decide), fun _ => am_mem 775 (w := Cond.selects RX9 yX9_latest yX9_latest) (by decide +kernel) rfl, by decide +kernel, by decide +kernel, Nat.le_of_ble_eq_true rfl⟩
abbrev m_X10_countAheadOf : am_M := (yX10_countAheadOf, cX10_countAheadOf, 8, some .int, [])
def f_X10_countAheadOf_79 (rc16 : Nat × Nat → Int32 → Int32 → Int32 → Int32 → Int32 → am_H → am_R) (a0 : Nat × Nat) (x1 : Int32) (x2 : Int32) (x3 : Int32) (x4 : Int32) (x5 : Int32) (h : am_H) : am_R := rc16 a0 x1 x2 x3 x4 (x5 + 1) h
theorem t_X10_countAheadOf_79 (d : Nat) (hd : 3 ≤ d) (rc16 : Nat × Nat → Int32 → Int32 → Int32 → Int32 → Int32 → am_H → am_R) (hrc16 : ∀ a0 x1 x2 x3 x4 x5 h, Sim m_X10_countAheadOf d 16 [some (.inr (.inr (some a0))), some (.inl x1), some (.inl x2), some (.inl x3), some (.inl x4), some (.inl x5), none, none] [] h (rc16 a0 x1 x2 x3 x4 x5 h)) (a0 : Nat × Nat) (x1 : Int32) (x2 : Int32) (x3 : Int32) (x4 : Int32) (x5 : Int32) (h : am_H) : Sim m_X10_countAheadOf d 79 [some (.inr (.inr (some a0))), some (.inl x1), some (.inl x2), some (.inl x3), some (.inl x4), some (.inl x5), none, none] [] h (f_X10_countAheadOf_79 rc16 a0 x1 x2 x3 x4 x5 h) := by
  unfold f_X10_countAheadOf_79
  refine sim_iinc (1) dX10_countAheadOf_79 rfl (by decide +kernel) (Nat.le_of_ble_eq_true rfl) ?_
  refine sim_goto 16 dX10_countAheadOf_82 (by decide) ?_
  exact sim_lv (am_leS (am_leS (am_leS (am_leS (am_leS (am_leS (am_leN (am_leN am_leT)))))))) (hrc16 _ _ _ _ _ _ _)
def f_X10_countAheadOf_60 (rc16 : Nat × Nat → Int32 → Int32 → Int32 → Int32 → Int32 → am_H → am_R) (a0 : Nat × Nat) (x1 : Int32) (x2 : Int32) (x3 : Int32) (x4 : Int32) (x5 : Int32) (s0 : Int32) (h : am_H) : am_R := if s0 = 0 then (f_X10_countAheadOf_79 rc16 a0 x1 x2 x3 x4 x5 h) else (m_bI (f_X10_has x2 x5 h) fun h12 v13 => if v13 = 0 then (f_X10_countAheadOf_79 rc16 a0 x1 x2 x3 x4 x5 h12) else (f_X10_countAheadOf_79 rc16 a0 x1 x2 x3 (x4 + 1) x5 h12))
theorem t_X10_countAheadOf_60 (d : Nat) (hd : 3 ≤ d) (rc16 : Nat × Nat → Int32 → Int32 → Int32 → Int32 → Int32 → am_H → am_R) (hrc16 : ∀ a0 x1 x2 x3 x4 x5 h, Sim m_X10_countAheadOf d 16 [some (.inr (.inr (some a0))), some (.inl x1), some (.inl x2), some (.inl x3), some (.inl x4), some (.inl x5), none, none] [] h (rc16 a0 x1 x2 x3 x4 x5 h)) (a0 : Nat × Nat) (x1 : Int32) (x2 : Int32) (x3 : Int32) (x4 : Int32) (x5 : Int32) (s0 : Int32) (h : am_H) : Sim m_X10_countAheadOf d 60 [some (.inr (.inr (some a0))), some (.inl x1), some (.inl x2), some (.inl x3), some (.inl x4), some (.inl x5), none, none] [.inl s0] h (f_X10_countAheadOf_60 rc16 a0 x1 x2 x3 x4 x5 s0 h) := by
  unfold f_X10_countAheadOf_60
  refine sim_istore dX10_countAheadOf_60 (Nat.le_of_ble_eq_true rfl) ?_
  refine sim_iload dX10_countAheadOf_62 rfl ?_
  refine sim_if_eq 79 dX10_countAheadOf_64 (by decide) (fun c => ?_) (fun c => ?_)
  · exact sim_lv (am_leS (am_leS (am_leS (am_leS (am_leS (am_leS (am_leN (am_leN am_leT)))))))) (t_X10_countAheadOf_79 d (by omega) _ hrc16 _ _ _ _ _ _ _)
  · refine sim_iload_n dX10_countAheadOf_67 rfl ?_
    refine sim_iload dX10_countAheadOf_68 rfl ?_
    refine sim_static (d - 1) dX10_countAheadOf_70 (k_X10_has (d - 1) (by omega) _ _ _) q_X10_has wm_RX10_91 rfl rfl (by omega) (Nat.le_of_ble_eq_true rfl) am_nI (am_rI fun h12 v13 => ?_) am_eI
    refine sim_if_eq 79 dX10_countAheadOf_73 (by decide) (fun c => ?_) (fun c => ?_)
    · exact sim_lv (am_leS (am_leS (am_leS (am_leS (am_leS (am_leS (am_leN (am_leN am_leT)))))))) (t_X10_countAheadOf_79 d (by omega) _ hrc16 _ _ _ _ _ _ _)
    · refine sim_iinc (1) dX10_countAheadOf_76 rfl (by decide +kernel) (Nat.le_of_ble_eq_true rfl) ?_
      exact sim_lv (am_leS (am_leS (am_leS (am_leS (am_leS (am_leS (am_leN (am_leN am_leT)))))))) (t_X10_countAheadOf_79 d (by omega) _ hrc16 _ _ _ _ _ _ _)
def f_X10_countAheadOf_59 (rc16 : Nat × Nat → Int32 → Int32 → Int32 → Int32 → Int32 → am_H → am_R) (a0 : Nat × Nat) (x1 : Int32) (x2 : Int32) (x3 : Int32) (x4 : Int32) (x5 : Int32) (h : am_H) : am_R := f_X10_countAheadOf_60 rc16 a0 x1 x2 x3 x4 x5 (0 : Int32) h
theorem t_X10_countAheadOf_59 (d : Nat) (hd : 3 ≤ d) (rc16 : Nat × Nat → Int32 → Int32 → Int32 → Int32 → Int32 → am_H → am_R) (hrc16 : ∀ a0 x1 x2 x3 x4 x5 h, Sim m_X10_countAheadOf d 16 [some (.inr (.inr (some a0))), some (.inl x1), some (.inl x2), some (.inl x3), some (.inl x4), some (.inl x5), none, none] [] h (rc16 a0 x1 x2 x3 x4 x5 h)) (a0 : Nat × Nat) (x1 : Int32) (x2 : Int32) (x3 : Int32) (x4 : Int32) (x5 : Int32) (h : am_H) : Sim m_X10_countAheadOf d 59 [some (.inr (.inr (some a0))), some (.inl x1), some (.inl x2), some (.inl x3), some (.inl x4), some (.inl x5), none, none] [] h (f_X10_countAheadOf_59 rc16 a0 x1 x2 x3 x4 x5 h) := by
  unfold f_X10_countAheadOf_59
  refine sim_iconst (0) dX10_countAheadOf_59 (by decide +kernel) ?_
  exact sim_lv (am_leS (am_leS (am_leS (am_leS (am_leS (am_leS (am_leN (am_leN am_leT)))))))) (t_X10_countAheadOf_60 d (by omega) _ hrc16 _ _ _ _ _ _ _ _)
def f_X10_countAheadOf_55 (rc16 : Nat × Nat → Int32 → Int32 → Int32 → Int32 → Int32 → am_H → am_R) (a0 : Nat × Nat) (x1 : Int32) (x2 : Int32) (x3 : Int32) (x4 : Int32) (x5 : Int32) (h : am_H) : am_R := f_X10_countAheadOf_60 rc16 a0 x1 x2 x3 x4 x5 (1 : Int32) h
theorem t_X10_countAheadOf_55 (d : Nat) (hd : 3 ≤ d) (rc16 : Nat × Nat → Int32 → Int32 → Int32 → Int32 → Int32 → am_H → am_R) (hrc16 : ∀ a0 x1 x2 x3 x4 x5 h, Sim m_X10_countAheadOf d 16 [some (.inr (.inr (some a0))), some (.inl x1), some (.inl x2), some (.inl x3), some (.inl x4), some (.inl x5), none, none] [] h (rc16 a0 x1 x2 x3 x4 x5 h)) (a0 : Nat × Nat) (x1 : Int32) (x2 : Int32) (x3 : Int32) (x4 : Int32) (x5 : Int32) (h : am_H) : Sim m_X10_countAheadOf d 55 [some (.inr (.inr (some a0))), some (.inl x1), some (.inl x2), some (.inl x3), some (.inl x4), some (.inl x5), none, none] [] h (f_X10_countAheadOf_55 rc16 a0 x1 x2 x3 x4 x5 h) := by
  unfold f_X10_countAheadOf_55
  refine sim_iconst (1) dX10_countAheadOf_55 (by decide +kernel) ?_
  refine sim_goto 60 dX10_countAheadOf_56 (by decide) ?_
  exact sim_lv (am_leS (am_leS (am_leS (am_leS (am_leS (am_leS (am_leN (am_leN am_leT)))))))) (t_X10_countAheadOf_60 d (by omega) _ hrc16 _ _ _ _ _ _ _ _)
def f_X10_countAheadOf_16  : Nat → Nat × Nat → Int32 → Int32 → Int32 → Int32 → Int32 → am_H → am_R
  | 0, _, _, _, _, _, _, _ => none
  | n + 1, a0, x1, x2, x3, x4, x5, h => m_gI (some a0) 10 4 h fun v6 => if v6 ≤ x5 then (m_ri h x4) else (m_gR (some a0) 10 3 h fun o7 => m_aR o7 5 x5 h fun o8 => m_ao o8 9 fun a11 => m_bI (f_X9_latest a11 h) fun h9 v10 => if x3 < v10 then (f_X10_countAheadOf_55 (f_X10_countAheadOf_16  n) a0 x1 x2 x3 x4 x5 h9) else (if v10 = x3 then (if x1 ≤ x5 then (f_X10_countAheadOf_59 (f_X10_countAheadOf_16  n) a0 x1 x2 x3 x4 x5 h9) else (f_X10_countAheadOf_55 (f_X10_countAheadOf_16  n) a0 x1 x2 x3 x4 x5 h9)) else (f_X10_countAheadOf_59 (f_X10_countAheadOf_16  n) a0 x1 x2 x3 x4 x5 h9)))
theorem t_X10_countAheadOf_16 (d : Nat) (hd : 3 ≤ d)  : ∀ (n : Nat) (a0 : Nat × Nat) (x1 : Int32) (x2 : Int32) (x3 : Int32) (x4 : Int32) (x5 : Int32) (h : am_H), Sim m_X10_countAheadOf d 16 [some (.inr (.inr (some a0))), some (.inl x1), some (.inl x2), some (.inl x3), some (.inl x4), some (.inl x5), none, none] [] h (f_X10_countAheadOf_16  n a0 x1 x2 x3 x4 x5 h) := by
  intro n
  induction n with
  | zero => intros; exact sim_none
  | succ n hrc16 =>
    intro a0 x1 x2 x3 x4 x5 h
    rw [f_X10_countAheadOf_16]
    refine sim_iload dX10_countAheadOf_16 rfl ?_
    refine sim_aload_n dX10_countAheadOf_18 rfl ?_
    refine sim_gI 10 4 dX10_countAheadOf_19 rfl wf_RX10_104 (Nat.le_of_ble_eq_true rfl) rfl (fun v6 => ?_)
    refine sim_ic_ge 85 dX10_countAheadOf_22 (by decide) (fun c => ?_) (fun c => ?_)
    · refine sim_iload dX10_countAheadOf_85 rfl ?_
      exact sim_iret dX10_countAheadOf_87 rfl
    · refine sim_aload_n dX10_countAheadOf_25 rfl ?_
      refine sim_gR 10 3 dX10_countAheadOf_26 rfl wf_RX10_21 (Nat.le_of_ble_eq_true rfl) rfl (fun o7 => ?_)
      refine sim_iload dX10_countAheadOf_29 rfl ?_
      refine sim_aR 5 rfl dX10_countAheadOf_31 (fun o8 => ?_)
      refine sim_ao0 (fun a11 e => ?_)
      refine sim_virt (d - 1) e dX10_countAheadOf_32 (k_X9_latest (d - 1) (by omega) _  _) q_X9_latest rfl rfl wm_RX10_443 rfl rfl (by omega) (Nat.le_of_ble_eq_true rfl) am_nI (am_rI fun h9 v10 => ?_) am_eI
      refine sim_istore dX10_countAheadOf_35 (Nat.le_of_ble_eq_true rfl) ?_
      refine sim_iload dX10_countAheadOf_37 rfl ?_
      refine sim_iload_n dX10_countAheadOf_39 rfl ?_
      refine sim_ic_gt 55 dX10_countAheadOf_40 (by decide) (fun c => ?_) (fun c => ?_)
      · exact sim_lv (am_leS (am_leS (am_leS (am_leS (am_leS (am_leS (am_leN (am_leN am_leT)))))))) (t_X10_countAheadOf_55 d (by omega) _ hrc16 _ _ _ _ _ _ _)
      · refine sim_iload dX10_countAheadOf_43 rfl ?_
        refine sim_iload_n dX10_countAheadOf_45 rfl ?_
        refine sim_ic_ne 59 dX10_countAheadOf_46 (by decide) (fun c => ?_) (fun c => ?_)
        · exact sim_lv (am_leS (am_leS (am_leS (am_leS (am_leS (am_leS (am_leN (am_leN am_leT)))))))) (t_X10_countAheadOf_59 d (by omega) _ hrc16 _ _ _ _ _ _ _)
        · refine sim_iload dX10_countAheadOf_49 rfl ?_
          refine sim_iload_n dX10_countAheadOf_51 rfl ?_
          refine sim_ic_ge 59 dX10_countAheadOf_52 (by decide) (fun c => ?_) (fun c => ?_)
          · exact sim_lv (am_leS (am_leS (am_leS (am_leS (am_leS (am_leS (am_leN (am_leN am_leT)))))))) (t_X10_countAheadOf_59 d (by omega) _ hrc16 _ _ _ _ _ _ _)
          · exact sim_lv (am_leS (am_leS (am_leS (am_leS (am_leS (am_leS (am_leN (am_leN am_leT)))))))) (t_X10_countAheadOf_55 d (by omega) _ hrc16 _ _ _ _ _ _ _)
def f_X10_countAheadOf (a0 : Nat × Nat) (x1 : Int32) (x2 : Int32) (h : am_H) : am_R := m_gR (some a0) 10 3 h fun o1 => m_aR o1 5 x1 h fun o2 => m_ao o2 9 fun a5 => m_bI (f_X9_latest a5 h) fun h3 v4 => f_X10_countAheadOf_16 5000 a0 x1 x2 v4 (0 : Int32) (0 : Int32) h3
theorem k_X10_countAheadOf (d : Nat) (hd : 3 ≤ d) (a0 : Nat × Nat) (x1 : Int32) (x2 : Int32) (h : am_H) : am_Con m_X10_countAheadOf d [.inr (.inr (some a0)), .inl x1, .inl x2] h (f_X10_countAheadOf a0 x1 x2 h) := am_con (by decide +kernel) (Nat.le_of_ble_eq_true rfl) (by
  unfold f_X10_countAheadOf
  refine sim_aload_n dX10_countAheadOf_0 rfl ?_
  refine sim_gR 10 3 dX10_countAheadOf_1 rfl wf_RX10_21 (Nat.le_of_ble_eq_true rfl) rfl (fun o1 => ?_)
  refine sim_iload_n dX10_countAheadOf_4 rfl ?_
  refine sim_aR 5 rfl dX10_countAheadOf_5 (fun o2 => ?_)
  refine sim_ao0 (fun a5 e => ?_)
  refine sim_virt (d - 1) e dX10_countAheadOf_6 (k_X9_latest (d - 1) (by omega) _  _) q_X9_latest rfl rfl wm_RX10_443 rfl rfl (by omega) (Nat.le_of_ble_eq_true rfl) am_nI (am_rI fun h3 v4 => ?_) am_eI
  refine sim_istore_n dX10_countAheadOf_9 (Nat.le_of_ble_eq_true rfl) ?_
  refine sim_iconst (0) dX10_countAheadOf_10 (by decide +kernel) ?_
  refine sim_istore dX10_countAheadOf_11 (Nat.le_of_ble_eq_true rfl) ?_
  refine sim_iconst (0) dX10_countAheadOf_13 (by decide +kernel) ?_
  refine sim_istore dX10_countAheadOf_14 (Nat.le_of_ble_eq_true rfl) ?_
  exact sim_lv (am_leS (am_leS (am_leS (am_leS (am_leS (am_leS (am_leN (am_leN am_leT)))))))) (t_X10_countAheadOf_16 d (by omega) _ _ _ _ _ _ _ _))
theorem q_X10_countAheadOf : am_Cal m_X10_countAheadOf 2 2 := ⟨am_mem 772 (w := Cond.code yX10_countAheadOf cX10_countAheadOf 8 (some .int)) (by decide +kernel) rfl, am_mem 30 (w := Cond.initialized RX10) (by decide +kernel) rfl, fun z => absurd z (by decide), fun _ => am_mem 771 (w := Cond.instanceMethod yX10_countAheadOf) (by decide +kernel) rfl, fun z => absurd z (by decide), fun _ => am_mem 18 (w := Cond.selects RX10 yX10_countAheadOf yX10_countAheadOf) (by decide +kernel) rfl, by decide +kernel, by decide +kernel, Nat.le_of_ble_eq_true rfl⟩
abbrev m_X10_placesOf : am_M := (yX10_placesOf, cX10_placesOf, 3, some .int, [])
def f_X10_placesOf_22  (s0 : Int32) (h : am_H) : am_R := m_ri h s0
theorem t_X10_placesOf_22 (d : Nat) (hd : 2 ≤ d)  (s0 : Int32) (h : am_H) : Sim m_X10_placesOf d 22 [none, none, none] [.inl s0] h (f_X10_placesOf_22  s0 h) := by
  unfold f_X10_placesOf_22
  exact sim_iret dX10_placesOf_22 rfl
def f_X10_placesOf (a0 : Nat × Nat) (x1 : Option (Nat × Nat)) (x2 : Int32) (h : am_H) : am_R := if x2 = 0 then (m_gI x1 9 8 h fun v1 => f_X10_placesOf_22 v1 h) else (m_gR (some a0) 10 7 h fun o2 => m_gI x1 9 7 h fun v3 => m_ao o2 7 fun a6 => m_bI (f_X7_belongUnder a6 v3 h) fun h4 v5 => f_X10_placesOf_22 v5 h4)
theorem k_X10_placesOf (d : Nat) (hd : 2 ≤ d) (a0 : Nat × Nat) (x1 : Option (Nat × Nat)) (x2 : Int32) (h : am_H) : am_Con m_X10_placesOf d [.inr (.inr (some a0)), .inr (.inr x1), .inl x2] h (f_X10_placesOf a0 x1 x2 h) := am_con (by decide +kernel) (Nat.le_of_ble_eq_true rfl) (by
  unfold f_X10_placesOf
  refine sim_iload_n dX10_placesOf_0 rfl ?_
  refine sim_if_eq 18 dX10_placesOf_1 (by decide) (fun c => ?_) (fun c => ?_)
  · refine sim_aload_n dX10_placesOf_18 rfl ?_
    refine sim_gI 9 8 dX10_placesOf_19 rfl wf_RX10_388 (Nat.le_of_ble_eq_true rfl) rfl (fun v1 => ?_)
    exact sim_lv (am_leN (am_leN (am_leN am_leT))) (t_X10_placesOf_22 d (by omega) _ _)
  · refine sim_aload_n dX10_placesOf_4 rfl ?_
    refine sim_gR 10 7 dX10_placesOf_5 rfl wf_RX10_34 (Nat.le_of_ble_eq_true rfl) rfl (fun o2 => ?_)
    refine sim_aload_n dX10_placesOf_8 rfl ?_
    refine sim_gI 9 7 dX10_placesOf_9 rfl wf_RX10_234 (Nat.le_of_ble_eq_true rfl) rfl (fun v3 => ?_)
    refine sim_ao1 (fun a6 e => ?_)
    refine sim_virt (d - 1) e dX10_placesOf_12 (k_X7_belongUnder (d - 1) (by omega) _ _ _) q_X7_belongUnder rfl rfl wm_RX10_236 rfl rfl (by omega) (Nat.le_of_ble_eq_true rfl) am_nI (am_rI fun h4 v5 => ?_) am_eI
    refine sim_goto 22 dX10_placesOf_15 (by decide) ?_
    exact sim_lv (am_leN (am_leN (am_leN am_leT))) (t_X10_placesOf_22 d (by omega) _ _))
theorem q_X10_placesOf : am_Cal m_X10_placesOf 2 2 := ⟨am_mem 653 (w := Cond.code yX10_placesOf cX10_placesOf 3 (some .int)) (by decide +kernel) rfl, am_mem 30 (w := Cond.initialized RX10) (by decide +kernel) rfl, fun z => absurd z (by decide), fun _ => am_mem 652 (w := Cond.instanceMethod yX10_placesOf) (by decide +kernel) rfl, fun z => absurd z (by decide), fun _ => am_mem 8 (w := Cond.selects RX10 yX10_placesOf yX10_placesOf) (by decide +kernel) rfl, by decide +kernel, by decide +kernel, Nat.le_of_ble_eq_true rfl⟩
abbrev m_X10_isTagSo : am_M := (yX10_isTagSo, cX10_isTagSo, 5, some .boolean, [])
def f_X10_isTagSo_51  (s0 : Int32) (h : am_H) : am_R := m_rz h s0
theorem t_X10_isTagSo_51 (d : Nat) (hd : 3 ≤ d)  (s0 : Int32) (h : am_H) : Sim m_X10_isTagSo d 51 [none, none, none, none, none] [.inl s0] h (f_X10_isTagSo_51  s0 h) := by
  unfold f_X10_isTagSo_51
  exact sim_zret dX10_isTagSo_51 rfl
def f_X10_isTagSo (a0 : Nat × Nat) (x1 : Option (Nat × Nat)) (x2 : Int32) (x3 : Int32) (h : am_H) : am_R := m_gR (some a0) 10 7 h fun o1 => m_gI o1 7 0 h fun v2 => if x2 < v2 then (m_gR (some a0) 10 7 h fun o3 => m_ao o3 7 fun a6 => m_bI (f_X7_meaningOf a6 x2 h) fun h4 v5 => if v5 = (-1 : Int32) then (m_gI x1 9 7 h4 fun v12 => m_bI (f_X10_has v12 x2 h4) fun h13 v14 => f_X10_isTagSo_51 v14 h13) else (m_ao (some a0) 10 fun a9 => m_bI (f_X10_placesOf a9 x1 x3 h4) fun h7 v8 => m_bI (f_X10_has v8 v5 h7) fun h10 v11 => f_X10_isTagSo_51 v11 h10)) else (m_rz h (0 : Int32))
theorem k_X10_isTagSo (d : Nat) (hd : 3 ≤ d) (a0 : Nat × Nat) (x1 : Option (Nat × Nat)) (x2 : Int32) (x3 : Int32) (h : am_H) : am_Con m_X10_isTagSo d [.inr (.inr (some a0)), .inr (.inr x1), .inl x2, .inl x3] h (f_X10_isTagSo a0 x1 x2 x3 h) := am_con (by decide +kernel) (Nat.le_of_ble_eq_true rfl) (by
  unfold f_X10_isTagSo
  refine sim_iload_n dX10_isTagSo_0 rfl ?_
  refine sim_aload_n dX10_isTagSo_1 rfl ?_
  refine sim_gR 10 7 dX10_isTagSo_2 rfl wf_RX10_34 (Nat.le_of_ble_eq_true rfl) rfl (fun o1 => ?_)
  refine sim_gI 7 0 dX10_isTagSo_5 rfl wf_RX10_180 (Nat.le_of_ble_eq_true rfl) rfl (fun v2 => ?_)
  refine sim_ic_lt 13 dX10_isTagSo_8 (by decide) (fun c => ?_) (fun c => ?_)
  · refine sim_aload_n dX10_isTagSo_13 rfl ?_
    refine sim_gR 10 7 dX10_isTagSo_14 rfl wf_RX10_34 (Nat.le_of_ble_eq_true rfl) rfl (fun o3 => ?_)
    refine sim_iload_n dX10_isTagSo_17 rfl ?_
    refine sim_ao1 (fun a6 e => ?_)
    refine sim_virt (d - 1) e dX10_isTagSo_18 (k_X7_meaningOf (d - 1) (by omega) _ _ _) q_X7_meaningOf rfl rfl wm_RX10_220 rfl rfl (by omega) (Nat.le_of_ble_eq_true rfl) am_nI (am_rI fun h4 v5 => ?_) am_eI
    refine sim_istore dX10_isTagSo_21 (Nat.le_of_ble_eq_true rfl) ?_
    refine sim_iload dX10_isTagSo_23 rfl ?_
    refine sim_iconst (-1) dX10_isTagSo_25 (by decide +kernel) ?_
    refine sim_ic_ne 40 dX10_isTagSo_26 (by decide) (fun c => ?_) (fun c => ?_)
    · refine sim_aload_n dX10_isTagSo_40 rfl ?_
      refine sim_aload_n dX10_isTagSo_41 rfl ?_
      refine sim_iload_n dX10_isTagSo_42 rfl ?_
      refine sim_ao2 (fun a9 e => ?_)
      refine sim_virt (d - 1) e dX10_isTagSo_43 (k_X10_placesOf (d - 1) (by omega) _ _ _ _) q_X10_placesOf rfl rfl wm_RX10_247 rfl rfl (by omega) (Nat.le_of_ble_eq_true rfl) am_nI (am_rI fun h7 v8 => ?_) am_eI
      refine sim_iload dX10_isTagSo_46 rfl ?_
      refine sim_static (d - 1) dX10_isTagSo_48 (k_X10_has (d - 1) (by omega) _ _ _) q_X10_has wm_RX10_91 rfl rfl (by omega) (Nat.le_of_ble_eq_true rfl) am_nI (am_rI fun h10 v11 => ?_) am_eI
      exact sim_lv (am_leN (am_leN (am_leN (am_leN (am_leN am_leT))))) (t_X10_isTagSo_51 d (by omega) _ _)
    · refine sim_aload_n dX10_isTagSo_29 rfl ?_
      refine sim_gI 9 7 dX10_isTagSo_30 rfl wf_RX10_234 (Nat.le_of_ble_eq_true rfl) rfl (fun v12 => ?_)
      refine sim_iload_n dX10_isTagSo_33 rfl ?_
      refine sim_static (d - 1) dX10_isTagSo_34 (k_X10_has (d - 1) (by omega) _ _ _) q_X10_has wm_RX10_91 rfl rfl (by omega) (Nat.le_of_ble_eq_true rfl) am_nI (am_rI fun h13 v14 => ?_) am_eI
      refine sim_goto 51 dX10_isTagSo_37 (by decide) ?_
      exact sim_lv (am_leN (am_leN (am_leN (am_leN (am_leN am_leT))))) (t_X10_isTagSo_51 d (by omega) _ _)
  · refine sim_iconst (0) dX10_isTagSo_11 (by decide +kernel) ?_
    exact sim_zret dX10_isTagSo_12 rfl)
theorem q_X10_isTagSo : am_Cal m_X10_isTagSo 3 2 := ⟨am_mem 757 (w := Cond.code yX10_isTagSo cX10_isTagSo 5 (some .boolean)) (by decide +kernel) rfl, am_mem 30 (w := Cond.initialized RX10) (by decide +kernel) rfl, fun z => absurd z (by decide), fun _ => am_mem 756 (w := Cond.instanceMethod yX10_isTagSo) (by decide +kernel) rfl, fun z => absurd z (by decide), fun _ => am_mem 16 (w := Cond.selects RX10 yX10_isTagSo yX10_isTagSo) (by decide +kernel) rfl, by decide +kernel, by decide +kernel, Nat.le_of_ble_eq_true rfl⟩
abbrev m_X10_worksOfItem : am_M := (yX10_worksOfItem, cX10_worksOfItem, 9, some .int, [])
def f_X10_worksOfItem_79 (rc6 : Nat × Nat → Int32 → Int32 → Int32 → Int32 → Int32 → Int32 → am_H → am_R) (a0 : Nat × Nat) (x1 : Int32) (x2 : Int32) (x3 : Int32) (x4 : Int32) (x5 : Int32) (x6 : Int32) (s0 : Int32) (h : am_H) : am_R := m_bI (f_X10_with x5 x6 s0 h) fun h14 v15 => rc6 a0 x1 x2 x3 x4 v15 (x6 + 1) h14
theorem t_X10_worksOfItem_79 (d : Nat) (hd : 4 ≤ d) (rc6 : Nat × Nat → Int32 → Int32 → Int32 → Int32 → Int32 → Int32 → am_H → am_R) (hrc6 : ∀ a0 x1 x2 x3 x4 x5 x6 h, Sim m_X10_worksOfItem d 6 [some (.inr (.inr (some a0))), some (.inl x1), some (.inl x2), some (.inl x3), some (.inl x4), some (.inl x5), some (.inl x6), none, none] [] h (rc6 a0 x1 x2 x3 x4 x5 x6 h)) (a0 : Nat × Nat) (x1 : Int32) (x2 : Int32) (x3 : Int32) (x4 : Int32) (x5 : Int32) (x6 : Int32) (s0 : Int32) (h : am_H) : Sim m_X10_worksOfItem d 79 [some (.inr (.inr (some a0))), some (.inl x1), some (.inl x2), some (.inl x3), some (.inl x4), some (.inl x5), some (.inl x6), none, none] [.inl s0] h (f_X10_worksOfItem_79 rc6 a0 x1 x2 x3 x4 x5 x6 s0 h) := by
  unfold f_X10_worksOfItem_79
  refine sim_istore dX10_worksOfItem_79 (Nat.le_of_ble_eq_true rfl) ?_
  refine sim_iload dX10_worksOfItem_81 rfl ?_
  refine sim_iload dX10_worksOfItem_83 rfl ?_
  refine sim_iload dX10_worksOfItem_85 rfl ?_
  refine sim_static (d - 1) dX10_worksOfItem_87 (k_X10_with (d - 1) (by omega) _ _ _ _) q_X10_with wm_RX10_95 rfl rfl (by omega) (Nat.le_of_ble_eq_true rfl) am_nI (am_rI fun h14 v15 => ?_) am_eI
  refine sim_istore dX10_worksOfItem_90 (Nat.le_of_ble_eq_true rfl) ?_
  refine sim_iinc (1) dX10_worksOfItem_92 rfl (by decide +kernel) (Nat.le_of_ble_eq_true rfl) ?_
  refine sim_goto 6 dX10_worksOfItem_95 (by decide) ?_
  exact sim_lv (am_leS (am_leS (am_leS (am_leS (am_leS (am_leS (am_leS (am_leN (am_leN am_leT))))))))) (hrc6 _ _ _ _ _ _ _ _)
def f_X10_worksOfItem_6  : Nat → Nat × Nat → Int32 → Int32 → Int32 → Int32 → Int32 → Int32 → am_H → am_R
  | 0, _, _, _, _, _, _, _, _ => none
  | n + 1, a0, x1, x2, x3, x4, x5, x6, h => m_gI (some a0) 10 4 h fun v1 => if v1 ≤ x6 then (m_ri h x5) else (m_gR (some a0) 10 3 h fun o2 => m_aR o2 5 x6 h fun o3 => if x1 = (116 : Int32) then (m_ao (some a0) 10 fun a13 => m_bI (f_X10_isTagSo a13 o3 x2 x4 h) fun h11 v12 => f_X10_worksOfItem_79 (f_X10_worksOfItem_6  n) a0 x1 x2 x3 x4 x5 x6 v12 h11) else (if x1 = (97 : Int32) then (m_gI (some a0) 10 0 h fun v5 => m_ao o3 9 fun a8 => m_bI (f_X9_ownersToldTo a8 x3 v5 h) fun h6 v7 => m_bI (f_X10_has v7 x2 h6) fun h9 v10 => f_X10_worksOfItem_79 (f_X10_worksOfItem_6  n) a0 x1 x2 x3 x4 x5 x6 v10 h9) else (m_gI o3 9 0 h fun v4 => if x2 < v4 then (f_X10_worksOfItem_79 (f_X10_worksOfItem_6  n) a0 x1 x2 x3 x4 x5 x6 (0 : Int32) h) else (f_X10_worksOfItem_79 (f_X10_worksOfItem_6  n) a0 x1 x2 x3 x4 x5 x6 (1 : Int32) h))))
theorem t_X10_worksOfItem_6 (d : Nat) (hd : 4 ≤ d)  : ∀ (n : Nat) (a0 : Nat × Nat) (x1 : Int32) (x2 : Int32) (x3 : Int32) (x4 : Int32) (x5 : Int32) (x6 : Int32) (h : am_H), Sim m_X10_worksOfItem d 6 [some (.inr (.inr (some a0))), some (.inl x1), some (.inl x2), some (.inl x3), some (.inl x4), some (.inl x5), some (.inl x6), none, none] [] h (f_X10_worksOfItem_6  n a0 x1 x2 x3 x4 x5 x6 h) := by
  intro n
  induction n with
  | zero => intros; exact sim_none
  | succ n hrc6 =>
    intro a0 x1 x2 x3 x4 x5 x6 h
    rw [f_X10_worksOfItem_6]
    refine sim_iload dX10_worksOfItem_6 rfl ?_
    refine sim_aload_n dX10_worksOfItem_8 rfl ?_
    refine sim_gI 10 4 dX10_worksOfItem_9 rfl wf_RX10_104 (Nat.le_of_ble_eq_true rfl) rfl (fun v1 => ?_)
    refine sim_ic_ge 98 dX10_worksOfItem_12 (by decide) (fun c => ?_) (fun c => ?_)
    · refine sim_iload dX10_worksOfItem_98 rfl ?_
      exact sim_iret dX10_worksOfItem_100 rfl
    · refine sim_aload_n dX10_worksOfItem_15 rfl ?_
      refine sim_gR 10 3 dX10_worksOfItem_16 rfl wf_RX10_21 (Nat.le_of_ble_eq_true rfl) rfl (fun o2 => ?_)
      refine sim_iload dX10_worksOfItem_19 rfl ?_
      refine sim_aR 5 rfl dX10_worksOfItem_21 (fun o3 => ?_)
      refine sim_astore dX10_worksOfItem_22 (Nat.le_of_ble_eq_true rfl) ?_
      refine sim_iload_n dX10_worksOfItem_24 rfl ?_
      refine sim_bipush (116) dX10_worksOfItem_25 (by decide +kernel) ?_
      refine sim_ic_ne 42 dX10_worksOfItem_27 (by decide) (fun c => ?_) (fun c => ?_)
      · refine sim_iload_n dX10_worksOfItem_42 rfl ?_
        refine sim_bipush (97) dX10_worksOfItem_43 (by decide +kernel) ?_
        refine sim_ic_ne 65 dX10_worksOfItem_45 (by decide) (fun c => ?_) (fun c => ?_)
        · refine sim_aload dX10_worksOfItem_65 rfl ?_
          refine sim_gI 9 0 dX10_worksOfItem_67 rfl wf_RX10_440 (Nat.le_of_ble_eq_true rfl) rfl (fun v4 => ?_)
          refine sim_iload_n dX10_worksOfItem_70 rfl ?_
          refine sim_ic_gt 78 dX10_worksOfItem_71 (by decide) (fun c => ?_) (fun c => ?_)
          · refine sim_iconst (0) dX10_worksOfItem_78 (by decide +kernel) ?_
            exact sim_lv (am_leS (am_leS (am_leS (am_leS (am_leS (am_leS (am_leS (am_leN (am_leN am_leT))))))))) (t_X10_worksOfItem_79 d (by omega) _ hrc6 _ _ _ _ _ _ _ _ _)
          · refine sim_iconst (1) dX10_worksOfItem_74 (by decide +kernel) ?_
            refine sim_goto 79 dX10_worksOfItem_75 (by decide) ?_
            exact sim_lv (am_leS (am_leS (am_leS (am_leS (am_leS (am_leS (am_leS (am_leN (am_leN am_leT))))))))) (t_X10_worksOfItem_79 d (by omega) _ hrc6 _ _ _ _ _ _ _ _ _)
        · refine sim_aload dX10_worksOfItem_48 rfl ?_
          refine sim_iload_n dX10_worksOfItem_50 rfl ?_
          refine sim_aload_n dX10_worksOfItem_51 rfl ?_
          refine sim_gI 10 0 dX10_worksOfItem_52 rfl wf_RX10_73 (Nat.le_of_ble_eq_true rfl) rfl (fun v5 => ?_)
          refine sim_ao2 (fun a8 e => ?_)
          refine sim_virt (d - 1) e dX10_worksOfItem_55 (k_X9_ownersToldTo (d - 1) (by omega) _ _ _ _) q_X9_ownersToldTo rfl rfl wm_RX10_176 rfl rfl (by omega) (Nat.le_of_ble_eq_true rfl) am_nI (am_rI fun h6 v7 => ?_) am_eI
          refine sim_iload_n dX10_worksOfItem_58 rfl ?_
          refine sim_static (d - 1) dX10_worksOfItem_59 (k_X10_has (d - 1) (by omega) _ _ _) q_X10_has wm_RX10_91 rfl rfl (by omega) (Nat.le_of_ble_eq_true rfl) am_nI (am_rI fun h9 v10 => ?_) am_eI
          refine sim_goto 79 dX10_worksOfItem_62 (by decide) ?_
          exact sim_lv (am_leS (am_leS (am_leS (am_leS (am_leS (am_leS (am_leS (am_leN (am_leN am_leT))))))))) (t_X10_worksOfItem_79 d (by omega) _ hrc6 _ _ _ _ _ _ _ _ _)
      · refine sim_aload_n dX10_worksOfItem_30 rfl ?_
        refine sim_aload dX10_worksOfItem_31 rfl ?_
        refine sim_iload_n dX10_worksOfItem_33 rfl ?_
        refine sim_iload dX10_worksOfItem_34 rfl ?_
        refine sim_ao3 (fun a13 e => ?_)
        refine sim_virt (d - 1) e dX10_worksOfItem_36 (k_X10_isTagSo (d - 1) (by omega) _ _ _ _ _) q_X10_isTagSo rfl rfl wm_RX10_436 rfl rfl (by omega) (Nat.le_of_ble_eq_true rfl) am_nI (am_rI fun h11 v12 => ?_) am_eI
        refine sim_goto 79 dX10_worksOfItem_39 (by decide) ?_
        exact sim_lv (am_leS (am_leS (am_leS (am_leS (am_leS (am_leS (am_leS (am_leN (am_leN am_leT))))))))) (t_X10_worksOfItem_79 d (by omega) _ hrc6 _ _ _ _ _ _ _ _ _)
def f_X10_worksOfItem (a0 : Nat × Nat) (x1 : Int32) (x2 : Int32) (x3 : Int32) (x4 : Int32) (h : am_H) : am_R := f_X10_worksOfItem_6 5000 a0 x1 x2 x3 x4 (0 : Int32) (0 : Int32) h
theorem k_X10_worksOfItem (d : Nat) (hd : 4 ≤ d) (a0 : Nat × Nat) (x1 : Int32) (x2 : Int32) (x3 : Int32) (x4 : Int32) (h : am_H) : am_Con m_X10_worksOfItem d [.inr (.inr (some a0)), .inl x1, .inl x2, .inl x3, .inl x4] h (f_X10_worksOfItem a0 x1 x2 x3 x4 h) := am_con (by decide +kernel) (Nat.le_of_ble_eq_true rfl) (by
  unfold f_X10_worksOfItem
  refine sim_iconst (0) dX10_worksOfItem_0 (by decide +kernel) ?_
  refine sim_istore dX10_worksOfItem_1 (Nat.le_of_ble_eq_true rfl) ?_
  refine sim_iconst (0) dX10_worksOfItem_3 (by decide +kernel) ?_
  refine sim_istore dX10_worksOfItem_4 (Nat.le_of_ble_eq_true rfl) ?_
  exact sim_lv (am_leS (am_leS (am_leS (am_leS (am_leS (am_leS (am_leS (am_leN (am_leN am_leT))))))))) (t_X10_worksOfItem_6 d (by omega) _ _ _ _ _ _ _ _ _))
theorem q_X10_worksOfItem : am_Cal m_X10_worksOfItem 4 2 := ⟨am_mem 753 (w := Cond.code yX10_worksOfItem cX10_worksOfItem 9 (some .int)) (by decide +kernel) rfl, am_mem 30 (w := Cond.initialized RX10) (by decide +kernel) rfl, fun z => absurd z (by decide), fun _ => am_mem 752 (w := Cond.instanceMethod yX10_worksOfItem) (by decide +kernel) rfl, fun z => absurd z (by decide), fun _ => am_mem 15 (w := Cond.selects RX10 yX10_worksOfItem yX10_worksOfItem) (by decide +kernel) rfl, by decide +kernel, by decide +kernel, Nat.le_of_ble_eq_true rfl⟩
abbrev m_X10_worksSeenBy : am_M := (yX10_worksSeenBy, cX10_worksSeenBy, 4, some .int, [])
def f_X10_worksSeenBy_4  : Nat → Nat × Nat → Int32 → Int32 → Int32 → am_H → am_R
  | 0, _, _, _, _, _ => none
  | n + 1, a0, x1, x2, x3, h => m_gI (some a0) 10 4 h fun v1 => if v1 ≤ x3 then (m_ri h x2) else (m_gR (some a0) 10 3 h fun o2 => m_aR o2 5 x3 h fun o3 => m_gI (some a0) 10 0 h fun v4 => m_ao o3 9 fun a7 => m_bI (f_X9_isSeenBy a7 x1 v4 h) fun h5 v6 => m_bI (f_X10_with x2 x3 v6 h5) fun h8 v9 => (f_X10_worksSeenBy_4  n) a0 x1 v9 (x3 + 1) h8)
theorem t_X10_worksSeenBy_4 (d : Nat) (hd : 3 ≤ d)  : ∀ (n : Nat) (a0 : Nat × Nat) (x1 : Int32) (x2 : Int32) (x3 : Int32) (h : am_H), Sim m_X10_worksSeenBy d 4 [some (.inr (.inr (some a0))), some (.inl x1), some (.inl x2), some (.inl x3)] [] h (f_X10_worksSeenBy_4  n a0 x1 x2 x3 h) := by
  intro n
  induction n with
  | zero => intros; exact sim_none
  | succ n hrc4 =>
    intro a0 x1 x2 x3 h
    rw [f_X10_worksSeenBy_4]
    refine sim_iload_n dX10_worksSeenBy_4 rfl ?_
    refine sim_aload_n dX10_worksSeenBy_5 rfl ?_
    refine sim_gI 10 4 dX10_worksSeenBy_6 rfl wf_RX10_104 (Nat.le_of_ble_eq_true rfl) rfl (fun v1 => ?_)
    refine sim_ic_ge 38 dX10_worksSeenBy_9 (by decide) (fun c => ?_) (fun c => ?_)
    · refine sim_iload_n dX10_worksSeenBy_38 rfl ?_
      exact sim_iret dX10_worksSeenBy_39 rfl
    · refine sim_iload_n dX10_worksSeenBy_12 rfl ?_
      refine sim_iload_n dX10_worksSeenBy_13 rfl ?_
      refine sim_aload_n dX10_worksSeenBy_14 rfl ?_
      refine sim_gR 10 3 dX10_worksSeenBy_15 rfl wf_RX10_21 (Nat.le_of_ble_eq_true rfl) rfl (fun o2 => ?_)
      refine sim_iload_n dX10_worksSeenBy_18 rfl ?_
      refine sim_aR 5 rfl dX10_worksSeenBy_19 (fun o3 => ?_)
      refine sim_iload_n dX10_worksSeenBy_20 rfl ?_
      refine sim_aload_n dX10_worksSeenBy_21 rfl ?_
      refine sim_gI 10 0 dX10_worksSeenBy_22 rfl wf_RX10_73 (Nat.le_of_ble_eq_true rfl) rfl (fun v4 => ?_)
      refine sim_ao2 (fun a7 e => ?_)
      refine sim_virt (d - 1) e dX10_worksSeenBy_25 (k_X9_isSeenBy (d - 1) (by omega) _ _ _ _) q_X9_isSeenBy rfl rfl wm_RX10_173 rfl rfl (by omega) (Nat.le_of_ble_eq_true rfl) am_nI (am_rI fun h5 v6 => ?_) am_eI
      refine sim_static (d - 1) dX10_worksSeenBy_28 (k_X10_with (d - 1) (by omega) _ _ _ _) q_X10_with wm_RX10_95 rfl rfl (by omega) (Nat.le_of_ble_eq_true rfl) am_nI (am_rI fun h8 v9 => ?_) am_eI
      refine sim_istore_n dX10_worksSeenBy_31 (Nat.le_of_ble_eq_true rfl) ?_
      refine sim_iinc (1) dX10_worksSeenBy_32 rfl (by decide +kernel) (Nat.le_of_ble_eq_true rfl) ?_
      refine sim_goto 4 dX10_worksSeenBy_35 (by decide) ?_
      exact sim_lv (am_leS (am_leS (am_leS (am_leS am_leT)))) (hrc4 _ _ _ _ _)
def f_X10_worksSeenBy (a0 : Nat × Nat) (x1 : Int32) (h : am_H) : am_R := f_X10_worksSeenBy_4 5000 a0 x1 (0 : Int32) (0 : Int32) h
theorem k_X10_worksSeenBy (d : Nat) (hd : 3 ≤ d) (a0 : Nat × Nat) (x1 : Int32) (h : am_H) : am_Con m_X10_worksSeenBy d [.inr (.inr (some a0)), .inl x1] h (f_X10_worksSeenBy a0 x1 h) := am_con (by decide +kernel) (Nat.le_of_ble_eq_true rfl) (by
  unfold f_X10_worksSeenBy
  refine sim_iconst (0) dX10_worksSeenBy_0 (by decide +kernel) ?_
  refine sim_istore_n dX10_worksSeenBy_1 (Nat.le_of_ble_eq_true rfl) ?_
  refine sim_iconst (0) dX10_worksSeenBy_2 (by decide +kernel) ?_
  refine sim_istore_n dX10_worksSeenBy_3 (Nat.le_of_ble_eq_true rfl) ?_
  exact sim_lv (am_leS (am_leS (am_leS (am_leS am_leT)))) (t_X10_worksSeenBy_4 d (by omega) _ _ _ _ _ _))
theorem q_X10_worksSeenBy : am_Cal m_X10_worksSeenBy 1 2 := ⟨am_mem 763 (w := Cond.code yX10_worksSeenBy cX10_worksSeenBy 4 (some .int)) (by decide +kernel) rfl, am_mem 30 (w := Cond.initialized RX10) (by decide +kernel) rfl, fun z => absurd z (by decide), fun _ => am_mem 762 (w := Cond.instanceMethod yX10_worksSeenBy) (by decide +kernel) rfl, fun z => absurd z (by decide), fun _ => am_mem 17 (w := Cond.selects RX10 yX10_worksSeenBy yX10_worksSeenBy) (by decide +kernel) rfl, by decide +kernel, by decide +kernel, Nat.le_of_ble_eq_true rfl⟩
abbrev m_X4_hasItem : am_M := (yX4_hasItem, cX4_hasItem, 2, some .boolean, [])
def f_X4_hasItem_19  (s0 : Int32) (h : am_H) : am_R := m_rz h s0
theorem t_X4_hasItem_19 (d : Nat) (hd : 1 ≤ d)  (s0 : Int32) (h : am_H) : Sim m_X4_hasItem d 19 [none, none] [.inl s0] h (f_X4_hasItem_19  s0 h) := by
  unfold f_X4_hasItem_19
  exact sim_zret dX4_hasItem_19 rfl
def f_X4_hasItem_18   (h : am_H) : am_R := f_X4_hasItem_19 (0 : Int32) h
theorem t_X4_hasItem_18 (d : Nat) (hd : 1 ≤ d)   (h : am_H) : Sim m_X4_hasItem d 18 [none, none] [] h (f_X4_hasItem_18   h) := by
  unfold f_X4_hasItem_18
  refine sim_iconst (0) dX4_hasItem_18 (by decide +kernel) ?_
  exact sim_lv (am_leN (am_leN am_leT)) (t_X4_hasItem_19 d (by omega) _ _)
def f_X4_hasItem (a0 : Nat × Nat) (x1 : Int32) (h : am_H) : am_R := m_gI (some a0) 4 2 h fun v1 => if v1 = 0 then (m_bI (f_X4_isFigure x1 h) fun h2 v3 => if v3 = 0 then (f_X4_hasItem_18 h2) else (f_X4_hasItem_19 (1 : Int32) h2)) else (f_X4_hasItem_18 h)
theorem k_X4_hasItem (d : Nat) (hd : 1 ≤ d) (a0 : Nat × Nat) (x1 : Int32) (h : am_H) : am_Con m_X4_hasItem d [.inr (.inr (some a0)), .inl x1] h (f_X4_hasItem a0 x1 h) := am_con (by decide +kernel) (Nat.le_of_ble_eq_true rfl) (by
  unfold f_X4_hasItem
  refine sim_aload_n dX4_hasItem_0 rfl ?_
  refine sim_gI 4 2 dX4_hasItem_1 rfl wf_RX4_19 (Nat.le_of_ble_eq_true rfl) rfl (fun v1 => ?_)
  refine sim_if_ne 18 dX4_hasItem_4 (by decide) (fun c => ?_) (fun c => ?_)
  · exact sim_lv (am_leN (am_leN am_leT)) (t_X4_hasItem_18 d (by omega) _)
  · refine sim_iload_n dX4_hasItem_7 rfl ?_
    refine sim_static (d - 1) dX4_hasItem_8 (k_X4_isFigure (d - 1) (by omega) _ _) q_X4_isFigure wm_RX4_32 rfl rfl (by omega) (Nat.le_of_ble_eq_true rfl) am_nI (am_rI fun h2 v3 => ?_) am_eI
    refine sim_if_eq 18 dX4_hasItem_11 (by decide) (fun c => ?_) (fun c => ?_)
    · exact sim_lv (am_leN (am_leN am_leT)) (t_X4_hasItem_18 d (by omega) _)
    · refine sim_iconst (1) dX4_hasItem_14 (by decide +kernel) ?_
      refine sim_goto 19 dX4_hasItem_15 (by decide) ?_
      exact sim_lv (am_leN (am_leN am_leT)) (t_X4_hasItem_19 d (by omega) _ _))
theorem q_X4_hasItem : am_Cal m_X4_hasItem 1 2 := ⟨am_mem 749 (w := Cond.code yX4_hasItem cX4_hasItem 2 (some .boolean)) (by decide +kernel) rfl, am_mem 33 (w := Cond.initialized RX4) (by decide +kernel) rfl, fun z => absurd z (by decide), fun _ => am_mem 747 (w := Cond.instanceMethod yX4_hasItem) (by decide +kernel) rfl, fun z => absurd z (by decide), fun _ => am_mem 748 (w := Cond.selects RX4 yX4_hasItem yX4_hasItem) (by decide +kernel) rfl, by decide +kernel, by decide +kernel, Nat.le_of_ble_eq_true rfl⟩
abbrev m_X5_end : am_M := (yX5_end, cX5_end, 1, some .int, [])
def f_X5_end (a0 : Nat × Nat) (h : am_H) : am_R := m_gR (some a0) 5 0 h fun o1 => m_gI (some a0) 5 3 h fun v2 => m_aI o1 0 v2 h fun v3 => m_gR (some a0) 5 1 h fun o4 => m_gI (some a0) 5 3 h fun v5 => m_aI o4 0 v5 h fun v6 => m_ri h (v3 ||| v6)
theorem k_X5_end (d : Nat) (hd : 0 ≤ d) (a0 : Nat × Nat) (h : am_H) : am_Con m_X5_end d [.inr (.inr (some a0))] h (f_X5_end a0 h) := am_con (by decide +kernel) (Nat.le_of_ble_eq_true rfl) (by
  unfold f_X5_end
  refine sim_aload_n dX5_end_0 rfl ?_
  refine sim_gR 5 0 dX5_end_1 rfl wf_RX5_9 (Nat.le_of_ble_eq_true rfl) rfl (fun o1 => ?_)
  refine sim_aload_n dX5_end_4 rfl ?_
  refine sim_gI 5 3 dX5_end_5 rfl wf_RX5_22 (Nat.le_of_ble_eq_true rfl) rfl (fun v2 => ?_)
  refine sim_aI dX5_end_8 (fun v3 => ?_)
  refine sim_aload_n dX5_end_9 rfl ?_
  refine sim_gR 5 1 dX5_end_10 rfl wf_RX5_15 (Nat.le_of_ble_eq_true rfl) rfl (fun o4 => ?_)
  refine sim_aload_n dX5_end_13 rfl ?_
  refine sim_gI 5 3 dX5_end_14 rfl wf_RX5_22 (Nat.le_of_ble_eq_true rfl) rfl (fun v5 => ?_)
  refine sim_aI dX5_end_17 (fun v6 => ?_)
  refine sim_ior dX5_end_18 ?_
  exact sim_iret dX5_end_19 rfl)
theorem q_X5_end : am_Cal m_X5_end 0 2 := ⟨am_mem 741 (w := Cond.code yX5_end cX5_end 1 (some .int)) (by decide +kernel) rfl, am_mem 34 (w := Cond.initialized RX5) (by decide +kernel) rfl, fun z => absurd z (by decide), fun _ => am_mem 739 (w := Cond.instanceMethod yX5_end) (by decide +kernel) rfl, fun z => absurd z (by decide), fun _ => am_mem 740 (w := Cond.selects RX5 yX5_end yX5_end) (by decide +kernel) rfl, by decide +kernel, by decide +kernel, Nat.le_of_ble_eq_true rfl⟩
abbrev m_X5_item : am_M := (yX5_item, cX5_item, 2, none, [])
def f_X5_item_29  (a0 : Nat × Nat) (s0 : Int32) (s1 : Int32) (s2 : Int32) (s3 : Option (Nat × Nat)) (h : am_H) : am_R := m_sI s3 s2 (s1 &&& s0) h fun h7 => m_gR (some a0) 5 2 h7 fun o8 => m_gI (some a0) 5 3 h7 fun v9 => m_sZ o8 v9 (0 : Int32) h7 fun h10 => m_rt h10 none
theorem t_X5_item_29 (d : Nat) (hd : 0 ≤ d)  (a0 : Nat × Nat) (s0 : Int32) (s1 : Int32) (s2 : Int32) (s3 : Option (Nat × Nat)) (h : am_H) : Sim m_X5_item d 29 [some (.inr (.inr (some a0))), none] [.inl s0, .inl s1, .inl s2, .inr (.inr s3)] h (f_X5_item_29  a0 s0 s1 s2 s3 h) := by
  unfold f_X5_item_29
  refine sim_iand dX5_item_29 ?_
  refine sim_sI dX5_item_30 (fun h7 => ?_)
  refine sim_aload_n dX5_item_31 rfl ?_
  refine sim_gR 5 2 dX5_item_32 rfl wf_RX5_18 (Nat.le_of_ble_eq_true rfl) rfl (fun o8 => ?_)
  refine sim_aload_n dX5_item_35 rfl ?_
  refine sim_gI 5 3 dX5_item_36 rfl wf_RX5_22 (Nat.le_of_ble_eq_true rfl) rfl (fun v9 => ?_)
  refine sim_iconst (0) dX5_item_39 (by decide +kernel) ?_
  refine sim_sZ dX5_item_40 (fun h10 => ?_)
  exact sim_vret dX5_item_41 rfl
def f_X5_item (a0 : Nat × Nat) (x1 : Int32) (h : am_H) : am_R := m_gR (some a0) 5 1 h fun o1 => m_gI (some a0) 5 3 h fun v2 => m_aI o1 0 v2 h fun v3 => m_gR (some a0) 5 2 h fun o4 => m_gI (some a0) 5 3 h fun v5 => m_aI o4 1 v5 h fun v6 => if v6 = 0 then (f_X5_item_29 a0 x1 v3 v2 o1 h) else (f_X5_item_29 a0 (x1 ^^^ (-1 : Int32)) v3 v2 o1 h)
theorem k_X5_item (d : Nat) (hd : 0 ≤ d) (a0 : Nat × Nat) (x1 : Int32) (h : am_H) : am_Con m_X5_item d [.inr (.inr (some a0)), .inl x1] h (f_X5_item a0 x1 h) := am_con (by decide +kernel) (Nat.le_of_ble_eq_true rfl) (by
  unfold f_X5_item
  refine sim_aload_n dX5_item_0 rfl ?_
  refine sim_gR 5 1 dX5_item_1 rfl wf_RX5_15 (Nat.le_of_ble_eq_true rfl) rfl (fun o1 => ?_)
  refine sim_aload_n dX5_item_4 rfl ?_
  refine sim_gI 5 3 dX5_item_5 rfl wf_RX5_22 (Nat.le_of_ble_eq_true rfl) rfl (fun v2 => ?_)
  refine sim_dup2 dX5_item_8 ?_
  refine sim_aI dX5_item_9 (fun v3 => ?_)
  refine sim_aload_n dX5_item_10 rfl ?_
  refine sim_gR 5 2 dX5_item_11 rfl wf_RX5_18 (Nat.le_of_ble_eq_true rfl) rfl (fun o4 => ?_)
  refine sim_aload_n dX5_item_14 rfl ?_
  refine sim_gI 5 3 dX5_item_15 rfl wf_RX5_22 (Nat.le_of_ble_eq_true rfl) rfl (fun v5 => ?_)
  refine sim_aZ dX5_item_18 (fun v6 => ?_)
  refine sim_if_eq 28 dX5_item_19 (by decide) (fun c => ?_) (fun c => ?_)
  · refine sim_iload_n dX5_item_28 rfl ?_
    exact sim_lv (am_leS (am_leN am_leT)) (t_X5_item_29 d (by omega) _ _ _ _ _ _)
  · refine sim_iload_n dX5_item_22 rfl ?_
    refine sim_iconst (-1) dX5_item_23 (by decide +kernel) ?_
    refine sim_ixor dX5_item_24 ?_
    refine sim_goto 29 dX5_item_25 (by decide) ?_
    exact sim_lv (am_leS (am_leN am_leT)) (t_X5_item_29 d (by omega) _ _ _ _ _ _))
theorem q_X5_item : am_Cal m_X5_item 1 2 := ⟨am_mem 745 (w := Cond.code yX5_item cX5_item 2 none) (by decide +kernel) rfl, am_mem 34 (w := Cond.initialized RX5) (by decide +kernel) rfl, fun z => absurd z (by decide), fun _ => am_mem 743 (w := Cond.instanceMethod yX5_item) (by decide +kernel) rfl, fun z => absurd z (by decide), fun _ => am_mem 744 (w := Cond.selects RX5 yX5_item yX5_item) (by decide +kernel) rfl, by decide +kernel, by decide +kernel, Nat.le_of_ble_eq_true rfl⟩
abbrev m_X5_clear : am_M := (yX5_clear, cX5_clear, 1, none, [])
def f_X5_clear (a0 : Nat × Nat) (h : am_H) : am_R := m_gR (some a0) 5 0 h fun o1 => m_gI (some a0) 5 3 h fun v2 => m_sI o1 v2 (0 : Int32) h fun h3 => m_gR (some a0) 5 1 h3 fun o4 => m_gI (some a0) 5 3 h3 fun v5 => m_sI o4 v5 (-1 : Int32) h3 fun h6 => m_gR (some a0) 5 2 h6 fun o7 => m_gI (some a0) 5 3 h6 fun v8 => m_sZ o7 v8 (0 : Int32) h6 fun h9 => m_rt h9 none
theorem k_X5_clear (d : Nat) (hd : 0 ≤ d) (a0 : Nat × Nat) (h : am_H) : am_Con m_X5_clear d [.inr (.inr (some a0))] h (f_X5_clear a0 h) := am_con (by decide +kernel) (Nat.le_of_ble_eq_true rfl) (by
  unfold f_X5_clear
  refine sim_aload_n dX5_clear_0 rfl ?_
  refine sim_gR 5 0 dX5_clear_1 rfl wf_RX5_9 (Nat.le_of_ble_eq_true rfl) rfl (fun o1 => ?_)
  refine sim_aload_n dX5_clear_4 rfl ?_
  refine sim_gI 5 3 dX5_clear_5 rfl wf_RX5_22 (Nat.le_of_ble_eq_true rfl) rfl (fun v2 => ?_)
  refine sim_iconst (0) dX5_clear_8 (by decide +kernel) ?_
  refine sim_sI dX5_clear_9 (fun h3 => ?_)
  refine sim_aload_n dX5_clear_10 rfl ?_
  refine sim_gR 5 1 dX5_clear_11 rfl wf_RX5_15 (Nat.le_of_ble_eq_true rfl) rfl (fun o4 => ?_)
  refine sim_aload_n dX5_clear_14 rfl ?_
  refine sim_gI 5 3 dX5_clear_15 rfl wf_RX5_22 (Nat.le_of_ble_eq_true rfl) rfl (fun v5 => ?_)
  refine sim_iconst (-1) dX5_clear_18 (by decide +kernel) ?_
  refine sim_sI dX5_clear_19 (fun h6 => ?_)
  refine sim_aload_n dX5_clear_20 rfl ?_
  refine sim_gR 5 2 dX5_clear_21 rfl wf_RX5_18 (Nat.le_of_ble_eq_true rfl) rfl (fun o7 => ?_)
  refine sim_aload_n dX5_clear_24 rfl ?_
  refine sim_gI 5 3 dX5_clear_25 rfl wf_RX5_22 (Nat.le_of_ble_eq_true rfl) rfl (fun v8 => ?_)
  refine sim_iconst (0) dX5_clear_28 (by decide +kernel) ?_
  refine sim_sZ dX5_clear_29 (fun h9 => ?_)
  exact sim_vret dX5_clear_30 rfl)
theorem q_X5_clear : am_Cal m_X5_clear 0 2 := ⟨am_mem 732 (w := Cond.code yX5_clear cX5_clear 1 none) (by decide +kernel) rfl, am_mem 34 (w := Cond.initialized RX5) (by decide +kernel) rfl, fun z => absurd z (by decide), fun _ => am_mem 731 (w := Cond.instanceMethod yX5_clear) (by decide +kernel) rfl, fun z => absurd z (by decide), fun _ => am_mem 14 (w := Cond.selects RX5 yX5_clear yX5_clear) (by decide +kernel) rfl, by decide +kernel, by decide +kernel, Nat.le_of_ble_eq_true rfl⟩
