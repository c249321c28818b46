abbrev m_X10_make : am_M := (yX10_make, cX10_make, 3, some .int, [])
def f_X10_make (a0 : Nat × Nat) (x1 : Int32) (h : am_H) : am_R := m_ao (some a0) 10 fun a3 => m_bV (f_X10_checkTag a3 x1 h) fun h1 => m_gR (some a0) 10 7 h1 fun o4 => m_ao o4 7 fun a7 => m_bI (f_X7_kindOf a7 x1 h1) fun h5 v6 => if v6 = (1 : Int32) then (m_ex h5 2) else (m_gR (some a0) 10 7 h5 fun o8 => m_ao o8 7 fun a11 => m_bV (f_X7_makeMain a11 x1 h5) fun h9 => m_ao (some a0) 10 fun a14 => m_bV (f_X10_letTaggedWorksWait a14 h9) fun h12 => m_ri h12 v6)
theorem k_X10_make (d : Nat) (hd : 7 ≤ d) (a0 : Nat × Nat) (x1 : Int32) (h : am_H) : am_Con m_X10_make d [.inr (.inr (some a0)), .inl x1] h (f_X10_make a0 x1 h) := am_con (by decide +kernel) (Nat.le_of_ble_eq_true rfl) (by
  unfold f_X10_make
  refine sim_aload_n dX10_make_0 rfl ?_
  refine sim_iload_n dX10_make_1 rfl ?_
  refine sim_ao1 (fun a3 e => ?_)
  refine sim_virt (d - 1) e dX10_make_2 (k_X10_checkTag (d - 1) (by omega) _ _ _) q_X10_checkTag rfl rfl wm_RX10_189 rfl rfl (by omega) (Nat.le_of_ble_eq_true rfl) am_nV (am_rV fun h1 => ?_) am_eV
  refine sim_aload_n dX10_make_5 rfl ?_
  refine sim_gR 10 7 dX10_make_6 rfl wf_RX10_34 (Nat.le_of_ble_eq_true rfl) rfl (fun o4 => ?_)
  refine sim_iload_n dX10_make_9 rfl ?_
  refine sim_ao1 (fun a7 e => ?_)
  refine sim_virt (d - 1) e dX10_make_10 (k_X7_kindOf (d - 1) (by omega) _ _ _) q_X7_kindOf rfl rfl wm_RX10_192 rfl rfl (by omega) (Nat.le_of_ble_eq_true rfl) am_nI (am_rI fun h5 v6 => ?_) am_eI
  refine sim_istore_n dX10_make_13 (Nat.le_of_ble_eq_true rfl) ?_
  refine sim_iload_n dX10_make_14 rfl ?_
  refine sim_iconst (1) dX10_make_15 (by decide +kernel) ?_
  refine sim_ic_ne 29 dX10_make_16 (by decide) (fun c => ?_) (fun c => ?_)
  · refine sim_aload_n dX10_make_29 rfl ?_
    refine sim_gR 10 7 dX10_make_30 rfl wf_RX10_34 (Nat.le_of_ble_eq_true rfl) rfl (fun o8 => ?_)
    refine sim_iload_n dX10_make_33 rfl ?_
    refine sim_ao1 (fun a11 e => ?_)
    refine sim_virt (d - 1) e dX10_make_34 (k_X7_makeMain (d - 1) (by omega) _ _ _) q_X7_makeMain rfl rfl wm_RX10_197 rfl rfl (by omega) (Nat.le_of_ble_eq_true rfl) am_nV (am_rV fun h9 => ?_) am_eV
    refine sim_aload_n dX10_make_37 rfl ?_
    refine sim_ao0 (fun a14 e => ?_)
    refine sim_virt (d - 1) e dX10_make_38 (k_X10_letTaggedWorksWait (d - 1) (by omega) _  _) q_X10_letTaggedWorksWait rfl rfl wm_RX10_200 rfl rfl (by omega) (Nat.le_of_ble_eq_true rfl) am_nV (am_rV fun h12 => ?_) am_eV
    refine sim_iload_n dX10_make_41 rfl ?_
    exact sim_iret dX10_make_42 rfl
  · exact sim_throw 2 (by decide) dX10_make_19 dX10_make_22 dX10_make_23 dX10_make_25 dX10_make_28 wx_RX10_77 wy_2 ws_RX10_195 at_RX10_81 gd_RX10_81 (by omega) (Nat.le_of_ble_eq_true rfl))
theorem q_X10_make : am_Cal m_X10_make 1 2 := ⟨am_mem 551 (w := Cond.code yX10_make cX10_make 3 (some .int)) (by decide +kernel) rfl, am_mem 30 (w := Cond.initialized RX10) (by decide +kernel) rfl, fun z => absurd z (by decide), fun _ => am_mem 549 (w := Cond.instanceMethod yX10_make) (by decide +kernel) rfl, fun z => absurd z (by decide), fun _ => am_mem 550 (w := Cond.selects RX10 yX10_make yX10_make) (by decide +kernel) rfl, by decide +kernel, by decide +kernel, Nat.le_of_ble_eq_true rfl⟩
abbrev m_X7_isAbove : am_M := (yX7_isAbove, cX7_isAbove, 3, some .boolean, [])
def f_X7_isAbove (a0 : Nat × Nat) (x1 : Int32) (x2 : Int32) (h : am_H) : am_R := m_gR (some a0) 7 3 h fun o1 => m_aI o1 0 x2 h fun v2 => m_bJ (f_X10_has v2 x1 h) fun h3 v4 => m_rz h3 v4
theorem k_X7_isAbove (d : Nat) (hd : 1 ≤ d) (a0 : Nat × Nat) (x1 : Int32) (x2 : Int32) (h : am_H) : am_Con m_X7_isAbove d [.inr (.inr (some a0)), .inl x1, .inl x2] h (f_X7_isAbove a0 x1 x2 h) := am_con (by decide +kernel) (Nat.le_of_ble_eq_true rfl) (by
  unfold f_X7_isAbove
  refine sim_aload_n dX7_isAbove_0 rfl ?_
  refine sim_gR 7 3 dX7_isAbove_1 rfl wf_RX7_18 (Nat.le_of_ble_eq_true rfl) rfl (fun o1 => ?_)
  refine sim_iload_n dX7_isAbove_4 rfl ?_
  refine sim_aI dX7_isAbove_5 (fun v2 => ?_)
  refine sim_iload_n dX7_isAbove_6 rfl ?_
  refine sim_staticN (d - 1) dX7_isAbove_7 (k_X10_has (d - 1) (by omega) _ _ _) q_X10_has wn_RX7_25 rfl rfl (by omega) (Nat.le_of_ble_eq_true rfl) am_nJ am_xJ (am_rJ fun h3 v4 => ?_)
  exact sim_zret dX7_isAbove_10 rfl)
theorem q_X7_isAbove : am_Cal m_X7_isAbove 2 2 := ⟨am_mem 577 (w := Cond.code yX7_isAbove cX7_isAbove 3 (some .boolean)) (by decide +kernel) rfl, am_mem 31 (w := Cond.initialized RX7) (by decide +kernel) rfl, fun z => absurd z (by decide), fun _ => am_mem 575 (w := Cond.instanceMethod yX7_isAbove) (by decide +kernel) rfl, fun z => absurd z (by decide), fun _ => am_mem 576 (w := Cond.selects RX7 yX7_isAbove yX7_isAbove) (by decide +kernel) rfl, by decide +kernel, by decide +kernel, Nat.le_of_ble_eq_true rfl⟩
abbrev m_X7_findAbove : am_M := (yX7_findAbove, cX7_findAbove, 3, none, [])
def f_X7_findAbove_63 (rc17 : Nat × Nat → Int32 → am_H → am_R) (rc27 : Nat × Nat → Int32 → Int32 → am_H → am_R) (a0 : Nat × Nat) (x1 : Int32) (x2 : Int32) (h : am_H) : am_R := rc27 a0 x1 (x2 + 1) h
theorem t_X7_findAbove_63 (d : Nat) (hd : 2 ≤ d) (rc17 : Nat × Nat → Int32 → am_H → am_R) (hrc17 : ∀ a0 x1 h, Sim m_X7_findAbove d 17 [some (.inr (.inr (some a0))), some (.inl x1), none] [] h (rc17 a0 x1 h)) (rc27 : Nat × Nat → Int32 → Int32 → am_H → am_R) (hrc27 : ∀ a0 x1 x2 h, Sim m_X7_findAbove d 27 [some (.inr (.inr (some a0))), some (.inl x1), some (.inl x2)] [] h (rc27 a0 x1 x2 h)) (a0 : Nat × Nat) (x1 : Int32) (x2 : Int32) (h : am_H) : Sim m_X7_findAbove d 63 [some (.inr (.inr (some a0))), some (.inl x1), some (.inl x2)] [] h (f_X7_findAbove_63 rc17 rc27 a0 x1 x2 h) := by
  unfold f_X7_findAbove_63
  refine sim_iinc (1) dX7_findAbove_63 rfl (by decide +kernel) (Nat.le_of_ble_eq_true rfl) ?_
  refine sim_goto 27 dX7_findAbove_66 (by decide) ?_
  exact sim_lv (am_leS (am_leS (am_leS am_leT))) (hrc27 _ _ _ _)
def f_X7_findAbove_27 (rc17 : Nat × Nat → Int32 → am_H → am_R) : Nat → Nat × Nat → Int32 → Int32 → am_H → am_R
  | 0, _, _, _, _ => none
  | n + 1, a0, x1, x2, h => m_gI (some a0) 7 0 h fun v5 => if v5 ≤ x2 then (rc17 a0 (x1 + 1) h) else (m_gR (some a0) 7 3 h fun o6 => m_aI o6 0 x2 h fun v7 => m_bJ (f_X10_has v7 x1 h) fun h8 v9 => if v9 = 0 then (f_X7_findAbove_63 rc17 (f_X7_findAbove_27 rc17 n) a0 x1 x2 h8) else (m_gR (some a0) 7 3 h8 fun o10 => m_aI o10 0 x2 h8 fun v11 => m_gR (some a0) 7 3 h8 fun o12 => m_aI o12 0 x1 h8 fun v13 => m_sI o10 x2 (v11 ||| v13) h8 fun h14 => f_X7_findAbove_63 rc17 (f_X7_findAbove_27 rc17 n) a0 x1 x2 h14))
theorem t_X7_findAbove_27 (d : Nat) (hd : 2 ≤ d) (rc17 : Nat × Nat → Int32 → am_H → am_R) (hrc17 : ∀ a0 x1 h, Sim m_X7_findAbove d 17 [some (.inr (.inr (some a0))), some (.inl x1), none] [] h (rc17 a0 x1 h)) : ∀ (n : Nat) (a0 : Nat × Nat) (x1 : Int32) (x2 : Int32) (h : am_H), Sim m_X7_findAbove d 27 [some (.inr (.inr (some a0))), some (.inl x1), some (.inl x2)] [] h (f_X7_findAbove_27 rc17 n a0 x1 x2 h) := by
  intro n
  induction n with
  | zero => intros; exact sim_none
  | succ n hrc27 =>
    intro a0 x1 x2 h
    rw [f_X7_findAbove_27]
    refine sim_iload_n dX7_findAbove_27 rfl ?_
    refine sim_aload_n dX7_findAbove_28 rfl ?_
    refine sim_gI 7 0 dX7_findAbove_29 rfl wf_RX7_21 (Nat.le_of_ble_eq_true rfl) rfl (fun v5 => ?_)
    refine sim_ic_ge 69 dX7_findAbove_32 (by decide) (fun c => ?_) (fun c => ?_)
    · refine sim_iinc (1) dX7_findAbove_69 rfl (by decide +kernel) (Nat.le_of_ble_eq_true rfl) ?_
      refine sim_goto 17 dX7_findAbove_72 (by decide) ?_
      exact sim_lv (am_leS (am_leS (am_leN am_leT))) (hrc17 _ _ _)
    · refine sim_aload_n dX7_findAbove_35 rfl ?_
      refine sim_gR 7 3 dX7_findAbove_36 rfl wf_RX7_18 (Nat.le_of_ble_eq_true rfl) rfl (fun o6 => ?_)
      refine sim_iload_n dX7_findAbove_39 rfl ?_
      refine sim_aI dX7_findAbove_40 (fun v7 => ?_)
      refine sim_iload_n dX7_findAbove_41 rfl ?_
      refine sim_staticN (d - 1) dX7_findAbove_42 (k_X10_has (d - 1) (by omega) _ _ _) q_X10_has wn_RX7_25 rfl rfl (by omega) (Nat.le_of_ble_eq_true rfl) am_nJ am_xJ (am_rJ fun h8 v9 => ?_)
      refine sim_if_eq 63 dX7_findAbove_45 (by decide) (fun c => ?_) (fun c => ?_)
      · exact sim_lv (am_leS (am_leS (am_leS am_leT))) (t_X7_findAbove_63 d (by omega) _ hrc17 _ hrc27 _ _ _ _)
      · refine sim_aload_n dX7_findAbove_48 rfl ?_
        refine sim_gR 7 3 dX7_findAbove_49 rfl wf_RX7_18 (Nat.le_of_ble_eq_true rfl) rfl (fun o10 => ?_)
        refine sim_iload_n dX7_findAbove_52 rfl ?_
        refine sim_dup2 dX7_findAbove_53 ?_
        refine sim_aI dX7_findAbove_54 (fun v11 => ?_)
        refine sim_aload_n dX7_findAbove_55 rfl ?_
        refine sim_gR 7 3 dX7_findAbove_56 rfl wf_RX7_18 (Nat.le_of_ble_eq_true rfl) rfl (fun o12 => ?_)
        refine sim_iload_n dX7_findAbove_59 rfl ?_
        refine sim_aI dX7_findAbove_60 (fun v13 => ?_)
        refine sim_ior dX7_findAbove_61 ?_
        refine sim_sI dX7_findAbove_62 (fun h14 => ?_)
        exact sim_lv (am_leS (am_leS (am_leS am_leT))) (t_X7_findAbove_63 d (by omega) _ hrc17 _ hrc27 _ _ _ _)
def f_X7_findAbove_17  : Nat → Nat × Nat → Int32 → am_H → am_R
  | 0, _, _, _ => none
  | n + 1, a0, x1, h => m_gI (some a0) 7 0 h fun v4 => if v4 ≤ x1 then (m_rt h none) else (f_X7_findAbove_27 (f_X7_findAbove_17  n) 5000 a0 x1 (0 : Int32) h)
theorem t_X7_findAbove_17 (d : Nat) (hd : 2 ≤ d)  : ∀ (n : Nat) (a0 : Nat × Nat) (x1 : Int32) (h : am_H), Sim m_X7_findAbove d 17 [some (.inr (.inr (some a0))), some (.inl x1), none] [] h (f_X7_findAbove_17  n a0 x1 h) := by
  intro n
  induction n with
  | zero => intros; exact sim_none
  | succ n hrc17 =>
    intro a0 x1 h
    rw [f_X7_findAbove_17]
    refine sim_iload_n dX7_findAbove_17 rfl ?_
    refine sim_aload_n dX7_findAbove_18 rfl ?_
    refine sim_gI 7 0 dX7_findAbove_19 rfl wf_RX7_21 (Nat.le_of_ble_eq_true rfl) rfl (fun v4 => ?_)
    refine sim_ic_ge 75 dX7_findAbove_22 (by decide) (fun c => ?_) (fun c => ?_)
    · exact sim_vret dX7_findAbove_75 rfl
    · refine sim_iconst (0) dX7_findAbove_25 (by decide +kernel) ?_
      refine sim_istore_n dX7_findAbove_26 (Nat.le_of_ble_eq_true rfl) ?_
      exact sim_lv (am_leS (am_leS (am_leS am_leT))) (t_X7_findAbove_27 d (by omega) _ hrc17 _ _ _ _ _)
def f_X7_findAbove (a0 : Nat × Nat) (h : am_H) : am_R := m_gR (some a0) 7 2 h fun o1 => m_gR (some a0) 7 3 h fun o2 => m_cpy o1 (0 : Int32) o2 (0 : Int32) (30 : Int32) h fun h3 => f_X7_findAbove_17 5000 a0 (0 : Int32) h3
theorem k_X7_findAbove (d : Nat) (hd : 2 ≤ d) (a0 : Nat × Nat) (h : am_H) : am_Con m_X7_findAbove d [.inr (.inr (some a0))] h (f_X7_findAbove a0 h) := am_con (by decide +kernel) (Nat.le_of_ble_eq_true rfl) (by
  unfold f_X7_findAbove
  refine sim_aload_n dX7_findAbove_0 rfl ?_
  refine sim_gR 7 2 dX7_findAbove_1 rfl wf_RX7_15 (Nat.le_of_ble_eq_true rfl) rfl (fun o1 => ?_)
  refine sim_iconst (0) dX7_findAbove_4 (by decide +kernel) ?_
  refine sim_aload_n dX7_findAbove_5 rfl ?_
  refine sim_gR 7 3 dX7_findAbove_6 rfl wf_RX7_18 (Nat.le_of_ble_eq_true rfl) rfl (fun o2 => ?_)
  refine sim_iconst (0) dX7_findAbove_9 (by decide +kernel) ?_
  refine sim_bipush (30) dX7_findAbove_10 (by decide +kernel) ?_
  refine sim_cpy dX7_findAbove_12 wm_RX7_36 wcp_n wcp_s wz_RJ10 (by omega) (Nat.le_of_ble_eq_true rfl) (fun h3 => ?_)
  refine sim_iconst (0) dX7_findAbove_15 (by decide +kernel) ?_
  refine sim_istore_n dX7_findAbove_16 (Nat.le_of_ble_eq_true rfl) ?_
  exact sim_lv (am_leS (am_leS (am_leN am_leT))) (t_X7_findAbove_17 d (by omega) _ _ _ _))
theorem q_X7_findAbove : am_Cal m_X7_findAbove 0 2 := ⟨am_mem 588 (w := Cond.code yX7_findAbove cX7_findAbove 3 none) (by decide +kernel) rfl, am_mem 31 (w := Cond.initialized RX7) (by decide +kernel) rfl, fun z => absurd z (by decide), fun _ => am_mem 587 (w := Cond.instanceMethod yX7_findAbove) (by decide +kernel) rfl, fun z => absurd z (by decide), fun _ => am_mem 5 (w := Cond.selects RX7 yX7_findAbove yX7_findAbove) (by decide +kernel) rfl, by decide +kernel, by decide +kernel, Nat.le_of_ble_eq_true rfl⟩
abbrev m_X7_makeAlias : am_M := (yX7_makeAlias, cX7_makeAlias, 4, none, [])
def f_X7_makeAlias_62 (rc2 : Nat × Nat → Int32 → Int32 → Int32 → am_H → am_R) (a0 : Nat × Nat) (x1 : Int32) (x2 : Int32) (x3 : Int32) (h : am_H) : am_R := rc2 a0 x1 x2 (x3 + 1) h
theorem t_X7_makeAlias_62 (d : Nat) (hd : 3 ≤ d) (rc2 : Nat × Nat → Int32 → Int32 → Int32 → am_H → am_R) (hrc2 : ∀ a0 x1 x2 x3 h, Sim m_X7_makeAlias d 2 [some (.inr (.inr (some a0))), some (.inl x1), some (.inl x2), some (.inl x3)] [] h (rc2 a0 x1 x2 x3 h)) (a0 : Nat × Nat) (x1 : Int32) (x2 : Int32) (x3 : Int32) (h : am_H) : Sim m_X7_makeAlias d 62 [some (.inr (.inr (some a0))), some (.inl x1), some (.inl x2), some (.inl x3)] [] h (f_X7_makeAlias_62 rc2 a0 x1 x2 x3 h) := by
  unfold f_X7_makeAlias_62
  refine sim_iinc (1) dX7_makeAlias_62 rfl (by decide +kernel) (Nat.le_of_ble_eq_true rfl) ?_
  refine sim_goto 2 dX7_makeAlias_65 (by decide) ?_
  exact sim_lv (am_leS (am_leS (am_leS (am_leS am_leT)))) (hrc2 _ _ _ _ _)
def f_X7_makeAlias_27 (rc2 : Nat × Nat → Int32 → Int32 → Int32 → am_H → am_R) (a0 : Nat × Nat) (x1 : Int32) (x2 : Int32) (x3 : Int32) (h : am_H) : am_R := m_gR (some a0) 7 2 h fun o13 => m_aI o13 0 x3 h fun v14 => m_bJ (f_X10_has v14 x1 h) fun h15 v16 => if v16 = 0 then (f_X7_makeAlias_62 rc2 a0 x1 x2 x3 h15) else (m_gR (some a0) 7 2 h15 fun o17 => m_gR (some a0) 7 2 h15 fun o18 => m_aI o18 0 x3 h15 fun v19 => m_bJ (f_X10_with v19 x1 (0 : Int32) h15) fun h20 v21 => m_bJ (f_X10_with v21 x2 (1 : Int32) h20) fun h22 v23 => m_sI o17 x3 v23 h22 fun h24 => f_X7_makeAlias_62 rc2 a0 x1 x2 x3 h24)
theorem t_X7_makeAlias_27 (d : Nat) (hd : 3 ≤ d) (rc2 : Nat × Nat → Int32 → Int32 → Int32 → am_H → am_R) (hrc2 : ∀ a0 x1 x2 x3 h, Sim m_X7_makeAlias d 2 [some (.inr (.inr (some a0))), some (.inl x1), some (.inl x2), some (.inl x3)] [] h (rc2 a0 x1 x2 x3 h)) (a0 : Nat × Nat) (x1 : Int32) (x2 : Int32) (x3 : Int32) (h : am_H) : Sim m_X7_makeAlias d 27 [some (.inr (.inr (some a0))), some (.inl x1), some (.inl x2), some (.inl x3)] [] h (f_X7_makeAlias_27 rc2 a0 x1 x2 x3 h) := by
  unfold f_X7_makeAlias_27
  refine sim_aload_n dX7_makeAlias_27 rfl ?_
  refine sim_gR 7 2 dX7_makeAlias_28 rfl wf_RX7_15 (Nat.le_of_ble_eq_true rfl) rfl (fun o13 => ?_)
  refine sim_iload_n dX7_makeAlias_31 rfl ?_
  refine sim_aI dX7_makeAlias_32 (fun v14 => ?_)
  refine sim_iload_n dX7_makeAlias_33 rfl ?_
  refine sim_staticN (d - 1) dX7_makeAlias_34 (k_X10_has (d - 1) (by omega) _ _ _) q_X10_has wn_RX7_25 rfl rfl (by omega) (Nat.le_of_ble_eq_true rfl) am_nJ am_xJ (am_rJ fun h15 v16 => ?_)
  refine sim_if_eq 62 dX7_makeAlias_37 (by decide) (fun c => ?_) (fun c => ?_)
  · exact sim_lv (am_leS (am_leS (am_leS (am_leS am_leT)))) (t_X7_makeAlias_62 d (by omega) _ hrc2 _ _ _ _ _)
  · refine sim_aload_n dX7_makeAlias_40 rfl ?_
    refine sim_gR 7 2 dX7_makeAlias_41 rfl wf_RX7_15 (Nat.le_of_ble_eq_true rfl) rfl (fun o17 => ?_)
    refine sim_iload_n dX7_makeAlias_44 rfl ?_
    refine sim_aload_n dX7_makeAlias_45 rfl ?_
    refine sim_gR 7 2 dX7_makeAlias_46 rfl wf_RX7_15 (Nat.le_of_ble_eq_true rfl) rfl (fun o18 => ?_)
    refine sim_iload_n dX7_makeAlias_49 rfl ?_
    refine sim_aI dX7_makeAlias_50 (fun v19 => ?_)
    refine sim_iload_n dX7_makeAlias_51 rfl ?_
    refine sim_iconst (0) dX7_makeAlias_52 (by decide +kernel) ?_
    refine sim_staticN (d - 1) dX7_makeAlias_53 (k_X10_with (d - 1) (by omega) _ _ _ _) q_X10_with wn_RX7_29 rfl rfl (by omega) (Nat.le_of_ble_eq_true rfl) am_nJ am_xJ (am_rJ fun h20 v21 => ?_)
    refine sim_iload_n dX7_makeAlias_56 rfl ?_
    refine sim_iconst (1) dX7_makeAlias_57 (by decide +kernel) ?_
    refine sim_staticN (d - 1) dX7_makeAlias_58 (k_X10_with (d - 1) (by omega) _ _ _ _) q_X10_with wn_RX7_29 rfl rfl (by omega) (Nat.le_of_ble_eq_true rfl) am_nJ am_xJ (am_rJ fun h22 v23 => ?_)
    refine sim_sI dX7_makeAlias_61 (fun h24 => ?_)
    exact sim_lv (am_leS (am_leS (am_leS (am_leS am_leT)))) (t_X7_makeAlias_62 d (by omega) _ hrc2 _ _ _ _ _)
def f_X7_makeAlias_2  : Nat → Nat × Nat → Int32 → Int32 → Int32 → am_H → am_R
  | 0, _, _, _, _, _ => none
  | n + 1, a0, x1, x2, x3, h => m_gI (some a0) 7 0 h fun v1 => if v1 ≤ x3 then (m_gR (some a0) 7 1 h fun o2 => m_sI o2 x1 x2 h fun h3 => m_gR (some a0) 7 2 h3 fun o4 => m_sI o4 x1 (0 : Int32) h3 fun h5 => m_ao (some a0) 7 fun a8 => m_bV (f_X7_findAbove a8 h5) fun h6 => m_rt h6 none) else (m_gR (some a0) 7 1 h fun o9 => m_aI o9 0 x3 h fun v10 => if v10 = x1 then (m_gR (some a0) 7 1 h fun o11 => m_sI o11 x3 x2 h fun h12 => f_X7_makeAlias_27 (f_X7_makeAlias_2  n) a0 x1 x2 x3 h12) else (f_X7_makeAlias_27 (f_X7_makeAlias_2  n) a0 x1 x2 x3 h))
theorem t_X7_makeAlias_2 (d : Nat) (hd : 3 ≤ d)  : ∀ (n : Nat) (a0 : Nat × Nat) (x1 : Int32) (x2 : Int32) (x3 : Int32) (h : am_H), Sim m_X7_makeAlias d 2 [some (.inr (.inr (some a0))), some (.inl x1), some (.inl x2), some (.inl x3)] [] h (f_X7_makeAlias_2  n a0 x1 x2 x3 h) := by
  intro n
  induction n with
  | zero => intros; exact sim_none
  | succ n hrc2 =>
    intro a0 x1 x2 x3 h
    rw [f_X7_makeAlias_2]
    refine sim_iload_n dX7_makeAlias_2 rfl ?_
    refine sim_aload_n dX7_makeAlias_3 rfl ?_
    refine sim_gI 7 0 dX7_makeAlias_4 rfl wf_RX7_21 (Nat.le_of_ble_eq_true rfl) rfl (fun v1 => ?_)
    refine sim_ic_ge 68 dX7_makeAlias_7 (by decide) (fun c => ?_) (fun c => ?_)
    · refine sim_aload_n dX7_makeAlias_68 rfl ?_
      refine sim_gR 7 1 dX7_makeAlias_69 rfl wf_RX7_9 (Nat.le_of_ble_eq_true rfl) rfl (fun o2 => ?_)
      refine sim_iload_n dX7_makeAlias_72 rfl ?_
      refine sim_iload_n dX7_makeAlias_73 rfl ?_
      refine sim_sI dX7_makeAlias_74 (fun h3 => ?_)
      refine sim_aload_n dX7_makeAlias_75 rfl ?_
      refine sim_gR 7 2 dX7_makeAlias_76 rfl wf_RX7_15 (Nat.le_of_ble_eq_true rfl) rfl (fun o4 => ?_)
      refine sim_iload_n dX7_makeAlias_79 rfl ?_
      refine sim_iconst (0) dX7_makeAlias_80 (by decide +kernel) ?_
      refine sim_sI dX7_makeAlias_81 (fun h5 => ?_)
      refine sim_aload_n dX7_makeAlias_82 rfl ?_
      refine sim_ao0 (fun a8 e => ?_)
      refine sim_virt (d - 1) e dX7_makeAlias_83 (k_X7_findAbove (d - 1) (by omega) _  _) q_X7_findAbove rfl rfl wm_RX7_33 rfl rfl (by omega) (Nat.le_of_ble_eq_true rfl) am_nV (am_rV fun h6 => ?_) am_eV
      exact sim_vret dX7_makeAlias_86 rfl
    · refine sim_aload_n dX7_makeAlias_10 rfl ?_
      refine sim_gR 7 1 dX7_makeAlias_11 rfl wf_RX7_9 (Nat.le_of_ble_eq_true rfl) rfl (fun o9 => ?_)
      refine sim_iload_n dX7_makeAlias_14 rfl ?_
      refine sim_aI dX7_makeAlias_15 (fun v10 => ?_)
      refine sim_iload_n dX7_makeAlias_16 rfl ?_
      refine sim_ic_ne 27 dX7_makeAlias_17 (by decide) (fun c => ?_) (fun c => ?_)
      · exact sim_lv (am_leS (am_leS (am_leS (am_leS am_leT)))) (t_X7_makeAlias_27 d (by omega) _ hrc2 _ _ _ _ _)
      · refine sim_aload_n dX7_makeAlias_20 rfl ?_
        refine sim_gR 7 1 dX7_makeAlias_21 rfl wf_RX7_9 (Nat.le_of_ble_eq_true rfl) rfl (fun o11 => ?_)
        refine sim_iload_n dX7_makeAlias_24 rfl ?_
        refine sim_iload_n dX7_makeAlias_25 rfl ?_
        refine sim_sI dX7_makeAlias_26 (fun h12 => ?_)
        exact sim_lv (am_leS (am_leS (am_leS (am_leS am_leT)))) (t_X7_makeAlias_27 d (by omega) _ hrc2 _ _ _ _ _)
def f_X7_makeAlias (a0 : Nat × Nat) (x1 : Int32) (x2 : Int32) (h : am_H) : am_R := f_X7_makeAlias_2 5000 a0 x1 x2 (0 : Int32) h
theorem k_X7_makeAlias (d : Nat) (hd : 3 ≤ d) (a0 : Nat × Nat) (x1 : Int32) (x2 : Int32) (h : am_H) : am_Con m_X7_makeAlias d [.inr (.inr (some a0)), .inl x1, .inl x2] h (f_X7_makeAlias a0 x1 x2 h) := am_con (by decide +kernel) (Nat.le_of_ble_eq_true rfl) (by
  unfold f_X7_makeAlias
  refine sim_iconst (0) dX7_makeAlias_0 (by decide +kernel) ?_
  refine sim_istore_n dX7_makeAlias_1 (Nat.le_of_ble_eq_true rfl) ?_
  exact sim_lv (am_leS (am_leS (am_leS (am_leS am_leT)))) (t_X7_makeAlias_2 d (by omega) _ _ _ _ _ _))
theorem q_X7_makeAlias : am_Cal m_X7_makeAlias 2 2 := ⟨am_mem 583 (w := Cond.code yX7_makeAlias cX7_makeAlias 4 none) (by decide +kernel) rfl, am_mem 31 (w := Cond.initialized RX7) (by decide +kernel) rfl, fun z => absurd z (by decide), fun _ => am_mem 581 (w := Cond.instanceMethod yX7_makeAlias) (by decide +kernel) rfl, fun z => absurd z (by decide), fun _ => am_mem 582 (w := Cond.selects RX7 yX7_makeAlias yX7_makeAlias) (by decide +kernel) rfl, by decide +kernel, by decide +kernel, Nat.le_of_ble_eq_true rfl⟩
abbrev m_X10_merge : am_M := (yX10_merge, cX10_merge, 4, some .int, [])
def f_X10_merge_70   (h : am_H) : am_R := m_ex h 2
theorem t_X10_merge_70 (d : Nat) (hd : 7 ≤ d)   (h : am_H) : Sim m_X10_merge d 70 [none, none, none, none] [] h (f_X10_merge_70   h) := by
  unfold f_X10_merge_70
  exact sim_throw 2 (by decide) dX10_merge_70 dX10_merge_73 dX10_merge_74 dX10_merge_76 dX10_merge_79 wx_RX10_77 wy_2 ws_RX10_206 at_RX10_81 gd_RX10_81 (by omega) (Nat.le_of_ble_eq_true rfl)
def f_X10_merge (a0 : Nat × Nat) (x1 : Int32) (x2 : Int32) (h : am_H) : am_R := m_ao (some a0) 10 fun a3 => m_bV (f_X10_checkTag a3 x1 h) fun h1 => m_ao (some a0) 10 fun a6 => m_bV (f_X10_checkTag a6 x2 h1) fun h4 => if x1 = x2 then (m_ex h4 1) else (m_gR (some a0) 10 7 h4 fun o7 => m_ao o7 7 fun a10 => m_bI (f_X7_kindOf a10 x1 h4) fun h8 v9 => m_gR (some a0) 10 7 h8 fun o11 => m_ao o11 7 fun a14 => m_bI (f_X7_kindOf a14 x2 h8) fun h12 v13 => if v13 = (1 : Int32) then (m_gR (some a0) 10 7 h12 fun o15 => m_ao o15 7 fun a18 => m_bI (f_X7_isAbove a18 x1 x2 h12) fun h16 v17 => if v17 = 0 then (m_gR (some a0) 10 7 h16 fun o19 => m_ao o19 7 fun a22 => m_bI (f_X7_isAbove a22 x2 x1 h16) fun h20 v21 => if v21 = 0 then (m_gR (some a0) 10 7 h20 fun o23 => m_ao o23 7 fun a26 => m_bV (f_X7_makeAlias a26 x1 x2 h20) fun h24 => m_ao (some a0) 10 fun a29 => m_bV (f_X10_letTaggedWorksWait a29 h24) fun h27 => m_ri h27 v9) else (f_X10_merge_70 h20)) else (f_X10_merge_70 h16)) else (f_X10_merge_70 h12))
theorem k_X10_merge (d : Nat) (hd : 7 ≤ d) (a0 : Nat × Nat) (x1 : Int32) (x2 : Int32) (h : am_H) : am_Con m_X10_merge d [.inr (.inr (some a0)), .inl x1, .inl x2] h (f_X10_merge a0 x1 x2 h) := am_con (by decide +kernel) (Nat.le_of_ble_eq_true rfl) (by
  unfold f_X10_merge
  refine sim_aload_n dX10_merge_0 rfl ?_
  refine sim_iload_n dX10_merge_1 rfl ?_
  refine sim_ao1 (fun a3 e => ?_)
  refine sim_virt (d - 1) e dX10_merge_2 (k_X10_checkTag (d - 1) (by omega) _ _ _) q_X10_checkTag rfl rfl wm_RX10_189 rfl rfl (by omega) (Nat.le_of_ble_eq_true rfl) am_nV (am_rV fun h1 => ?_) am_eV
  refine sim_aload_n dX10_merge_5 rfl ?_
  refine sim_iload_n dX10_merge_6 rfl ?_
  refine sim_ao1 (fun a6 e => ?_)
  refine sim_virt (d - 1) e dX10_merge_7 (k_X10_checkTag (d - 1) (by omega) _ _ _) q_X10_checkTag rfl rfl wm_RX10_189 rfl rfl (by omega) (Nat.le_of_ble_eq_true rfl) am_nV (am_rV fun h4 => ?_) am_eV
  refine sim_iload_n dX10_merge_10 rfl ?_
  refine sim_iload_n dX10_merge_11 rfl ?_
  refine sim_ic_ne 25 dX10_merge_12 (by decide) (fun c => ?_) (fun c => ?_)
  · refine sim_aload_n dX10_merge_25 rfl ?_
    refine sim_gR 10 7 dX10_merge_26 rfl wf_RX10_34 (Nat.le_of_ble_eq_true rfl) rfl (fun o7 => ?_)
    refine sim_iload_n dX10_merge_29 rfl ?_
    refine sim_ao1 (fun a10 e => ?_)
    refine sim_virt (d - 1) e dX10_merge_30 (k_X7_kindOf (d - 1) (by omega) _ _ _) q_X7_kindOf rfl rfl wm_RX10_192 rfl rfl (by omega) (Nat.le_of_ble_eq_true rfl) am_nI (am_rI fun h8 v9 => ?_) am_eI
    refine sim_istore_n dX10_merge_33 (Nat.le_of_ble_eq_true rfl) ?_
    refine sim_aload_n dX10_merge_34 rfl ?_
    refine sim_gR 10 7 dX10_merge_35 rfl wf_RX10_34 (Nat.le_of_ble_eq_true rfl) rfl (fun o11 => ?_)
    refine sim_iload_n dX10_merge_38 rfl ?_
    refine sim_ao1 (fun a14 e => ?_)
    refine sim_virt (d - 1) e dX10_merge_39 (k_X7_kindOf (d - 1) (by omega) _ _ _) q_X7_kindOf rfl rfl wm_RX10_192 rfl rfl (by omega) (Nat.le_of_ble_eq_true rfl) am_nI (am_rI fun h12 v13 => ?_) am_eI
    refine sim_iconst (1) dX10_merge_42 (by decide +kernel) ?_
    refine sim_ic_ne 70 dX10_merge_43 (by decide) (fun c => ?_) (fun c => ?_)
    · exact sim_lv (am_leN (am_leN (am_leN (am_leN am_leT)))) (t_X10_merge_70 d (by omega) _)
    · refine sim_aload_n dX10_merge_46 rfl ?_
      refine sim_gR 10 7 dX10_merge_47 rfl wf_RX10_34 (Nat.le_of_ble_eq_true rfl) rfl (fun o15 => ?_)
      refine sim_iload_n dX10_merge_50 rfl ?_
      refine sim_iload_n dX10_merge_51 rfl ?_
      refine sim_ao2 (fun a18 e => ?_)
      refine sim_virt (d - 1) e dX10_merge_52 (k_X7_isAbove (d - 1) (by omega) _ _ _ _) q_X7_isAbove rfl rfl wm_RX10_203 rfl rfl (by omega) (Nat.le_of_ble_eq_true rfl) am_nI (am_rI fun h16 v17 => ?_) am_eI
      refine sim_if_ne 70 dX10_merge_55 (by decide) (fun c => ?_) (fun c => ?_)
      · exact sim_lv (am_leN (am_leN (am_leN (am_leN am_leT)))) (t_X10_merge_70 d (by omega) _)
      · refine sim_aload_n dX10_merge_58 rfl ?_
        refine sim_gR 10 7 dX10_merge_59 rfl wf_RX10_34 (Nat.le_of_ble_eq_true rfl) rfl (fun o19 => ?_)
        refine sim_iload_n dX10_merge_62 rfl ?_
        refine sim_iload_n dX10_merge_63 rfl ?_
        refine sim_ao2 (fun a22 e => ?_)
        refine sim_virt (d - 1) e dX10_merge_64 (k_X7_isAbove (d - 1) (by omega) _ _ _ _) q_X7_isAbove rfl rfl wm_RX10_203 rfl rfl (by omega) (Nat.le_of_ble_eq_true rfl) am_nI (am_rI fun h20 v21 => ?_) am_eI
        refine sim_if_eq 80 dX10_merge_67 (by decide) (fun c => ?_) (fun c => ?_)
        · refine sim_aload_n dX10_merge_80 rfl ?_
          refine sim_gR 10 7 dX10_merge_81 rfl wf_RX10_34 (Nat.le_of_ble_eq_true rfl) rfl (fun o23 => ?_)
          refine sim_iload_n dX10_merge_84 rfl ?_
          refine sim_iload_n dX10_merge_85 rfl ?_
          refine sim_ao2 (fun a26 e => ?_)
          refine sim_virt (d - 1) e dX10_merge_86 (k_X7_makeAlias (d - 1) (by omega) _ _ _ _) q_X7_makeAlias rfl rfl wm_RX10_208 rfl rfl (by omega) (Nat.le_of_ble_eq_true rfl) am_nV (am_rV fun h24 => ?_) am_eV
          refine sim_aload_n dX10_merge_89 rfl ?_
          refine sim_ao0 (fun a29 e => ?_)
          refine sim_virt (d - 1) e dX10_merge_90 (k_X10_letTaggedWorksWait (d - 1) (by omega) _  _) q_X10_letTaggedWorksWait rfl rfl wm_RX10_200 rfl rfl (by omega) (Nat.le_of_ble_eq_true rfl) am_nV (am_rV fun h27 => ?_) am_eV
          refine sim_iload_n dX10_merge_93 rfl ?_
          exact sim_iret dX10_merge_94 rfl
        · exact sim_lv (am_leN (am_leN (am_leN (am_leN am_leT)))) (t_X10_merge_70 d (by omega) _)
  · exact sim_throw 1 (by decide) dX10_merge_15 dX10_merge_18 dX10_merge_19 dX10_merge_21 dX10_merge_24 wx_RX10_66 wy_1 ws_RX10_86 at_RX10_70 gd_RX10_70 (by omega) (Nat.le_of_ble_eq_true rfl))
theorem q_X10_merge : am_Cal m_X10_merge 2 2 := ⟨am_mem 573 (w := Cond.code yX10_merge cX10_merge 4 (some .int)) (by decide +kernel) rfl, am_mem 30 (w := Cond.initialized RX10) (by decide +kernel) rfl, fun z => absurd z (by decide), fun _ => am_mem 571 (w := Cond.instanceMethod yX10_merge) (by decide +kernel) rfl, fun z => absurd z (by decide), fun _ => am_mem 572 (w := Cond.selects RX10 yX10_merge yX10_merge) (by decide +kernel) rfl, by decide +kernel, by decide +kernel, Nat.le_of_ble_eq_true rfl⟩
abbrev m_X10_checkFace : am_M := (yX10_checkFace, cX10_checkFace, 1, none, [])
def f_X10_checkFace_10   (h : am_H) : am_R := m_ex h 0
theorem t_X10_checkFace_10 (d : Nat) (hd : 6 ≤ d)   (h : am_H) : Sim m_X10_checkFace d 10 [none] [] h (f_X10_checkFace_10   h) := by
  unfold f_X10_checkFace_10
  exact sim_throwW 0 (by decide) dX10_checkFace_10 dX10_checkFace_13 dX10_checkFace_14 dX10_checkFace_17 dX10_checkFace_20 wx_RX10_162 wy_0 ws_RX10_376 at_RX10_166 gd_RX10_166 (by omega) (Nat.le_of_ble_eq_true rfl)
def f_X10_checkFace (x0 : Int32) (h : am_H) : am_R := if x0 < 0 then (f_X10_checkFace_10 h) else (if x0 < (32 : Int32) then (m_rt h none) else (f_X10_checkFace_10 h))
theorem k_X10_checkFace (d : Nat) (hd : 6 ≤ d) (x0 : Int32) (h : am_H) : am_Con m_X10_checkFace d [.inl x0] h (f_X10_checkFace x0 h) := am_con (by decide +kernel) (Nat.le_of_ble_eq_true rfl) (by
  unfold f_X10_checkFace
  refine sim_iload_n dX10_checkFace_0 rfl ?_
  refine sim_if_lt 10 dX10_checkFace_1 (by decide) (fun c => ?_) (fun c => ?_)
  · exact sim_lv (am_leN am_leT) (t_X10_checkFace_10 d (by omega) _)
  · refine sim_iload_n dX10_checkFace_4 rfl ?_
    refine sim_bipush (32) dX10_checkFace_5 (by decide +kernel) ?_
    refine sim_ic_lt 21 dX10_checkFace_7 (by decide) (fun c => ?_) (fun c => ?_)
    · exact sim_vret dX10_checkFace_21 rfl
    · exact sim_lv (am_leN am_leT) (t_X10_checkFace_10 d (by omega) _))
theorem q_X10_checkFace : am_Cal m_X10_checkFace 1 0 := ⟨am_mem 450 (w := Cond.code yX10_checkFace cX10_checkFace 1 none) (by decide +kernel) rfl, am_mem 30 (w := Cond.initialized RX10) (by decide +kernel) rfl, fun _ => am_mem 449 (w := Cond.static yX10_checkFace) (by decide +kernel) rfl, fun z => absurd rfl z, fun z => absurd z (by decide), fun z => absurd z (by decide), by decide +kernel, by decide +kernel, Nat.le_of_ble_eq_true rfl⟩
abbrev m_X9_isPosted : am_M := (yX9_isPosted, cX9_isPosted, 1, some .boolean, [])
def f_X9_isPosted_13  (s0 : Int32) (h : am_H) : am_R := m_rz h s0
theorem t_X9_isPosted_13 (d : Nat) (hd : 0 ≤ d)  (s0 : Int32) (h : am_H) : Sim m_X9_isPosted d 13 [none] [.inl s0] h (f_X9_isPosted_13  s0 h) := by
  unfold f_X9_isPosted_13
  exact sim_zret dX9_isPosted_13 rfl
def f_X9_isPosted (a0 : Nat × Nat) (h : am_H) : am_R := m_gI (some a0) 9 4 h fun v1 => if v1 = (-1 : Int32) then (f_X9_isPosted_13 (0 : Int32) h) else (f_X9_isPosted_13 (1 : Int32) h)
theorem k_X9_isPosted (d : Nat) (hd : 0 ≤ d) (a0 : Nat × Nat) (h : am_H) : am_Con m_X9_isPosted d [.inr (.inr (some a0))] h (f_X9_isPosted a0 h) := am_con (by decide +kernel) (Nat.le_of_ble_eq_true rfl) (by
  unfold f_X9_isPosted
  refine sim_aload_n dX9_isPosted_0 rfl ?_
  refine sim_gI 9 4 dX9_isPosted_1 rfl wf_RX9_15 (Nat.le_of_ble_eq_true rfl) rfl (fun v1 => ?_)
  refine sim_iconst (-1) dX9_isPosted_4 (by decide +kernel) ?_
  refine sim_ic_eq 12 dX9_isPosted_5 (by decide) (fun c => ?_) (fun c => ?_)
  · refine sim_iconst (0) dX9_isPosted_12 (by decide +kernel) ?_
    exact sim_lv (am_leN am_leT) (t_X9_isPosted_13 d (by omega) _ _)
  · refine sim_iconst (1) dX9_isPosted_8 (by decide +kernel) ?_
    refine sim_goto 13 dX9_isPosted_9 (by decide) ?_
    exact sim_lv (am_leN am_leT) (t_X9_isPosted_13 d (by omega) _ _))
theorem q_X9_isPosted : am_Cal m_X9_isPosted 0 2 := ⟨am_mem 494 (w := Cond.code yX9_isPosted cX9_isPosted 1 (some .boolean)) (by decide +kernel) rfl, am_mem 44 (w := Cond.initialized RX9) (by decide +kernel) rfl, fun z => absurd z (by decide), fun _ => am_mem 492 (w := Cond.instanceMethod yX9_isPosted) (by decide +kernel) rfl, fun z => absurd z (by decide), fun _ => am_mem 493 (w := Cond.selects RX9 yX9_isPosted yX9_isPosted) (by decide +kernel) rfl, by decide +kernel, by decide +kernel, Nat.le_of_ble_eq_true rfl⟩
abbrev m_X9_isSeenBy : am_M := (yX9_isSeenBy, cX9_isSeenBy, 4, some .boolean, [])
def f_X9_isSeenBy_63  (s0 : Int32) (h : am_H) : am_R := m_rz h s0
theorem t_X9_isSeenBy_63 (d : Nat) (hd : 2 ≤ d)  (s0 : Int32) (h : am_H) : Sim m_X9_isSeenBy d 63 [none, none, none, none] [.inl s0] h (f_X9_isSeenBy_63  s0 h) := by
  unfold f_X9_isSeenBy_63
  exact sim_zret dX9_isSeenBy_63 rfl
def f_X9_isSeenBy_62   (h : am_H) : am_R := f_X9_isSeenBy_63 (0 : Int32) h
theorem t_X9_isSeenBy_62 (d : Nat) (hd : 2 ≤ d)   (h : am_H) : Sim m_X9_isSeenBy d 62 [none, none, none, none] [] h (f_X9_isSeenBy_62   h) := by
  unfold f_X9_isSeenBy_62
  refine sim_iconst (0) dX9_isSeenBy_62 (by decide +kernel) ?_
  exact sim_lv (am_leN (am_leN (am_leN (am_leN am_leT)))) (t_X9_isSeenBy_63 d (by omega) _ _)
def f_X9_isSeenBy_58   (h : am_H) : am_R := f_X9_isSeenBy_63 (1 : Int32) h
theorem t_X9_isSeenBy_58 (d : Nat) (hd : 2 ≤ d)   (h : am_H) : Sim m_X9_isSeenBy d 58 [none, none, none, none] [] h (f_X9_isSeenBy_58   h) := by
  unfold f_X9_isSeenBy_58
  refine sim_iconst (1) dX9_isSeenBy_58 (by decide +kernel) ?_
  refine sim_goto 63 dX9_isSeenBy_59 (by decide) ?_
  exact sim_lv (am_leN (am_leN (am_leN (am_leN am_leT)))) (t_X9_isSeenBy_63 d (by omega) _ _)
def f_X9_isSeenBy_33  (a0 : Nat × Nat) (x1 : Int32) (s0 : Int32) (h : am_H) : am_R := m_ao (some a0) 9 fun a9 => m_bI (f_X9_isPosted a9 h) fun h7 v8 => if v8 = 0 then (f_X9_isSeenBy_62 h7) else (if s0 = 0 then (f_X9_isSeenBy_62 h7) else (m_gI (some a0) 9 5 h7 fun v10 => if v10 = 0 then (f_X9_isSeenBy_58 h7) else (if (12 : Int32) ≤ x1 then (f_X9_isSeenBy_62 h7) else (f_X9_isSeenBy_58 h7))))
theorem t_X9_isSeenBy_33 (d : Nat) (hd : 2 ≤ d)  (a0 : Nat × Nat) (x1 : Int32) (s0 : Int32) (h : am_H) : Sim m_X9_isSeenBy d 33 [some (.inr (.inr (some a0))), some (.inl x1), none, none] [.inl s0] h (f_X9_isSeenBy_33  a0 x1 s0 h) := by
  unfold f_X9_isSeenBy_33
  refine sim_istore_n dX9_isSeenBy_33 (Nat.le_of_ble_eq_true rfl) ?_
  refine sim_aload_n dX9_isSeenBy_34 rfl ?_
  refine sim_ao0 (fun a9 e => ?_)
  refine sim_virt (d - 1) e dX9_isSeenBy_35 (k_X9_isPosted (d - 1) (by omega) _  _) q_X9_isPosted rfl rfl wm_RX9_42 rfl rfl (by omega) (Nat.le_of_ble_eq_true rfl) am_nI (am_rI fun h7 v8 => ?_) am_eI
  refine sim_if_eq 62 dX9_isSeenBy_38 (by decide) (fun c => ?_) (fun c => ?_)
  · exact sim_lv (am_leN (am_leN (am_leN (am_leN am_leT)))) (t_X9_isSeenBy_62 d (by omega) _)
  · refine sim_iload_n dX9_isSeenBy_41 rfl ?_
    refine sim_if_eq 62 dX9_isSeenBy_42 (by decide) (fun c => ?_) (fun c => ?_)
    · exact sim_lv (am_leN (am_leN (am_leN (am_leN am_leT)))) (t_X9_isSeenBy_62 d (by omega) _)
    · refine sim_aload_n dX9_isSeenBy_45 rfl ?_
      refine sim_gI 9 5 dX9_isSeenBy_46 rfl wf_RX9_46 (Nat.le_of_ble_eq_true rfl) rfl (fun v10 => ?_)
      refine sim_if_eq 58 dX9_isSeenBy_49 (by decide) (fun c => ?_) (fun c => ?_)
      · exact sim_lv (am_leN (am_leN (am_leN (am_leN am_leT)))) (t_X9_isSeenBy_58 d (by omega) _)
      · refine sim_iload_n dX9_isSeenBy_52 rfl ?_
        refine sim_bipush (12) dX9_isSeenBy_53 (by decide +kernel) ?_
        refine sim_ic_ge 62 dX9_isSeenBy_55 (by decide) (fun c => ?_) (fun c => ?_)
        · exact sim_lv (am_leN (am_leN (am_leN (am_leN am_leT)))) (t_X9_isSeenBy_62 d (by omega) _)
        · exact sim_lv (am_leN (am_leN (am_leN (am_leN am_leT)))) (t_X9_isSeenBy_58 d (by omega) _)
def f_X9_isSeenBy_28  (a0 : Nat × Nat) (x1 : Int32) (h : am_H) : am_R := f_X9_isSeenBy_33 a0 x1 (1 : Int32) h
theorem t_X9_isSeenBy_28 (d : Nat) (hd : 2 ≤ d)  (a0 : Nat × Nat) (x1 : Int32) (h : am_H) : Sim m_X9_isSeenBy d 28 [some (.inr (.inr (some a0))), some (.inl x1), none, none] [] h (f_X9_isSeenBy_28  a0 x1 h) := by
  unfold f_X9_isSeenBy_28
  refine sim_iconst (1) dX9_isSeenBy_28 (by decide +kernel) ?_
  refine sim_goto 33 dX9_isSeenBy_29 (by decide) ?_
  exact sim_lv (am_leS (am_leS (am_leN (am_leN am_leT)))) (t_X9_isSeenBy_33 d (by omega) _ _ _ _)
def f_X9_isSeenBy (a0 : Nat × Nat) (x1 : Int32) (x2 : Int32) (h : am_H) : am_R := m_ao (some a0) 9 fun a3 => m_bI (f_X9_isOwnedBy a3 x1 h) fun h1 v2 => if v2 = 0 then (m_gR (some a0) 9 6 h1 fun o4 => if o4 = none then (f_X9_isSeenBy_28 a0 x1 h1) else (m_gR (some a0) 9 6 h1 fun o5 => m_gI o5 0 0 h1 fun v6 => if x2 < v6 then (f_X9_isSeenBy_33 a0 x1 (0 : Int32) h1) else (f_X9_isSeenBy_28 a0 x1 h1))) else (m_rz h1 (1 : Int32))
theorem k_X9_isSeenBy (d : Nat) (hd : 2 ≤ d) (a0 : Nat × Nat) (x1 : Int32) (x2 : Int32) (h : am_H) : am_Con m_X9_isSeenBy d [.inr (.inr (some a0)), .inl x1, .inl x2] h (f_X9_isSeenBy a0 x1 x2 h) := am_con (by decide +kernel) (Nat.le_of_ble_eq_true rfl) (by
  unfold f_X9_isSeenBy
  refine sim_aload_n dX9_isSeenBy_0 rfl ?_
  refine sim_iload_n dX9_isSeenBy_1 rfl ?_
  refine sim_ao1 (fun a3 e => ?_)
  refine sim_virt (d - 1) e dX9_isSeenBy_2 (k_X9_isOwnedBy (d - 1) (by omega) _ _ _) q_X9_isOwnedBy rfl rfl wm_RX9_29 rfl rfl (by omega) (Nat.le_of_ble_eq_true rfl) am_nI (am_rI fun h1 v2 => ?_) am_eI
  refine sim_if_eq 10 dX9_isSeenBy_5 (by decide) (fun c => ?_) (fun c => ?_)
  · refine sim_aload_n dX9_isSeenBy_10 rfl ?_
    refine sim_gR 9 6 dX9_isSeenBy_11 rfl wf_RX9_33 (Nat.le_of_ble_eq_true rfl) rfl (fun o4 => ?_)
    refine sim_ifnull 28 dX9_isSeenBy_14 (by decide) (fun c => ?_) (fun c => ?_)
    · exact sim_lv (am_leS (am_leS (am_leN (am_leN am_leT)))) (t_X9_isSeenBy_28 d (by omega) _ _ _)
    · refine sim_aload_n dX9_isSeenBy_17 rfl ?_
      refine sim_gR 9 6 dX9_isSeenBy_18 rfl wf_RX9_33 (Nat.le_of_ble_eq_true rfl) rfl (fun o5 => ?_)
      refine sim_gI 0 0 dX9_isSeenBy_21 rfl wf_RX9_37 (Nat.le_of_ble_eq_true rfl) rfl (fun v6 => ?_)
      refine sim_iload_n dX9_isSeenBy_24 rfl ?_
      refine sim_ic_gt 32 dX9_isSeenBy_25 (by decide) (fun c => ?_) (fun c => ?_)
      · refine sim_iconst (0) dX9_isSeenBy_32 (by decide +kernel) ?_
        exact sim_lv (am_leS (am_leS (am_leN (am_leN am_leT)))) (t_X9_isSeenBy_33 d (by omega) _ _ _ _)
      · exact sim_lv (am_leS (am_leS (am_leN (am_leN am_leT)))) (t_X9_isSeenBy_28 d (by omega) _ _ _)
  · refine sim_iconst (1) dX9_isSeenBy_8 (by decide +kernel) ?_
    exact sim_zret dX9_isSeenBy_9 rfl)
theorem q_X9_isSeenBy : am_Cal m_X9_isSeenBy 2 2 := ⟨am_mem 536 (w := Cond.code yX9_isSeenBy cX9_isSeenBy 4 (some .boolean)) (by decide +kernel) rfl, am_mem 44 (w := Cond.initialized RX9) (by decide +kernel) rfl, fun z => absurd z (by decide), fun _ => am_mem 534 (w := Cond.instanceMethod yX9_isSeenBy) (by decide +kernel) rfl, fun z => absurd z (by decide), fun _ => am_mem 535 (w := Cond.selects RX9 yX9_isSeenBy yX9_isSeenBy) (by decide +kernel) rfl, by decide +kernel, by decide +kernel, Nat.le_of_ble_eq_true rfl⟩
abbrev m_X9_ownersToldTo : am_M := (yX9_ownersToldTo, cX9_ownersToldTo, 4, some .int, [])
def f_X9_ownersToldTo_53  (s0 : Int32) (h : am_H) : am_R := m_ri h s0
theorem t_X9_ownersToldTo_53 (d : Nat) (hd : 3 ≤ d)  (s0 : Int32) (h : am_H) : Sim m_X9_ownersToldTo d 53 [none, none, none, none] [.inl s0] h (f_X9_ownersToldTo_53  s0 h) := by
  unfold f_X9_ownersToldTo_53
  exact sim_iret dX9_ownersToldTo_53 rfl
def f_X9_ownersToldTo_52   (h : am_H) : am_R := f_X9_ownersToldTo_53 (0 : Int32) h
theorem t_X9_ownersToldTo_52 (d : Nat) (hd : 3 ≤ d)   (h : am_H) : Sim m_X9_ownersToldTo d 52 [none, none, none, none] [] h (f_X9_ownersToldTo_52   h) := by
  unfold f_X9_ownersToldTo_52
  refine sim_iconst (0) dX9_ownersToldTo_52 (by decide +kernel) ?_
  exact sim_lv (am_leN (am_leN (am_leN (am_leN am_leT)))) (t_X9_ownersToldTo_53 d (by omega) _ _)
def f_X9_ownersToldTo_45  (a0 : Nat × Nat) (h : am_H) : am_R := m_gI (some a0) 9 1 h fun v10 => f_X9_ownersToldTo_53 v10 h
theorem t_X9_ownersToldTo_45 (d : Nat) (hd : 3 ≤ d)  (a0 : Nat × Nat) (h : am_H) : Sim m_X9_ownersToldTo d 45 [some (.inr (.inr (some a0))), none, none, none] [] h (f_X9_ownersToldTo_45  a0 h) := by
  unfold f_X9_ownersToldTo_45
  refine sim_aload_n dX9_ownersToldTo_45 rfl ?_
  refine sim_gI 9 1 dX9_ownersToldTo_46 rfl wf_RX9_19 (Nat.le_of_ble_eq_true rfl) rfl (fun v10 => ?_)
  refine sim_goto 53 dX9_ownersToldTo_49 (by decide) ?_
  exact sim_lv (am_leN (am_leN (am_leN (am_leN am_leT)))) (t_X9_ownersToldTo_53 d (by omega) _ _)
def f_X9_ownersToldTo_23  (a0 : Nat × Nat) (x1 : Int32) (x2 : Int32) (s0 : Int32) (h : am_H) : am_R := m_ao (some a0) 9 fun a6 => m_bI (f_X9_isSeenBy a6 x1 x2 h) fun h4 v5 => if v5 = 0 then (f_X9_ownersToldTo_52 h4) else (m_ao (some a0) 9 fun a9 => m_bI (f_X9_isOwnedBy a9 x1 h4) fun h7 v8 => if v8 = 0 then (if s0 = 0 then (f_X9_ownersToldTo_52 h7) else (f_X9_ownersToldTo_45 a0 h7)) else (f_X9_ownersToldTo_45 a0 h7))
theorem t_X9_ownersToldTo_23 (d : Nat) (hd : 3 ≤ d)  (a0 : Nat × Nat) (x1 : Int32) (x2 : Int32) (s0 : Int32) (h : am_H) : Sim m_X9_ownersToldTo d 23 [some (.inr (.inr (some a0))), some (.inl x1), some (.inl x2), none] [.inl s0] h (f_X9_ownersToldTo_23  a0 x1 x2 s0 h) := by
  unfold f_X9_ownersToldTo_23
  refine sim_istore_n dX9_ownersToldTo_23 (Nat.le_of_ble_eq_true rfl) ?_
  refine sim_aload_n dX9_ownersToldTo_24 rfl ?_
  refine sim_iload_n dX9_ownersToldTo_25 rfl ?_
  refine sim_iload_n dX9_ownersToldTo_26 rfl ?_
  refine sim_ao2 (fun a6 e => ?_)
  refine sim_virt (d - 1) e dX9_ownersToldTo_27 (k_X9_isSeenBy (d - 1) (by omega) _ _ _ _) q_X9_isSeenBy rfl rfl wm_RX9_53 rfl rfl (by omega) (Nat.le_of_ble_eq_true rfl) am_nI (am_rI fun h4 v5 => ?_) am_eI
  refine sim_if_eq 52 dX9_ownersToldTo_30 (by decide) (fun c => ?_) (fun c => ?_)
  · exact sim_lv (am_leN (am_leN (am_leN (am_leN am_leT)))) (t_X9_ownersToldTo_52 d (by omega) _)
  · refine sim_aload_n dX9_ownersToldTo_33 rfl ?_
    refine sim_iload_n dX9_ownersToldTo_34 rfl ?_
    refine sim_ao1 (fun a9 e => ?_)
    refine sim_virt (d - 1) e dX9_ownersToldTo_35 (k_X9_isOwnedBy (d - 1) (by omega) _ _ _) q_X9_isOwnedBy rfl rfl wm_RX9_29 rfl rfl (by omega) (Nat.le_of_ble_eq_true rfl) am_nI (am_rI fun h7 v8 => ?_) am_eI
    refine sim_if_ne 45 dX9_ownersToldTo_38 (by decide) (fun c => ?_) (fun c => ?_)
    · exact sim_lv (am_leS (am_leN (am_leN (am_leN am_leT)))) (t_X9_ownersToldTo_45 d (by omega) _ _)
    · refine sim_iload_n dX9_ownersToldTo_41 rfl ?_
      refine sim_if_eq 52 dX9_ownersToldTo_42 (by decide) (fun c => ?_) (fun c => ?_)
      · exact sim_lv (am_leN (am_leN (am_leN (am_leN am_leT)))) (t_X9_ownersToldTo_52 d (by omega) _)
      · exact sim_lv (am_leS (am_leN (am_leN (am_leN am_leT)))) (t_X9_ownersToldTo_45 d (by omega) _ _)
def f_X9_ownersToldTo_18  (a0 : Nat × Nat) (x1 : Int32) (x2 : Int32) (h : am_H) : am_R := f_X9_ownersToldTo_23 a0 x1 x2 (1 : Int32) h
theorem t_X9_ownersToldTo_18 (d : Nat) (hd : 3 ≤ d)  (a0 : Nat × Nat) (x1 : Int32) (x2 : Int32) (h : am_H) : Sim m_X9_ownersToldTo d 18 [some (.inr (.inr (some a0))), some (.inl x1), some (.inl x2), none] [] h (f_X9_ownersToldTo_18  a0 x1 x2 h) := by
  unfold f_X9_ownersToldTo_18
  refine sim_iconst (1) dX9_ownersToldTo_18 (by decide +kernel) ?_
  refine sim_goto 23 dX9_ownersToldTo_19 (by decide) ?_
  exact sim_lv (am_leS (am_leS (am_leS (am_leN am_leT)))) (t_X9_ownersToldTo_23 d (by omega) _ _ _ _ _)
def f_X9_ownersToldTo (a0 : Nat × Nat) (x1 : Int32) (x2 : Int32) (h : am_H) : am_R := m_gR (some a0) 9 6 h fun o1 => if o1 = none then (f_X9_ownersToldTo_18 a0 x1 x2 h) else (m_gR (some a0) 9 6 h fun o2 => m_gI o2 0 1 h fun v3 => if x2 < v3 then (f_X9_ownersToldTo_23 a0 x1 x2 (0 : Int32) h) else (f_X9_ownersToldTo_18 a0 x1 x2 h))
theorem k_X9_ownersToldTo (d : Nat) (hd : 3 ≤ d) (a0 : Nat × Nat) (x1 : Int32) (x2 : Int32) (h : am_H) : am_Con m_X9_ownersToldTo d [.inr (.inr (some a0)), .inl x1, .inl x2] h (f_X9_ownersToldTo a0 x1 x2 h) := am_con (by decide +kernel) (Nat.le_of_ble_eq_true rfl) (by
  unfold f_X9_ownersToldTo
  refine sim_aload_n dX9_ownersToldTo_0 rfl ?_
  refine sim_gR 9 6 dX9_ownersToldTo_1 rfl wf_RX9_33 (Nat.le_of_ble_eq_true rfl) rfl (fun o1 => ?_)
  refine sim_ifnull 18 dX9_ownersToldTo_4 (by decide) (fun c => ?_) (fun c => ?_)
  · exact sim_lv (am_leS (am_leS (am_leS (am_leN am_leT)))) (t_X9_ownersToldTo_18 d (by omega) _ _ _ _)
  · refine sim_aload_n dX9_ownersToldTo_7 rfl ?_
    refine sim_gR 9 6 dX9_ownersToldTo_8 rfl wf_RX9_33 (Nat.le_of_ble_eq_true rfl) rfl (fun o2 => ?_)
    refine sim_gI 0 1 dX9_ownersToldTo_11 rfl wf_RX9_50 (Nat.le_of_ble_eq_true rfl) rfl (fun v3 => ?_)
    refine sim_iload_n dX9_ownersToldTo_14 rfl ?_
    refine sim_ic_gt 22 dX9_ownersToldTo_15 (by decide) (fun c => ?_) (fun c => ?_)
    · refine sim_iconst (0) dX9_ownersToldTo_22 (by decide +kernel) ?_
      exact sim_lv (am_leS (am_leS (am_leS (am_leN am_leT)))) (t_X9_ownersToldTo_23 d (by omega) _ _ _ _ _)
    · exact sim_lv (am_leS (am_leS (am_leS (am_leN am_leT)))) (t_X9_ownersToldTo_18 d (by omega) _ _ _ _))
theorem q_X9_ownersToldTo : am_Cal m_X9_ownersToldTo 2 2 := ⟨am_mem 546 (w := Cond.code yX9_ownersToldTo cX9_ownersToldTo 4 (some .int)) (by decide +kernel) rfl, am_mem 44 (w := Cond.initialized RX9) (by decide +kernel) rfl, fun z => absurd z (by decide), fun _ => am_mem 544 (w := Cond.instanceMethod yX9_ownersToldTo) (by decide +kernel) rfl, fun z => absurd z (by decide), fun _ => am_mem 545 (w := Cond.selects RX9 yX9_ownersToldTo yX9_ownersToldTo) (by decide +kernel) rfl, by decide +kernel, by decide +kernel, Nat.le_of_ble_eq_true rfl⟩
abbrev m_X10_owners : am_M := (yX10_owners, cX10_owners, 3, some .int, [])
def f_X10_owners (a0 : Nat × Nat) (x1 : Int32) (x2 : Int32) (h : am_H) : am_R := m_bV (f_X10_checkFace x1 h) fun h1 => m_ao (some a0) 10 fun a5 => m_bR (f_X10_workAt a5 x2 h1) fun h3 o4 => m_gI (some a0) 10 0 h3 fun v6 => m_ao o4 9 fun a9 => m_bI (f_X9_ownersToldTo a9 x1 v6 h3) fun h7 v8 => m_ri h7 v8
theorem k_X10_owners (d : Nat) (hd : 8 ≤ d) (a0 : Nat × Nat) (x1 : Int32) (x2 : Int32) (h : am_H) : am_Con m_X10_owners d [.inr (.inr (some a0)), .inl x1, .inl x2] h (f_X10_owners a0 x1 x2 h) := am_con (by decide +kernel) (Nat.le_of_ble_eq_true rfl) (by
  unfold f_X10_owners
  refine sim_iload_n dX10_owners_0 rfl ?_
  refine sim_static (d - 1) dX10_owners_1 (k_X10_checkFace (d - 1) (by omega) _ _) q_X10_checkFace wm_RX10_99 rfl rfl (by omega) (Nat.le_of_ble_eq_true rfl) am_nV (am_rV fun h1 => ?_) am_eV
  refine sim_aload_n dX10_owners_4 rfl ?_
  refine sim_iload_n dX10_owners_5 rfl ?_
  refine sim_ao1 (fun a5 e => ?_)
  refine sim_virt (d - 1) e dX10_owners_6 (k_X10_workAt (d - 1) (by omega) _ _ _) q_X10_workAt rfl rfl wm_RX10_112 rfl rfl (by omega) (Nat.le_of_ble_eq_true rfl) am_nR (am_rR fun h3 o4 => ?_) am_eR
  refine sim_iload_n dX10_owners_9 rfl ?_
  refine sim_aload_n dX10_owners_10 rfl ?_
  refine sim_gI 10 0 dX10_owners_11 rfl wf_RX10_73 (Nat.le_of_ble_eq_true rfl) rfl (fun v6 => ?_)
  refine sim_ao2 (fun a9 e => ?_)
  refine sim_virt (d - 1) e dX10_owners_14 (k_X9_ownersToldTo (d - 1) (by omega) _ _ _ _) q_X9_ownersToldTo rfl rfl wm_RX10_176 rfl rfl (by omega) (Nat.le_of_ble_eq_true rfl) am_nI (am_rI fun h7 v8 => ?_) am_eI
  exact sim_iret dX10_owners_17 rfl)
theorem q_X10_owners : am_Cal m_X10_owners 2 2 := ⟨am_mem 542 (w := Cond.code yX10_owners cX10_owners 3 (some .int)) (by decide +kernel) rfl, am_mem 30 (w := Cond.initialized RX10) (by decide +kernel) rfl, fun z => absurd z (by decide), fun _ => am_mem 540 (w := Cond.instanceMethod yX10_owners) (by decide +kernel) rfl, fun z => absurd z (by decide), fun _ => am_mem 541 (w := Cond.selects RX10 yX10_owners yX10_owners) (by decide +kernel) rfl, by decide +kernel, by decide +kernel, Nat.le_of_ble_eq_true rfl⟩
abbrev m_X7_isParent : am_M := (yX7_isParent, cX7_isParent, 3, some .boolean, [])
def f_X7_isParent (a0 : Nat × Nat) (x1 : Int32) (x2 : Int32) (h : am_H) : am_R := m_gR (some a0) 7 2 h fun o1 => m_aI o1 0 x2 h fun v2 => m_bJ (f_X10_has v2 x1 h) fun h3 v4 => m_rz h3 v4
theorem k_X7_isParent (d : Nat) (hd : 1 ≤ d) (a0 : Nat × Nat) (x1 : Int32) (x2 : Int32) (h : am_H) : am_Con m_X7_isParent d [.inr (.inr (some a0)), .inl x1, .inl x2] h (f_X7_isParent a0 x1 x2 h) := am_con (by decide +kernel) (Nat.le_of_ble_eq_true rfl) (by
  unfold f_X7_isParent
  refine sim_aload_n dX7_isParent_0 rfl ?_
  refine sim_gR 7 2 dX7_isParent_1 rfl wf_RX7_15 (Nat.le_of_ble_eq_true rfl) rfl (fun o1 => ?_)
  refine sim_iload_n dX7_isParent_4 rfl ?_
  refine sim_aI dX7_isParent_5 (fun v2 => ?_)
  refine sim_iload_n dX7_isParent_6 rfl ?_
  refine sim_staticN (d - 1) dX7_isParent_7 (k_X10_has (d - 1) (by omega) _ _ _) q_X10_has wn_RX7_25 rfl rfl (by omega) (Nat.le_of_ble_eq_true rfl) am_nJ am_xJ (am_rJ fun h3 v4 => ?_)
  exact sim_zret dX7_isParent_10 rfl)
theorem q_X7_isParent : am_Cal m_X7_isParent 2 2 := ⟨am_mem 600 (w := Cond.code yX7_isParent cX7_isParent 3 (some .boolean)) (by decide +kernel) rfl, am_mem 31 (w := Cond.initialized RX7) (by decide +kernel) rfl, fun z => absurd z (by decide), fun _ => am_mem 598 (w := Cond.instanceMethod yX7_isParent) (by decide +kernel) rfl, fun z => absurd z (by decide), fun _ => am_mem 599 (w := Cond.selects RX7 yX7_isParent yX7_isParent) (by decide +kernel) rfl, by decide +kernel, by decide +kernel, Nat.le_of_ble_eq_true rfl⟩
abbrev m_X7_setParent : am_M := (yX7_setParent, cX7_setParent, 4, none, [])
def f_X7_setParent (a0 : Nat × Nat) (x1 : Int32) (x2 : Int32) (x3 : Int32) (h : am_H) : am_R := m_gR (some a0) 7 2 h fun o1 => m_gR (some a0) 7 2 h fun o2 => m_aI o2 0 x1 h fun v3 => m_bJ (f_X10_with v3 x2 x3 h) fun h4 v5 => m_sI o1 x1 v5 h4 fun h6 => m_ao (some a0) 7 fun a9 => m_bV (f_X7_findAbove a9 h6) fun h7 => m_rt h7 none
theorem k_X7_setParent (d : Nat) (hd : 3 ≤ d) (a0 : Nat × Nat) (x1 : Int32) (x2 : Int32) (x3 : Int32) (h : am_H) : am_Con m_X7_setParent d [.inr (.inr (some a0)), .inl x1, .inl x2, .inl x3] h (f_X7_setParent a0 x1 x2 x3 h) := am_con (by decide +kernel) (Nat.le_of_ble_eq_true rfl) (by
  unfold f_X7_setParent
  refine sim_aload_n dX7_setParent_0 rfl ?_
  refine sim_gR 7 2 dX7_setParent_1 rfl wf_RX7_15 (Nat.le_of_ble_eq_true rfl) rfl (fun o1 => ?_)
  refine sim_iload_n dX7_setParent_4 rfl ?_
  refine sim_aload_n dX7_setParent_5 rfl ?_
  refine sim_gR 7 2 dX7_setParent_6 rfl wf_RX7_15 (Nat.le_of_ble_eq_true rfl) rfl (fun o2 => ?_)
  refine sim_iload_n dX7_setParent_9 rfl ?_
  refine sim_aI dX7_setParent_10 (fun v3 => ?_)
  refine sim_iload_n dX7_setParent_11 rfl ?_
  refine sim_iload_n dX7_setParent_12 rfl ?_
  refine sim_staticN (d - 1) dX7_setParent_13 (k_X10_with (d - 1) (by omega) _ _ _ _) q_X10_with wn_RX7_29 rfl rfl (by omega) (Nat.le_of_ble_eq_true rfl) am_nJ am_xJ (am_rJ fun h4 v5 => ?_)
  refine sim_sI dX7_setParent_16 (fun h6 => ?_)
  refine sim_aload_n dX7_setParent_17 rfl ?_
  refine sim_ao0 (fun a9 e => ?_)
  refine sim_virt (d - 1) e dX7_setParent_18 (k_X7_findAbove (d - 1) (by omega) _  _) q_X7_findAbove rfl rfl wm_RX7_33 rfl rfl (by omega) (Nat.le_of_ble_eq_true rfl) am_nV (am_rV fun h7 => ?_) am_eV
  exact sim_vret dX7_setParent_21 rfl)
theorem q_X7_setParent : am_Cal m_X7_setParent 3 2 := ⟨am_mem 604 (w := Cond.code yX7_setParent cX7_setParent 4 none) (by decide +kernel) rfl, am_mem 31 (w := Cond.initialized RX7) (by decide +kernel) rfl, fun z => absurd z (by decide), fun _ => am_mem 602 (w := Cond.instanceMethod yX7_setParent) (by decide +kernel) rfl, fun z => absurd z (by decide), fun _ => am_mem 603 (w := Cond.selects RX7 yX7_setParent yX7_setParent) (by decide +kernel) rfl, by decide +kernel, by decide +kernel, Nat.le_of_ble_eq_true rfl⟩
abbrev m_X10_parent : am_M := (yX10_parent, cX10_parent, 5, some .boolean, [])
def f_X10_parent_106  (x4 : Int32) (h : am_H) : am_R := m_rz h x4
theorem t_X10_parent_106 (d : Nat) (hd : 7 ≤ d)  (x4 : Int32) (h : am_H) : Sim m_X10_parent d 106 [none, none, none, none, some (.inl x4)] [] h (f_X10_parent_106  x4 h) := by
  unfold f_X10_parent_106
  refine sim_iload dX10_parent_106 rfl ?_
  exact sim_zret dX10_parent_108 rfl
def f_X10_parent_75  (a0 : Nat × Nat) (x1 : Int32) (x2 : Int32) (x3 : Int32) (h : am_H) : am_R := m_gR (some a0) 10 7 h fun o19 => m_ao o19 7 fun a22 => m_bI (f_X7_isParent a22 x2 x1 h) fun h20 v21 => if v21 = x3 then (f_X10_parent_106 v21 h20) else (m_gR (some a0) 10 7 h20 fun o23 => m_ao o23 7 fun a26 => m_bV (f_X7_setParent a26 x1 x2 x3 h20) fun h24 => m_ao (some a0) 10 fun a29 => m_bV (f_X10_letTaggedWorksWait a29 h24) fun h27 => f_X10_parent_106 v21 h27)
theorem t_X10_parent_75 (d : Nat) (hd : 7 ≤ d)  (a0 : Nat × Nat) (x1 : Int32) (x2 : Int32) (x3 : Int32) (h : am_H) : Sim m_X10_parent d 75 [some (.inr (.inr (some a0))), some (.inl x1), some (.inl x2), some (.inl x3), none] [] h (f_X10_parent_75  a0 x1 x2 x3 h) := by
  unfold f_X10_parent_75
  refine sim_aload_n dX10_parent_75 rfl ?_
  refine sim_gR 10 7 dX10_parent_76 rfl wf_RX10_34 (Nat.le_of_ble_eq_true rfl) rfl (fun o19 => ?_)
  refine sim_iload_n dX10_parent_79 rfl ?_
  refine sim_iload_n dX10_parent_80 rfl ?_
  refine sim_ao2 (fun a22 e => ?_)
  refine sim_virt (d - 1) e dX10_parent_81 (k_X7_isParent (d - 1) (by omega) _ _ _ _) q_X7_isParent rfl rfl wm_RX10_213 rfl rfl (by omega) (Nat.le_of_ble_eq_true rfl) am_nI (am_rI fun h20 v21 => ?_) am_eI
  refine sim_istore dX10_parent_84 (Nat.le_of_ble_eq_true rfl) ?_
  refine sim_iload dX10_parent_86 rfl ?_
  refine sim_iload_n dX10_parent_88 rfl ?_
  refine sim_ic_eq 106 dX10_parent_89 (by decide) (fun c => ?_) (fun c => ?_)
  · exact sim_lv (am_leN (am_leN (am_leN (am_leN (am_leS am_leT))))) (t_X10_parent_106 d (by omega) _ _)
  · refine sim_aload_n dX10_parent_92 rfl ?_
    refine sim_gR 10 7 dX10_parent_93 rfl wf_RX10_34 (Nat.le_of_ble_eq_true rfl) rfl (fun o23 => ?_)
    refine sim_iload_n dX10_parent_96 rfl ?_
    refine sim_iload_n dX10_parent_97 rfl ?_
    refine sim_iload_n dX10_parent_98 rfl ?_
    refine sim_ao3 (fun a26 e => ?_)
    refine sim_virt (d - 1) e dX10_parent_99 (k_X7_setParent (d - 1) (by omega) _ _ _ _ _) q_X7_setParent rfl rfl wm_RX10_216 rfl rfl (by omega) (Nat.le_of_ble_eq_true rfl) am_nV (am_rV fun h24 => ?_) am_eV
    refine sim_aload_n dX10_parent_102 rfl ?_
    refine sim_ao0 (fun a29 e => ?_)
    refine sim_virt (d - 1) e dX10_parent_103 (k_X10_letTaggedWorksWait (d - 1) (by omega) _  _) q_X10_letTaggedWorksWait rfl rfl wm_RX10_200 rfl rfl (by omega) (Nat.le_of_ble_eq_true rfl) am_nV (am_rV fun h27 => ?_) am_eV
    exact sim_lv (am_leN (am_leN (am_leN (am_leN (am_leS am_leT))))) (t_X10_parent_106 d (by omega) _ _)
def f_X10_parent_65   (h : am_H) : am_R := m_ex h 2
theorem t_X10_parent_65 (d : Nat) (hd : 7 ≤ d)   (h : am_H) : Sim m_X10_parent d 65 [none, none, none, none, none] [] h (f_X10_parent_65   h) := by
  unfold f_X10_parent_65
  exact sim_throw 2 (by decide) dX10_parent_65 dX10_parent_68 dX10_parent_69 dX10_parent_71 dX10_parent_74 wx_RX10_77 wy_2 ws_RX10_211 at_RX10_81 gd_RX10_81 (by omega) (Nat.le_of_ble_eq_true rfl)
def f_X10_parent (a0 : Nat × Nat) (x1 : Int32) (x2 : Int32) (x3 : Int32) (h : am_H) : am_R := m_ao (some a0) 10 fun a3 => m_bV (f_X10_checkTag a3 x1 h) fun h1 => m_ao (some a0) 10 fun a6 => m_bV (f_X10_checkTag a6 x2 h1) fun h4 => if x1 = x2 then (m_ex h4 1) else (m_gR (some a0) 10 7 h4 fun o7 => m_ao o7 7 fun a10 => m_bI (f_X7_kindOf a10 x1 h4) fun h8 v9 => if v9 = (1 : Int32) then (m_gR (some a0) 10 7 h8 fun o11 => m_ao o11 7 fun a14 => m_bI (f_X7_kindOf a14 x2 h8) fun h12 v13 => if v13 = (1 : Int32) then (if x3 = 0 then (f_X10_parent_75 a0 x1 x2 x3 h12) else (m_gR (some a0) 10 7 h12 fun o15 => m_ao o15 7 fun a18 => m_bI (f_X7_isAbove a18 x1 x2 h12) fun h16 v17 => if v17 = 0 then (f_X10_parent_75 a0 x1 x2 x3 h16) else (f_X10_parent_65 h16))) else (f_X10_parent_65 h12)) else (f_X10_parent_65 h8))
theorem k_X10_parent (d : Nat) (hd : 7 ≤ d) (a0 : Nat × Nat) (x1 : Int32) (x2 : Int32) (x3 : Int32) (h : am_H) : am_Con m_X10_parent d [.inr (.inr (some a0)), .inl x1, .inl x2, .inl x3] h (f_X10_parent a0 x1 x2 x3 h) := am_con (by decide +kernel) (Nat.le_of_ble_eq_true rfl) (by
  unfold f_X10_parent
  refine sim_aload_n dX10_parent_0 rfl ?_
  refine sim_iload_n dX10_parent_1 rfl ?_
  refine sim_ao1 (fun a3 e => ?_)
  refine sim_virt (d - 1) e dX10_parent_2 (k_X10_checkTag (d - 1) (by omega) _ _ _) q_X10_checkTag rfl rfl wm_RX10_189 rfl rfl (by omega) (Nat.le_of_ble_eq_true rfl) am_nV (am_rV fun h1 => ?_) am_eV
  refine sim_aload_n dX10_parent_5 rfl ?_
  refine sim_iload_n dX10_parent_6 rfl ?_
  refine sim_ao1 (fun a6 e => ?_)
  refine sim_virt (d - 1) e dX10_parent_7 (k_X10_checkTag (d - 1) (by omega) _ _ _) q_X10_checkTag rfl rfl wm_RX10_189 rfl rfl (by omega) (Nat.le_of_ble_eq_true rfl) am_nV (am_rV fun h4 => ?_) am_eV
  refine sim_iload_n dX10_parent_10 rfl ?_
  refine sim_iload_n dX10_parent_11 rfl ?_
  refine sim_ic_ne 25 dX10_parent_12 (by decide) (fun c => ?_) (fun c => ?_)
  · refine sim_aload_n dX10_parent_25 rfl ?_
    refine sim_gR 10 7 dX10_parent_26 rfl wf_RX10_34 (Nat.le_of_ble_eq_true rfl) rfl (fun o7 => ?_)
    refine sim_iload_n dX10_parent_29 rfl ?_
    refine sim_ao1 (fun a10 e => ?_)
    refine sim_virt (d - 1) e dX10_parent_30 (k_X7_kindOf (d - 1) (by omega) _ _ _) q_X7_kindOf rfl rfl wm_RX10_192 rfl rfl (by omega) (Nat.le_of_ble_eq_true rfl) am_nI (am_rI fun h8 v9 => ?_) am_eI
    refine sim_iconst (1) dX10_parent_33 (by decide +kernel) ?_
    refine sim_ic_ne 65 dX10_parent_34 (by decide) (fun c => ?_) (fun c => ?_)
    · exact sim_lv (am_leN (am_leN (am_leN (am_leN (am_leN am_leT))))) (t_X10_parent_65 d (by omega) _)
    · refine sim_aload_n dX10_parent_37 rfl ?_
      refine sim_gR 10 7 dX10_parent_38 rfl wf_RX10_34 (Nat.le_of_ble_eq_true rfl) rfl (fun o11 => ?_)
      refine sim_iload_n dX10_parent_41 rfl ?_
      refine sim_ao1 (fun a14 e => ?_)
      refine sim_virt (d - 1) e dX10_parent_42 (k_X7_kindOf (d - 1) (by omega) _ _ _) q_X7_kindOf rfl rfl wm_RX10_192 rfl rfl (by omega) (Nat.le_of_ble_eq_true rfl) am_nI (am_rI fun h12 v13 => ?_) am_eI
      refine sim_iconst (1) dX10_parent_45 (by decide +kernel) ?_
      refine sim_ic_ne 65 dX10_parent_46 (by decide) (fun c => ?_) (fun c => ?_)
      · exact sim_lv (am_leN (am_leN (am_leN (am_leN (am_leN am_leT))))) (t_X10_parent_65 d (by omega) _)
      · refine sim_iload_n dX10_parent_49 rfl ?_
        refine sim_if_eq 75 dX10_parent_50 (by decide) (fun c => ?_) (fun c => ?_)
        · exact sim_lv (am_leS (am_leS (am_leS (am_leS (am_leN am_leT))))) (t_X10_parent_75 d (by omega) _ _ _ _ _)
        · refine sim_aload_n dX10_parent_53 rfl ?_
          refine sim_gR 10 7 dX10_parent_54 rfl wf_RX10_34 (Nat.le_of_ble_eq_true rfl) rfl (fun o15 => ?_)
          refine sim_iload_n dX10_parent_57 rfl ?_
          refine sim_iload_n dX10_parent_58 rfl ?_
          refine sim_ao2 (fun a18 e => ?_)
          refine sim_virt (d - 1) e dX10_parent_59 (k_X7_isAbove (d - 1) (by omega) _ _ _ _) q_X7_isAbove rfl rfl wm_RX10_203 rfl rfl (by omega) (Nat.le_of_ble_eq_true rfl) am_nI (am_rI fun h16 v17 => ?_) am_eI
          refine sim_if_eq 75 dX10_parent_62 (by decide) (fun c => ?_) (fun c => ?_)
          · exact sim_lv (am_leS (am_leS (am_leS (am_leS (am_leN am_leT))))) (t_X10_parent_75 d (by omega) _ _ _ _ _)
          · exact sim_lv (am_leN (am_leN (am_leN (am_leN (am_leN am_leT))))) (t_X10_parent_65 d (by omega) _)
  · exact sim_throw 1 (by decide) dX10_parent_15 dX10_parent_18 dX10_parent_19 dX10_parent_21 dX10_parent_24 wx_RX10_66 wy_1 ws_RX10_86 at_RX10_70 gd_RX10_70 (by omega) (Nat.le_of_ble_eq_true rfl))
theorem q_X10_parent : am_Cal m_X10_parent 3 2 := ⟨am_mem 595 (w := Cond.code yX10_parent cX10_parent 5 (some .boolean)) (by decide +kernel) rfl, am_mem 30 (w := Cond.initialized RX10) (by decide +kernel) rfl, fun z => absurd z (by decide), fun _ => am_mem 593 (w := Cond.instanceMethod yX10_parent) (by decide +kernel) rfl, fun z => absurd z (by decide), fun _ => am_mem 594 (w := Cond.selects RX10 yX10_parent yX10_parent) (by decide +kernel) rfl, by decide +kernel, by decide +kernel, Nat.le_of_ble_eq_true rfl⟩
abbrev m_X10_pass : am_M := (yX10_pass, cX10_pass, 2, some .int, [])
def f_X10_pass_11   (h : am_H) : am_R := m_ex h 1
theorem t_X10_pass_11 (d : Nat) (hd : 6 ≤ d)   (h : am_H) : Sim m_X10_pass d 11 [none, none] [] h (f_X10_pass_11   h) := by
  unfold f_X10_pass_11
  exact sim_throw 1 (by decide) dX10_pass_11 dX10_pass_14 dX10_pass_15 dX10_pass_17 dX10_pass_20 wx_RX10_66 wy_1 ws_RX10_68 at_RX10_70 gd_RX10_70 (by omega) (Nat.le_of_ble_eq_true rfl)
def f_X10_pass (a0 : Nat × Nat) (x1 : Int32) (h : am_H) : am_R := if x1 < (1 : Int32) then (f_X10_pass_11 h) else (if x1 ≤ (100 : Int32) then (m_gI (some a0) 10 0 h fun v1 => if (v1 + x1) ≤ (2000 : Int32) then (m_gI (some a0) 10 0 h fun v2 => m_pI (some a0) 10 0 (v2 + x1) h fun h3 => m_gI (some a0) 10 0 h3 fun v4 => m_ri h3 v4) else (m_ex h 2)) else (f_X10_pass_11 h))
theorem k_X10_pass (d : Nat) (hd : 6 ≤ d) (a0 : Nat × Nat) (x1 : Int32) (h : am_H) : am_Con m_X10_pass d [.inr (.inr (some a0)), .inl x1] h (f_X10_pass a0 x1 h) := am_con (by decide +kernel) (Nat.le_of_ble_eq_true rfl) (by
  unfold f_X10_pass
  refine sim_iload_n dX10_pass_0 rfl ?_
  refine sim_iconst (1) dX10_pass_1 (by decide +kernel) ?_
  refine sim_ic_lt 11 dX10_pass_2 (by decide) (fun c => ?_) (fun c => ?_)
  · exact sim_lv (am_leN (am_leN am_leT)) (t_X10_pass_11 d (by omega) _)
  · refine sim_iload_n dX10_pass_5 rfl ?_
    refine sim_bipush (100) dX10_pass_6 (by decide +kernel) ?_
    refine sim_ic_le 21 dX10_pass_8 (by decide) (fun c => ?_) (fun c => ?_)
    · refine sim_aload_n dX10_pass_21 rfl ?_
      refine sim_gI 10 0 dX10_pass_22 rfl wf_RX10_73 (Nat.le_of_ble_eq_true rfl) rfl (fun v1 => ?_)
      refine sim_iload_n dX10_pass_25 rfl ?_
      refine sim_iadd dX10_pass_26 ?_
      refine sim_sipush (2000) dX10_pass_27 (by decide +kernel) ?_
      refine sim_ic_le 43 dX10_pass_30 (by decide) (fun c => ?_) (fun c => ?_)
      · refine sim_aload_n dX10_pass_43 rfl ?_
        refine sim_dup_r dX10_pass_44 ?_
        refine sim_gI 10 0 dX10_pass_45 rfl wf_RX10_73 (Nat.le_of_ble_eq_true rfl) rfl (fun v2 => ?_)
        refine sim_iload_n dX10_pass_48 rfl ?_
        refine sim_iadd dX10_pass_49 ?_
        refine sim_pI 10 0 dX10_pass_50 rfl wf_RX10_73 (Nat.le_of_ble_eq_true rfl) rfl (Or.inl rfl) rfl (fun h3 => ?_)
        refine sim_aload_n dX10_pass_53 rfl ?_
        refine sim_gI 10 0 dX10_pass_54 rfl wf_RX10_73 (Nat.le_of_ble_eq_true rfl) rfl (fun v4 => ?_)
        exact sim_iret dX10_pass_57 rfl
      · exact sim_throw 2 (by decide) dX10_pass_33 dX10_pass_36 dX10_pass_37 dX10_pass_39 dX10_pass_42 wx_RX10_77 wy_2 ws_RX10_79 at_RX10_81 gd_RX10_81 (by omega) (Nat.le_of_ble_eq_true rfl)
    · exact sim_lv (am_leN (am_leN am_leT)) (t_X10_pass_11 d (by omega) _))
theorem q_X10_pass : am_Cal m_X10_pass 1 2 := ⟨am_mem 427 (w := Cond.code yX10_pass cX10_pass 2 (some .int)) (by decide +kernel) rfl, am_mem 30 (w := Cond.initialized RX10) (by decide +kernel) rfl, fun z => absurd z (by decide), fun _ => am_mem 425 (w := Cond.instanceMethod yX10_pass) (by decide +kernel) rfl, fun z => absurd z (by decide), fun _ => am_mem 426 (w := Cond.selects RX10 yX10_pass yX10_pass) (by decide +kernel) rfl, by decide +kernel, by decide +kernel, Nat.le_of_ble_eq_true rfl⟩
abbrev m_X10_post : am_M := (yX10_post, cX10_post, 3, some .int, [])
def f_X10_post_20   (h : am_H) : am_R := m_ex h 2
theorem t_X10_post_20 (d : Nat) (hd : 8 ≤ d)   (h : am_H) : Sim m_X10_post d 20 [none, none, none] [] h (f_X10_post_20   h) := by
  unfold f_X10_post_20
  exact sim_throw 2 (by decide) dX10_post_20 dX10_post_23 dX10_post_24 dX10_post_26 dX10_post_29 wx_RX10_77 wy_2 ws_RX10_145 at_RX10_81 gd_RX10_81 (by omega) (Nat.le_of_ble_eq_true rfl)
def f_X10_post (a0 : Nat × Nat) (x1 : Int32) (h : am_H) : am_R := m_ao (some a0) 10 fun a3 => m_bR (f_X10_workAt a3 x1 h) fun h1 o2 => m_ao o2 9 fun a6 => m_bI (f_X9_isPosted a6 h1) fun h4 v5 => if v5 = 0 then (m_gI o2 9 3 h4 fun v7 => if v7 = 0 then (f_X10_post_20 h4) else (m_gI (some a0) 10 0 h4 fun v8 => m_pI o2 9 4 v8 h4 fun h9 => m_gI o2 9 3 h9 fun v10 => m_ri h9 v10)) else (f_X10_post_20 h4)
theorem k_X10_post (d : Nat) (hd : 8 ≤ d) (a0 : Nat × Nat) (x1 : Int32) (h : am_H) : am_Con m_X10_post d [.inr (.inr (some a0)), .inl x1] h (f_X10_post a0 x1 h) := am_con (by decide +kernel) (Nat.le_of_ble_eq_true rfl) (by
  unfold f_X10_post
  refine sim_aload_n dX10_post_0 rfl ?_
  refine sim_iload_n dX10_post_1 rfl ?_
  refine sim_ao1 (fun a3 e => ?_)
  refine sim_virt (d - 1) e dX10_post_2 (k_X10_workAt (d - 1) (by omega) _ _ _) q_X10_workAt rfl rfl wm_RX10_112 rfl rfl (by omega) (Nat.le_of_ble_eq_true rfl) am_nR (am_rR fun h1 o2 => ?_) am_eR
  refine sim_astore_n dX10_post_5 (Nat.le_of_ble_eq_true rfl) ?_
  refine sim_aload_n dX10_post_6 rfl ?_
  refine sim_ao0 (fun a6 e => ?_)
  refine sim_virt (d - 1) e dX10_post_7 (k_X9_isPosted (d - 1) (by omega) _  _) q_X9_isPosted rfl rfl wm_RX10_141 rfl rfl (by omega) (Nat.le_of_ble_eq_true rfl) am_nI (am_rI fun h4 v5 => ?_) am_eI
  refine sim_if_ne 20 dX10_post_10 (by decide) (fun c => ?_) (fun c => ?_)
  · exact sim_lv (am_leN (am_leN (am_leN am_leT))) (t_X10_post_20 d (by omega) _)
  · refine sim_aload_n dX10_post_13 rfl ?_
    refine sim_gI 9 3 dX10_post_14 rfl wf_RX10_133 (Nat.le_of_ble_eq_true rfl) rfl (fun v7 => ?_)
    refine sim_if_ne 30 dX10_post_17 (by decide) (fun c => ?_) (fun c => ?_)
    · refine sim_aload_n dX10_post_30 rfl ?_
      refine sim_aload_n dX10_post_31 rfl ?_
      refine sim_gI 10 0 dX10_post_32 rfl wf_RX10_73 (Nat.le_of_ble_eq_true rfl) rfl (fun v8 => ?_)
      refine sim_pI 9 4 dX10_post_35 rfl wf_RX10_147 (Nat.le_of_ble_eq_true rfl) rfl (Or.inl rfl) rfl (fun h9 => ?_)
      refine sim_aload_n dX10_post_38 rfl ?_
      refine sim_gI 9 3 dX10_post_39 rfl wf_RX10_133 (Nat.le_of_ble_eq_true rfl) rfl (fun v10 => ?_)
      exact sim_iret dX10_post_42 rfl
    · exact sim_lv (am_leN (am_leN (am_leN am_leT))) (t_X10_post_20 d (by omega) _))
theorem q_X10_post : am_Cal m_X10_post 1 2 := ⟨am_mem 490 (w := Cond.code yX10_post cX10_post 3 (some .int)) (by decide +kernel) rfl, am_mem 30 (w := Cond.initialized RX10) (by decide +kernel) rfl, fun z => absurd z (by decide), fun _ => am_mem 488 (w := Cond.instanceMethod yX10_post) (by decide +kernel) rfl, fun z => absurd z (by decide), fun _ => am_mem 489 (w := Cond.selects RX10 yX10_post yX10_post) (by decide +kernel) rfl, by decide +kernel, by decide +kernel, Nat.le_of_ble_eq_true rfl⟩
