abbrev m_X11_work : am_M := (yX11_work, cX11_work, 3, some .int, [])
def f_X11_work_39  (a0 : Nat × Nat) (x1 : Int32) (x2 : Int32) (s0 : Int32) (s1 : Option (Nat × Nat)) (h : am_H) : am_R := m_ao s1 11 fun a8 => m_bI (f_X11_holds a8 s0 h) fun h6 v7 => if v7 = 0 then (m_ri h6 (0 : Int32)) else (m_gR (some a0) 11 5 h6 fun o9 => m_gI (some a0) 11 4 h6 fun v10 => m_sI o9 v10 x2 h6 fun h11 => m_gR (some a0) 11 6 h11 fun o12 => m_gI (some a0) 11 4 h11 fun v13 => m_sI o12 v13 ((1 : Int32) <<< (x1 &&& 31)) h11 fun h14 => m_gR (some a0) 11 9 h14 fun o15 => m_gI (some a0) 11 4 h14 fun v16 => m_sI o15 v16 (-1 : Int32) h14 fun h17 => m_gR (some a0) 11 11 h17 fun o18 => m_gI (some a0) 11 4 h17 fun v19 => m_sI o18 v19 (-1 : Int32) h17 fun h20 => m_gI (some a0) 11 4 h20 fun v21 => m_pI (some a0) 11 4 (v21 + (1 : Int32)) h20 fun h22 => m_gI (some a0) 11 4 h22 fun v23 => m_ri h22 (v23 - (1 : Int32)))
theorem t_X11_work_39 (d : Nat) (hd : 2 ≤ d)  (a0 : Nat × Nat) (x1 : Int32) (x2 : Int32) (s0 : Int32) (s1 : Option (Nat × Nat)) (h : am_H) : Sim m_X11_work d 39 [some (.inr (.inr (some a0))), some (.inl x1), some (.inl x2)] [.inl s0, .inr (.inr s1)] h (f_X11_work_39  a0 x1 x2 s0 s1 h) := by
  unfold f_X11_work_39
  refine sim_ao1 (fun a8 e => ?_)
  refine sim_virt (d - 1) e dX11_work_39 (k_X11_holds (d - 1) (by omega) _ _ _) q_X11_holds rfl rfl wm_RX11_142 rfl rfl (by omega) (Nat.le_of_ble_eq_true rfl) am_nI (am_rI fun h6 v7 => ?_) am_eI
  refine sim_if_ne 47 dX11_work_42 (by decide) (fun c => ?_) (fun c => ?_)
  · refine sim_aload_n dX11_work_47 rfl ?_
    refine sim_gR 11 5 dX11_work_48 rfl wf_RX11_17 (Nat.le_of_ble_eq_true rfl) rfl (fun o9 => ?_)
    refine sim_aload_n dX11_work_51 rfl ?_
    refine sim_gI 11 4 dX11_work_52 rfl wf_RX11_133 (Nat.le_of_ble_eq_true rfl) rfl (fun v10 => ?_)
    refine sim_iload_n dX11_work_55 rfl ?_
    refine sim_sI dX11_work_56 (fun h11 => ?_)
    refine sim_aload_n dX11_work_57 rfl ?_
    refine sim_gR 11 6 dX11_work_58 rfl wf_RX11_20 (Nat.le_of_ble_eq_true rfl) rfl (fun o12 => ?_)
    refine sim_aload_n dX11_work_61 rfl ?_
    refine sim_gI 11 4 dX11_work_62 rfl wf_RX11_133 (Nat.le_of_ble_eq_true rfl) rfl (fun v13 => ?_)
    refine sim_iconst (1) dX11_work_65 (by decide +kernel) ?_
    refine sim_iload_n dX11_work_66 rfl ?_
    refine sim_ishl dX11_work_67 ?_
    refine sim_sI dX11_work_68 (fun h14 => ?_)
    refine sim_aload_n dX11_work_69 rfl ?_
    refine sim_gR 11 9 dX11_work_70 rfl wf_RX11_29 (Nat.le_of_ble_eq_true rfl) rfl (fun o15 => ?_)
    refine sim_aload_n dX11_work_73 rfl ?_
    refine sim_gI 11 4 dX11_work_74 rfl wf_RX11_133 (Nat.le_of_ble_eq_true rfl) rfl (fun v16 => ?_)
    refine sim_iconst (-1) dX11_work_77 (by decide +kernel) ?_
    refine sim_sI dX11_work_78 (fun h17 => ?_)
    refine sim_aload_n dX11_work_79 rfl ?_
    refine sim_gR 11 11 dX11_work_80 rfl wf_RX11_35 (Nat.le_of_ble_eq_true rfl) rfl (fun o18 => ?_)
    refine sim_aload_n dX11_work_83 rfl ?_
    refine sim_gI 11 4 dX11_work_84 rfl wf_RX11_133 (Nat.le_of_ble_eq_true rfl) rfl (fun v19 => ?_)
    refine sim_iconst (-1) dX11_work_87 (by decide +kernel) ?_
    refine sim_sI dX11_work_88 (fun h20 => ?_)
    refine sim_aload_n dX11_work_89 rfl ?_
    refine sim_dup_r dX11_work_90 ?_
    refine sim_gI 11 4 dX11_work_91 rfl wf_RX11_133 (Nat.le_of_ble_eq_true rfl) rfl (fun v21 => ?_)
    refine sim_iconst (1) dX11_work_94 (by decide +kernel) ?_
    refine sim_iadd dX11_work_95 ?_
    refine sim_pI 11 4 dX11_work_96 rfl wf_RX11_133 (Nat.le_of_ble_eq_true rfl) rfl (Or.inl rfl) rfl (fun h22 => ?_)
    refine sim_aload_n dX11_work_99 rfl ?_
    refine sim_gI 11 4 dX11_work_100 rfl wf_RX11_133 (Nat.le_of_ble_eq_true rfl) rfl (fun v23 => ?_)
    refine sim_iconst (1) dX11_work_103 (by decide +kernel) ?_
    refine sim_isub dX11_work_104 ?_
    exact sim_iret dX11_work_105 rfl
  · refine sim_iconst (0) dX11_work_45 (by decide +kernel) ?_
    exact sim_iret dX11_work_46 rfl
def f_X11_work (a0 : Nat × Nat) (x1 : Int32) (x2 : Int32) (h : am_H) : am_R := m_bI (f_X11_isPerson x1 h) fun h1 v2 => if v2 = 0 then (f_X11_work_39 a0 x1 x2 (1 : Int32) (some a0) h1) else (m_bI (f_X11_in x2 (0 : Int32) (3 : Int32) h1) fun h3 v4 => if v4 = 0 then (f_X11_work_39 a0 x1 x2 (2 : Int32) (some a0) h3) else (m_gI (some a0) 11 4 h3 fun v5 => if v5 = (20 : Int32) then (f_X11_work_39 a0 x1 x2 (3 : Int32) (some a0) h3) else (f_X11_work_39 a0 x1 x2 (0 : Int32) (some a0) h3)))
theorem k_X11_work (d : Nat) (hd : 2 ≤ d) (a0 : Nat × Nat) (x1 : Int32) (x2 : Int32) (h : am_H) : am_Con m_X11_work d [.inr (.inr (some a0)), .inl x1, .inl x2] h (f_X11_work a0 x1 x2 h) := am_con (by decide +kernel) (Nat.le_of_ble_eq_true rfl) (by
  unfold f_X11_work
  refine sim_aload_n dX11_work_0 rfl ?_
  refine sim_iload_n dX11_work_1 rfl ?_
  refine sim_static (d - 1) dX11_work_2 (k_X11_isPerson (d - 1) (by omega) _ _) q_X11_isPerson wm_RX11_146 rfl rfl (by omega) (Nat.le_of_ble_eq_true rfl) am_nI (am_rI fun h1 v2 => ?_) am_eI
  refine sim_if_ne 12 dX11_work_5 (by decide) (fun c => ?_) (fun c => ?_)
  · refine sim_iload_n dX11_work_12 rfl ?_
    refine sim_iconst (0) dX11_work_13 (by decide +kernel) ?_
    refine sim_iconst (3) dX11_work_14 (by decide +kernel) ?_
    refine sim_static (d - 1) dX11_work_15 (k_X11_in (d - 1) (by omega) _ _ _ _) q_X11_in wm_RX11_129 rfl rfl (by omega) (Nat.le_of_ble_eq_true rfl) am_nI (am_rI fun h3 v4 => ?_) am_eI
    refine sim_if_ne 25 dX11_work_18 (by decide) (fun c => ?_) (fun c => ?_)
    · refine sim_aload_n dX11_work_25 rfl ?_
      refine sim_gI 11 4 dX11_work_26 rfl wf_RX11_133 (Nat.le_of_ble_eq_true rfl) rfl (fun v5 => ?_)
      refine sim_bipush (20) dX11_work_29 (by decide +kernel) ?_
      refine sim_ic_ne 38 dX11_work_31 (by decide) (fun c => ?_) (fun c => ?_)
      · refine sim_iconst (0) dX11_work_38 (by decide +kernel) ?_
        exact sim_lv (am_leS (am_leS (am_leS am_leT))) (t_X11_work_39 d (by omega) _ _ _ _ _ _)
      · refine sim_iconst (3) dX11_work_34 (by decide +kernel) ?_
        refine sim_goto 39 dX11_work_35 (by decide) ?_
        exact sim_lv (am_leS (am_leS (am_leS am_leT))) (t_X11_work_39 d (by omega) _ _ _ _ _ _)
    · refine sim_iconst (2) dX11_work_21 (by decide +kernel) ?_
      refine sim_goto 39 dX11_work_22 (by decide) ?_
      exact sim_lv (am_leS (am_leS (am_leS am_leT))) (t_X11_work_39 d (by omega) _ _ _ _ _ _)
  · refine sim_iconst (1) dX11_work_8 (by decide +kernel) ?_
    refine sim_goto 39 dX11_work_9 (by decide) ?_
    exact sim_lv (am_leS (am_leS (am_leS am_leT))) (t_X11_work_39 d (by omega) _ _ _ _ _ _))
theorem q_X11_work : am_Cal m_X11_work 2 2 := ⟨am_mem 1276 (w := Cond.code yX11_work cX11_work 3 (some .int)) (by decide +kernel) rfl, am_mem 64 (w := Cond.initialized RX11) (by decide +kernel) rfl, fun z => absurd z (by decide), fun _ => am_mem 1274 (w := Cond.instanceMethod yX11_work) (by decide +kernel) rfl, fun z => absurd z (by decide), fun _ => am_mem 1275 (w := Cond.selects RX11 yX11_work yX11_work) (by decide +kernel) rfl, by decide +kernel, by decide +kernel, Nat.le_of_ble_eq_true rfl⟩
