abbrev m_X11_isSeen : am_M := (yX11_isSeen, cX11_isSeen, 4, some .boolean, [])
def f_X11_isSeen_77  (s0 : Int32) (h : am_H) : am_R := m_rz h s0
theorem t_X11_isSeen_77 (d : Nat) (hd : 2 ≤ d)  (s0 : Int32) (h : am_H) : Sim m_X11_isSeen d 77 [none, none, none, none] [.inl s0] h (f_X11_isSeen_77  s0 h) := by
  unfold f_X11_isSeen_77
  exact sim_zret dX11_isSeen_77 rfl
def f_X11_isSeen_76   (h : am_H) : am_R := f_X11_isSeen_77 (0 : Int32) h
theorem t_X11_isSeen_76 (d : Nat) (hd : 2 ≤ d)   (h : am_H) : Sim m_X11_isSeen d 76 [none, none, none, none] [] h (f_X11_isSeen_76   h) := by
  unfold f_X11_isSeen_76
  refine sim_iconst (0) dX11_isSeen_76 (by decide +kernel) ?_
  exact sim_lv (am_leN (am_leN (am_leN (am_leN am_leT)))) (t_X11_isSeen_77 d (by omega) _ _)
def f_X11_isSeen_72   (h : am_H) : am_R := f_X11_isSeen_77 (1 : Int32) h
theorem t_X11_isSeen_72 (d : Nat) (hd : 2 ≤ d)   (h : am_H) : Sim m_X11_isSeen d 72 [none, none, none, none] [] h (f_X11_isSeen_72   h) := by
  unfold f_X11_isSeen_72
  refine sim_iconst (1) dX11_isSeen_72 (by decide +kernel) ?_
  refine sim_goto 77 dX11_isSeen_73 (by decide) ?_
  exact sim_lv (am_leN (am_leN (am_leN (am_leN am_leT)))) (t_X11_isSeen_77 d (by omega) _ _)
def f_X11_isSeen_33  (a0 : Nat × Nat) (x1 : Int32) (x2 : Int32) (s0 : Int32) (h : am_H) : am_R := m_ao (some a0) 11 fun a10 => m_bI (f_X11_isOwner a10 x1 x2 h) fun h8 v9 => if v9 = 0 then (m_gR (some a0) 11 9 h8 fun o11 => m_aI o11 0 x2 h8 fun v12 => if v12 = (-1 : Int32) then (f_X11_isSeen_76 h8) else (if s0 = 0 then (f_X11_isSeen_76 h8) else (m_gR (some a0) 11 10 h8 fun o13 => m_aI o13 1 x2 h8 fun v14 => if v14 = 0 then (f_X11_isSeen_72 h8) else (if (12 : Int32) ≤ x1 then (f_X11_isSeen_76 h8) else (f_X11_isSeen_72 h8))))) else (f_X11_isSeen_72 h8)
theorem t_X11_isSeen_33 (d : Nat) (hd : 2 ≤ d)  (a0 : Nat × Nat) (x1 : Int32) (x2 : Int32) (s0 : Int32) (h : am_H) : Sim m_X11_isSeen d 33 [some (.inr (.inr (some a0))), some (.inl x1), some (.inl x2), none] [.inl s0] h (f_X11_isSeen_33  a0 x1 x2 s0 h) := by
  unfold f_X11_isSeen_33
  refine sim_istore_n dX11_isSeen_33 (Nat.le_of_ble_eq_true rfl) ?_
  refine sim_aload_n dX11_isSeen_34 rfl ?_
  refine sim_iload_n dX11_isSeen_35 rfl ?_
  refine sim_iload_n dX11_isSeen_36 rfl ?_
  refine sim_ao2 (fun a10 e => ?_)
  refine sim_virt (d - 1) e dX11_isSeen_37 (k_X11_isOwner (d - 1) (by omega) _ _ _ _) q_X11_isOwner rfl rfl wm_RX11_166 rfl rfl (by omega) (Nat.le_of_ble_eq_true rfl) am_nI (am_rI fun h8 v9 => ?_) am_eI
  refine sim_if_ne 72 dX11_isSeen_40 (by decide) (fun c => ?_) (fun c => ?_)
  · exact sim_lv (am_leN (am_leN (am_leN (am_leN am_leT)))) (t_X11_isSeen_72 d (by omega) _)
  · refine sim_aload_n dX11_isSeen_43 rfl ?_
    refine sim_gR 11 9 dX11_isSeen_44 rfl wf_RX11_29 (Nat.le_of_ble_eq_true rfl) rfl (fun o11 => ?_)
    refine sim_iload_n dX11_isSeen_47 rfl ?_
    refine sim_aI dX11_isSeen_48 (fun v12 => ?_)
    refine sim_iconst (-1) dX11_isSeen_49 (by decide +kernel) ?_
    refine sim_ic_eq 76 dX11_isSeen_50 (by decide) (fun c => ?_) (fun c => ?_)
    · exact sim_lv (am_leN (am_leN (am_leN (am_leN am_leT)))) (t_X11_isSeen_76 d (by omega) _)
    · refine sim_iload_n dX11_isSeen_53 rfl ?_
      refine sim_if_eq 76 dX11_isSeen_54 (by decide) (fun c => ?_) (fun c => ?_)
      · exact sim_lv (am_leN (am_leN (am_leN (am_leN am_leT)))) (t_X11_isSeen_76 d (by omega) _)
      · refine sim_aload_n dX11_isSeen_57 rfl ?_
        refine sim_gR 11 10 dX11_isSeen_58 rfl wf_RX11_32 (Nat.le_of_ble_eq_true rfl) rfl (fun o13 => ?_)
        refine sim_iload_n dX11_isSeen_61 rfl ?_
        refine sim_aZ dX11_isSeen_62 (fun v14 => ?_)
        refine sim_if_eq 72 dX11_isSeen_63 (by decide) (fun c => ?_) (fun c => ?_)
        · exact sim_lv (am_leN (am_leN (am_leN (am_leN am_leT)))) (t_X11_isSeen_72 d (by omega) _)
        · refine sim_iload_n dX11_isSeen_66 rfl ?_
          refine sim_bipush (12) dX11_isSeen_67 (by decide +kernel) ?_
          refine sim_ic_ge 76 dX11_isSeen_69 (by decide) (fun c => ?_) (fun c => ?_)
          · exact sim_lv (am_leN (am_leN (am_leN (am_leN am_leT)))) (t_X11_isSeen_76 d (by omega) _)
          · exact sim_lv (am_leN (am_leN (am_leN (am_leN am_leT)))) (t_X11_isSeen_72 d (by omega) _)
def f_X11_isSeen_28  (a0 : Nat × Nat) (x1 : Int32) (x2 : Int32) (h : am_H) : am_R := f_X11_isSeen_33 a0 x1 x2 (1 : Int32) h
theorem t_X11_isSeen_28 (d : Nat) (hd : 2 ≤ d)  (a0 : Nat × Nat) (x1 : Int32) (x2 : Int32) (h : am_H) : Sim m_X11_isSeen d 28 [some (.inr (.inr (some a0))), some (.inl x1), some (.inl x2), none] [] h (f_X11_isSeen_28  a0 x1 x2 h) := by
  unfold f_X11_isSeen_28
  refine sim_iconst (1) dX11_isSeen_28 (by decide +kernel) ?_
  refine sim_goto 33 dX11_isSeen_29 (by decide) ?_
  exact sim_lv (am_leS (am_leS (am_leS (am_leN am_leT)))) (t_X11_isSeen_33 d (by omega) _ _ _ _ _)
def f_X11_isSeen (a0 : Nat × Nat) (x1 : Int32) (x2 : Int32) (h : am_H) : am_R := m_gR (some a0) 11 11 h fun o1 => m_aI o1 0 x2 h fun v2 => if v2 = (-1 : Int32) then (f_X11_isSeen_28 a0 x1 x2 h) else (m_gR (some a0) 11 18 h fun o3 => m_gR (some a0) 11 11 h fun o4 => m_aI o4 0 x2 h fun v5 => m_aI o3 0 v5 h fun v6 => m_gI (some a0) 11 1 h fun v7 => if v7 < v6 then (f_X11_isSeen_33 a0 x1 x2 (0 : Int32) h) else (f_X11_isSeen_28 a0 x1 x2 h))
theorem k_X11_isSeen (d : Nat) (hd : 2 ≤ d) (a0 : Nat × Nat) (x1 : Int32) (x2 : Int32) (h : am_H) : am_Con m_X11_isSeen d [.inr (.inr (some a0)), .inl x1, .inl x2] h (f_X11_isSeen a0 x1 x2 h) := am_con (by decide +kernel) (Nat.le_of_ble_eq_true rfl) (by
  unfold f_X11_isSeen
  refine sim_aload_n dX11_isSeen_0 rfl ?_
  refine sim_gR 11 11 dX11_isSeen_1 rfl wf_RX11_35 (Nat.le_of_ble_eq_true rfl) rfl (fun o1 => ?_)
  refine sim_iload_n dX11_isSeen_4 rfl ?_
  refine sim_aI dX11_isSeen_5 (fun v2 => ?_)
  refine sim_iconst (-1) dX11_isSeen_6 (by decide +kernel) ?_
  refine sim_ic_eq 28 dX11_isSeen_7 (by decide) (fun c => ?_) (fun c => ?_)
  · exact sim_lv (am_leS (am_leS (am_leS (am_leN am_leT)))) (t_X11_isSeen_28 d (by omega) _ _ _ _)
  · refine sim_aload_n dX11_isSeen_10 rfl ?_
    refine sim_gR 11 18 dX11_isSeen_11 rfl wf_RX11_53 (Nat.le_of_ble_eq_true rfl) rfl (fun o3 => ?_)
    refine sim_aload_n dX11_isSeen_14 rfl ?_
    refine sim_gR 11 11 dX11_isSeen_15 rfl wf_RX11_35 (Nat.le_of_ble_eq_true rfl) rfl (fun o4 => ?_)
    refine sim_iload_n dX11_isSeen_18 rfl ?_
    refine sim_aI dX11_isSeen_19 (fun v5 => ?_)
    refine sim_aI dX11_isSeen_20 (fun v6 => ?_)
    refine sim_aload_n dX11_isSeen_21 rfl ?_
    refine sim_gI 11 1 dX11_isSeen_22 rfl wf_RX11_139 (Nat.le_of_ble_eq_true rfl) rfl (fun v7 => ?_)
    refine sim_ic_gt 32 dX11_isSeen_25 (by decide) (fun c => ?_) (fun c => ?_)
    · refine sim_iconst (0) dX11_isSeen_32 (by decide +kernel) ?_
      exact sim_lv (am_leS (am_leS (am_leS (am_leN am_leT)))) (t_X11_isSeen_33 d (by omega) _ _ _ _ _)
    · exact sim_lv (am_leS (am_leS (am_leS (am_leN am_leT)))) (t_X11_isSeen_28 d (by omega) _ _ _ _))
theorem q_X11_isSeen : am_Cal m_X11_isSeen 2 2 := ⟨am_mem 1322 (w := Cond.code yX11_isSeen cX11_isSeen 4 (some .boolean)) (by decide +kernel) rfl, am_mem 64 (w := Cond.initialized RX11) (by decide +kernel) rfl, fun z => absurd z (by decide), fun _ => am_mem 1321 (w := Cond.instanceMethod yX11_isSeen) (by decide +kernel) rfl, fun z => absurd z (by decide), fun _ => am_mem 31 (w := Cond.selects RX11 yX11_isSeen yX11_isSeen) (by decide +kernel) rfl, by decide +kernel, by decide +kernel, Nat.le_of_ble_eq_true rfl⟩
abbrev m_X11_isRead : am_M := (yX11_isRead, cX11_isRead, 5, some .boolean, [])
def f_X11_isRead_70  (s0 : Int32) (h : am_H) : am_R := m_rz h s0
theorem t_X11_isRead_70 (d : Nat) (hd : 3 ≤ d)  (s0 : Int32) (h : am_H) : Sim m_X11_isRead d 70 [none, none, none, none, none] [.inl s0] h (f_X11_isRead_70  s0 h) := by
  unfold f_X11_isRead_70
  exact sim_zret dX11_isRead_70 rfl
def f_X11_isRead_69   (h : am_H) : am_R := f_X11_isRead_70 (0 : Int32) h
theorem t_X11_isRead_69 (d : Nat) (hd : 3 ≤ d)   (h : am_H) : Sim m_X11_isRead d 69 [none, none, none, none, none] [] h (f_X11_isRead_69   h) := by
  unfold f_X11_isRead_69
  refine sim_iconst (0) dX11_isRead_69 (by decide +kernel) ?_
  exact sim_lv (am_leN (am_leN (am_leN (am_leN (am_leN am_leT))))) (t_X11_isRead_70 d (by omega) _ _)
def f_X11_isRead_40  (a0 : Nat × Nat) (x1 : Int32) (x2 : Int32) (x3 : Int32) (s0 : Int32) (h : am_H) : am_R := m_ao (some a0) 11 fun a12 => m_bI (f_X11_isSeen a12 x2 x3 h) fun h10 v11 => if v11 = 0 then (f_X11_isRead_69 h10) else (m_gR (some a0) 11 43 h10 fun o13 => m_aI o13 1 x1 h10 fun v14 => if v14 = 0 then (if s0 = 0 then (f_X11_isRead_69 h10) else (f_X11_isRead_70 (1 : Int32) h10)) else (f_X11_isRead_69 h10))
theorem t_X11_isRead_40 (d : Nat) (hd : 3 ≤ d)  (a0 : Nat × Nat) (x1 : Int32) (x2 : Int32) (x3 : Int32) (s0 : Int32) (h : am_H) : Sim m_X11_isRead d 40 [some (.inr (.inr (some a0))), some (.inl x1), some (.inl x2), some (.inl x3), none] [.inl s0] h (f_X11_isRead_40  a0 x1 x2 x3 s0 h) := by
  unfold f_X11_isRead_40
  refine sim_istore dX11_isRead_40 (Nat.le_of_ble_eq_true rfl) ?_
  refine sim_aload_n dX11_isRead_42 rfl ?_
  refine sim_iload_n dX11_isRead_43 rfl ?_
  refine sim_iload_n dX11_isRead_44 rfl ?_
  refine sim_ao2 (fun a12 e => ?_)
  refine sim_virt (d - 1) e dX11_isRead_45 (k_X11_isSeen (d - 1) (by omega) _ _ _ _) q_X11_isSeen rfl rfl wm_RX11_169 rfl rfl (by omega) (Nat.le_of_ble_eq_true rfl) am_nI (am_rI fun h10 v11 => ?_) am_eI
  refine sim_if_eq 69 dX11_isRead_48 (by decide) (fun c => ?_) (fun c => ?_)
  · exact sim_lv (am_leN (am_leN (am_leN (am_leN (am_leN am_leT))))) (t_X11_isRead_69 d (by omega) _)
  · refine sim_aload_n dX11_isRead_51 rfl ?_
    refine sim_gR 11 43 dX11_isRead_52 rfl wf_RX11_113 (Nat.le_of_ble_eq_true rfl) rfl (fun o13 => ?_)
    refine sim_iload_n dX11_isRead_55 rfl ?_
    refine sim_aZ dX11_isRead_56 (fun v14 => ?_)
    refine sim_if_ne 69 dX11_isRead_57 (by decide) (fun c => ?_) (fun c => ?_)
    · exact sim_lv (am_leN (am_leN (am_leN (am_leN (am_leN am_leT))))) (t_X11_isRead_69 d (by omega) _)
    · refine sim_iload dX11_isRead_60 rfl ?_
      refine sim_if_eq 69 dX11_isRead_62 (by decide) (fun c => ?_) (fun c => ?_)
      · exact sim_lv (am_leN (am_leN (am_leN (am_leN (am_leN am_leT))))) (t_X11_isRead_69 d (by omega) _)
      · refine sim_iconst (1) dX11_isRead_65 (by decide +kernel) ?_
        refine sim_goto 70 dX11_isRead_66 (by decide) ?_
        exact sim_lv (am_leN (am_leN (am_leN (am_leN (am_leN am_leT))))) (t_X11_isRead_70 d (by omega) _ _)
def f_X11_isRead_35  (a0 : Nat × Nat) (x1 : Int32) (x2 : Int32) (x3 : Int32) (h : am_H) : am_R := f_X11_isRead_40 a0 x1 x2 x3 (1 : Int32) h
theorem t_X11_isRead_35 (d : Nat) (hd : 3 ≤ d)  (a0 : Nat × Nat) (x1 : Int32) (x2 : Int32) (x3 : Int32) (h : am_H) : Sim m_X11_isRead d 35 [some (.inr (.inr (some a0))), some (.inl x1), some (.inl x2), some (.inl x3), none] [] h (f_X11_isRead_35  a0 x1 x2 x3 h) := by
  unfold f_X11_isRead_35
  refine sim_iconst (1) dX11_isRead_35 (by decide +kernel) ?_
  refine sim_goto 40 dX11_isRead_36 (by decide) ?_
  exact sim_lv (am_leS (am_leS (am_leS (am_leS (am_leN am_leT))))) (t_X11_isRead_40 d (by omega) _ _ _ _ _ _)
def f_X11_isRead (a0 : Nat × Nat) (x1 : Int32) (x2 : Int32) (h : am_H) : am_R := m_gR (some a0) 11 38 h fun o1 => m_aI o1 0 x1 h fun v2 => m_gR (some a0) 11 42 h fun o3 => m_aI o3 1 x1 h fun v4 => if v4 = 0 then (f_X11_isRead_35 a0 x1 x2 v2 h) else (m_gR (some a0) 11 39 h fun o5 => m_aI o5 0 x1 h fun v6 => if v6 = x2 then (f_X11_isRead_35 a0 x1 x2 v2 h) else (m_ao (some a0) 11 fun a9 => m_bI (f_X11_isOwner a9 x2 v2 h) fun h7 v8 => if v8 = 0 then (f_X11_isRead_40 a0 x1 x2 v2 (0 : Int32) h7) else (f_X11_isRead_35 a0 x1 x2 v2 h7)))
theorem k_X11_isRead (d : Nat) (hd : 3 ≤ d) (a0 : Nat × Nat) (x1 : Int32) (x2 : Int32) (h : am_H) : am_Con m_X11_isRead d [.inr (.inr (some a0)), .inl x1, .inl x2] h (f_X11_isRead a0 x1 x2 h) := am_con (by decide +kernel) (Nat.le_of_ble_eq_true rfl) (by
  unfold f_X11_isRead
  refine sim_aload_n dX11_isRead_0 rfl ?_
  refine sim_gR 11 38 dX11_isRead_1 rfl wf_RX11_98 (Nat.le_of_ble_eq_true rfl) rfl (fun o1 => ?_)
  refine sim_iload_n dX11_isRead_4 rfl ?_
  refine sim_aI dX11_isRead_5 (fun v2 => ?_)
  refine sim_istore_n dX11_isRead_6 (Nat.le_of_ble_eq_true rfl) ?_
  refine sim_aload_n dX11_isRead_7 rfl ?_
  refine sim_gR 11 42 dX11_isRead_8 rfl wf_RX11_110 (Nat.le_of_ble_eq_true rfl) rfl (fun o3 => ?_)
  refine sim_iload_n dX11_isRead_11 rfl ?_
  refine sim_aZ dX11_isRead_12 (fun v4 => ?_)
  refine sim_if_eq 35 dX11_isRead_13 (by decide) (fun c => ?_) (fun c => ?_)
  · exact sim_lv (am_leS (am_leS (am_leS (am_leS (am_leN am_leT))))) (t_X11_isRead_35 d (by omega) _ _ _ _ _)
  · refine sim_aload_n dX11_isRead_16 rfl ?_
    refine sim_gR 11 39 dX11_isRead_17 rfl wf_RX11_101 (Nat.le_of_ble_eq_true rfl) rfl (fun o5 => ?_)
    refine sim_iload_n dX11_isRead_20 rfl ?_
    refine sim_aI dX11_isRead_21 (fun v6 => ?_)
    refine sim_iload_n dX11_isRead_22 rfl ?_
    refine sim_ic_eq 35 dX11_isRead_23 (by decide) (fun c => ?_) (fun c => ?_)
    · exact sim_lv (am_leS (am_leS (am_leS (am_leS (am_leN am_leT))))) (t_X11_isRead_35 d (by omega) _ _ _ _ _)
    · refine sim_aload_n dX11_isRead_26 rfl ?_
      refine sim_iload_n dX11_isRead_27 rfl ?_
      refine sim_iload_n dX11_isRead_28 rfl ?_
      refine sim_ao2 (fun a9 e => ?_)
      refine sim_virt (d - 1) e dX11_isRead_29 (k_X11_isOwner (d - 1) (by omega) _ _ _ _) q_X11_isOwner rfl rfl wm_RX11_166 rfl rfl (by omega) (Nat.le_of_ble_eq_true rfl) am_nI (am_rI fun h7 v8 => ?_) am_eI
      refine sim_if_eq 39 dX11_isRead_32 (by decide) (fun c => ?_) (fun c => ?_)
      · refine sim_iconst (0) dX11_isRead_39 (by decide +kernel) ?_
        exact sim_lv (am_leS (am_leS (am_leS (am_leS (am_leN am_leT))))) (t_X11_isRead_40 d (by omega) _ _ _ _ _ _)
      · exact sim_lv (am_leS (am_leS (am_leS (am_leS (am_leN am_leT))))) (t_X11_isRead_35 d (by omega) _ _ _ _ _))
theorem q_X11_isRead : am_Cal m_X11_isRead 2 2 := ⟨am_mem 1496 (w := Cond.code yX11_isRead cX11_isRead 5 (some .boolean)) (by decide +kernel) rfl, am_mem 64 (w := Cond.initialized RX11) (by decide +kernel) rfl, fun z => absurd z (by decide), fun _ => am_mem 1495 (w := Cond.instanceMethod yX11_isRead) (by decide +kernel) rfl, fun z => absurd z (by decide), fun _ => am_mem 52 (w := Cond.selects RX11 yX11_isRead yX11_isRead) (by decide +kernel) rfl, by decide +kernel, by decide +kernel, Nat.le_of_ble_eq_true rfl⟩
abbrev m_X11_canComment : am_M := (yX11_canComment, cX11_canComment, 6, some .boolean, [])
def f_X11_canComment_146 (rc120 : Nat × Nat → Int32 → Int32 → am_H → am_R) (a0 : Nat × Nat) (x5 : Int32) (s0 : Int32) (h : am_H) : am_R := m_gR (some a0) 11 40 h fun o22 => m_aI o22 0 x5 h fun v23 => rc120 a0 s0 v23 h
theorem t_X11_canComment_146 (d : Nat) (hd : 4 ≤ d) (rc120 : Nat × Nat → Int32 → Int32 → am_H → am_R) (hrc120 : ∀ a0 x4 x5 h, Sim m_X11_canComment d 120 [some (.inr (.inr (some a0))), none, none, none, some (.inl x4), some (.inl x5)] [] h (rc120 a0 x4 x5 h)) (a0 : Nat × Nat) (x5 : Int32) (s0 : Int32) (h : am_H) : Sim m_X11_canComment d 146 [some (.inr (.inr (some a0))), none, none, none, none, some (.inl x5)] [.inl s0] h (f_X11_canComment_146 rc120 a0 x5 s0 h) := by
  unfold f_X11_canComment_146
  refine sim_istore dX11_canComment_146 (Nat.le_of_ble_eq_true rfl) ?_
  refine sim_aload_n dX11_canComment_148 rfl ?_
  refine sim_gR 11 40 dX11_canComment_149 rfl wf_RX11_104 (Nat.le_of_ble_eq_true rfl) rfl (fun o22 => ?_)
  refine sim_iload dX11_canComment_152 rfl ?_
  refine sim_aI dX11_canComment_154 (fun v23 => ?_)
  refine sim_istore dX11_canComment_155 (Nat.le_of_ble_eq_true rfl) ?_
  refine sim_goto 120 dX11_canComment_157 (by decide) ?_
  exact sim_lv (am_leS (am_leN (am_leN (am_leN (am_leS (am_leS am_leT)))))) (hrc120 _ _ _ _)
def f_X11_canComment_145 (rc120 : Nat × Nat → Int32 → Int32 → am_H → am_R) (a0 : Nat × Nat) (x5 : Int32) (h : am_H) : am_R := f_X11_canComment_146 rc120 a0 x5 (0 : Int32) h
theorem t_X11_canComment_145 (d : Nat) (hd : 4 ≤ d) (rc120 : Nat × Nat → Int32 → Int32 → am_H → am_R) (hrc120 : ∀ a0 x4 x5 h, Sim m_X11_canComment d 120 [some (.inr (.inr (some a0))), none, none, none, some (.inl x4), some (.inl x5)] [] h (rc120 a0 x4 x5 h)) (a0 : Nat × Nat) (x5 : Int32) (h : am_H) : Sim m_X11_canComment d 145 [some (.inr (.inr (some a0))), none, none, none, none, some (.inl x5)] [] h (f_X11_canComment_145 rc120 a0 x5 h) := by
  unfold f_X11_canComment_145
  refine sim_iconst (0) dX11_canComment_145 (by decide +kernel) ?_
  exact sim_lv (am_leS (am_leN (am_leN (am_leN (am_leN (am_leS am_leT)))))) (t_X11_canComment_146 d (by omega) _ hrc120 _ _ _ _)
def f_X11_canComment_120  : Nat → Nat × Nat → Int32 → Int32 → am_H → am_R
  | 0, _, _, _, _ => none
  | n + 1, a0, x4, x5, h => if x5 = (-1 : Int32) then (m_rz h x4) else (if x4 = 0 then (f_X11_canComment_145 (f_X11_canComment_120  n) a0 x5 h) else (m_gR (some a0) 11 41 h fun o20 => m_aI o20 1 x5 h fun v21 => if v21 = 0 then (f_X11_canComment_146 (f_X11_canComment_120  n) a0 x5 (1 : Int32) h) else (f_X11_canComment_145 (f_X11_canComment_120  n) a0 x5 h)))
theorem t_X11_canComment_120 (d : Nat) (hd : 4 ≤ d)  : ∀ (n : Nat) (a0 : Nat × Nat) (x4 : Int32) (x5 : Int32) (h : am_H), Sim m_X11_canComment d 120 [some (.inr (.inr (some a0))), none, none, none, some (.inl x4), some (.inl x5)] [] h (f_X11_canComment_120  n a0 x4 x5 h) := by
  intro n
  induction n with
  | zero => intros; exact sim_none
  | succ n hrc120 =>
    intro a0 x4 x5 h
    rw [f_X11_canComment_120]
    refine sim_iload dX11_canComment_120 rfl ?_
    refine sim_iconst (-1) dX11_canComment_122 (by decide +kernel) ?_
    refine sim_ic_eq 160 dX11_canComment_123 (by decide) (fun c => ?_) (fun c => ?_)
    · refine sim_iload dX11_canComment_160 rfl ?_
      exact sim_zret dX11_canComment_162 rfl
    · refine sim_iload dX11_canComment_126 rfl ?_
      refine sim_if_eq 145 dX11_canComment_128 (by decide) (fun c => ?_) (fun c => ?_)
      · exact sim_lv (am_leS (am_leN (am_leN (am_leN (am_leN (am_leS am_leT)))))) (t_X11_canComment_145 d (by omega) _ hrc120 _ _ _)
      · refine sim_aload_n dX11_canComment_131 rfl ?_
        refine sim_gR 11 41 dX11_canComment_132 rfl wf_RX11_107 (Nat.le_of_ble_eq_true rfl) rfl (fun o20 => ?_)
        refine sim_iload dX11_canComment_135 rfl ?_
        refine sim_aZ dX11_canComment_137 (fun v21 => ?_)
        refine sim_if_ne 145 dX11_canComment_138 (by decide) (fun c => ?_) (fun c => ?_)
        · exact sim_lv (am_leS (am_leN (am_leN (am_leN (am_leN (am_leS am_leT)))))) (t_X11_canComment_145 d (by omega) _ hrc120 _ _ _)
        · refine sim_iconst (1) dX11_canComment_141 (by decide +kernel) ?_
          refine sim_goto 146 dX11_canComment_142 (by decide) ?_
          exact sim_lv (am_leS (am_leN (am_leN (am_leN (am_leN (am_leS am_leT)))))) (t_X11_canComment_146 d (by omega) _ hrc120 _ _ _ _)
def f_X11_canComment_115  (a0 : Nat × Nat) (x3 : Int32) (s0 : Int32) (h : am_H) : am_R := f_X11_canComment_120 5000 a0 s0 x3 h
theorem t_X11_canComment_115 (d : Nat) (hd : 4 ≤ d)  (a0 : Nat × Nat) (x3 : Int32) (s0 : Int32) (h : am_H) : Sim m_X11_canComment d 115 [some (.inr (.inr (some a0))), none, none, some (.inl x3), none, none] [.inl s0] h (f_X11_canComment_115  a0 x3 s0 h) := by
  unfold f_X11_canComment_115
  refine sim_istore dX11_canComment_115 (Nat.le_of_ble_eq_true rfl) ?_
  refine sim_iload_n dX11_canComment_117 rfl ?_
  refine sim_istore dX11_canComment_118 (Nat.le_of_ble_eq_true rfl) ?_
  exact sim_lv (am_leS (am_leN (am_leN (am_leN (am_leS (am_leS am_leT)))))) (t_X11_canComment_120 d (by omega) _ _ _ _ _)
def f_X11_canComment_114  (a0 : Nat × Nat) (x3 : Int32) (h : am_H) : am_R := f_X11_canComment_115 a0 x3 (0 : Int32) h
theorem t_X11_canComment_114 (d : Nat) (hd : 4 ≤ d)  (a0 : Nat × Nat) (x3 : Int32) (h : am_H) : Sim m_X11_canComment d 114 [some (.inr (.inr (some a0))), none, none, some (.inl x3), none, none] [] h (f_X11_canComment_114  a0 x3 h) := by
  unfold f_X11_canComment_114
  refine sim_iconst (0) dX11_canComment_114 (by decide +kernel) ?_
  exact sim_lv (am_leS (am_leN (am_leN (am_leS (am_leN (am_leN am_leT)))))) (t_X11_canComment_115 d (by omega) _ _ _ _)
def f_X11_canComment_110  (a0 : Nat × Nat) (x3 : Int32) (h : am_H) : am_R := f_X11_canComment_115 a0 x3 (1 : Int32) h
theorem t_X11_canComment_110 (d : Nat) (hd : 4 ≤ d)  (a0 : Nat × Nat) (x3 : Int32) (h : am_H) : Sim m_X11_canComment d 110 [some (.inr (.inr (some a0))), none, none, some (.inl x3), none, none] [] h (f_X11_canComment_110  a0 x3 h) := by
  unfold f_X11_canComment_110
  refine sim_iconst (1) dX11_canComment_110 (by decide +kernel) ?_
  refine sim_goto 115 dX11_canComment_111 (by decide) ?_
  exact sim_lv (am_leS (am_leN (am_leN (am_leS (am_leN (am_leN am_leT)))))) (t_X11_canComment_115 d (by omega) _ _ _ _)
def f_X11_canComment_69 (rc28 : Nat × Nat → Int32 → Int32 → Int32 → Int32 → Int32 → am_H → am_R) (a0 : Nat × Nat) (x1 : Int32) (x2 : Int32) (x3 : Int32) (x5 : Int32) (s0 : Int32) (h : am_H) : am_R := rc28 a0 x1 x2 x3 s0 (x5 + 1) h
theorem t_X11_canComment_69 (d : Nat) (hd : 4 ≤ d) (rc28 : Nat × Nat → Int32 → Int32 → Int32 → Int32 → Int32 → am_H → am_R) (hrc28 : ∀ a0 x1 x2 x3 x4 x5 h, Sim m_X11_canComment d 28 [some (.inr (.inr (some a0))), some (.inl x1), some (.inl x2), some (.inl x3), some (.inl x4), some (.inl x5)] [] h (rc28 a0 x1 x2 x3 x4 x5 h)) (a0 : Nat × Nat) (x1 : Int32) (x2 : Int32) (x3 : Int32) (x5 : Int32) (s0 : Int32) (h : am_H) : Sim m_X11_canComment d 69 [some (.inr (.inr (some a0))), some (.inl x1), some (.inl x2), some (.inl x3), none, some (.inl x5)] [.inl s0] h (f_X11_canComment_69 rc28 a0 x1 x2 x3 x5 s0 h) := by
  unfold f_X11_canComment_69
  refine sim_istore dX11_canComment_69 (Nat.le_of_ble_eq_true rfl) ?_
  refine sim_iinc (1) dX11_canComment_71 rfl (by decide +kernel) (Nat.le_of_ble_eq_true rfl) ?_
  refine sim_goto 28 dX11_canComment_74 (by decide) ?_
  exact sim_lv (am_leS (am_leS (am_leS (am_leS (am_leS (am_leS am_leT)))))) (hrc28 _ _ _ _ _ _ _)
def f_X11_canComment_68 (rc28 : Nat × Nat → Int32 → Int32 → Int32 → Int32 → Int32 → am_H → am_R) (a0 : Nat × Nat) (x1 : Int32) (x2 : Int32) (x3 : Int32) (x5 : Int32) (h : am_H) : am_R := f_X11_canComment_69 rc28 a0 x1 x2 x3 x5 (0 : Int32) h
theorem t_X11_canComment_68 (d : Nat) (hd : 4 ≤ d) (rc28 : Nat × Nat → Int32 → Int32 → Int32 → Int32 → Int32 → am_H → am_R) (hrc28 : ∀ a0 x1 x2 x3 x4 x5 h, Sim m_X11_canComment d 28 [some (.inr (.inr (some a0))), some (.inl x1), some (.inl x2), some (.inl x3), some (.inl x4), some (.inl x5)] [] h (rc28 a0 x1 x2 x3 x4 x5 h)) (a0 : Nat × Nat) (x1 : Int32) (x2 : Int32) (x3 : Int32) (x5 : Int32) (h : am_H) : Sim m_X11_canComment d 68 [some (.inr (.inr (some a0))), some (.inl x1), some (.inl x2), some (.inl x3), none, some (.inl x5)] [] h (f_X11_canComment_68 rc28 a0 x1 x2 x3 x5 h) := by
  unfold f_X11_canComment_68
  refine sim_iconst (0) dX11_canComment_68 (by decide +kernel) ?_
  exact sim_lv (am_leS (am_leS (am_leS (am_leS (am_leN (am_leS am_leT)))))) (t_X11_canComment_69 d (by omega) _ hrc28 _ _ _ _ _ _ _)
def f_X11_canComment_64 (rc28 : Nat × Nat → Int32 → Int32 → Int32 → Int32 → Int32 → am_H → am_R) (a0 : Nat × Nat) (x1 : Int32) (x2 : Int32) (x3 : Int32) (x5 : Int32) (h : am_H) : am_R := f_X11_canComment_69 rc28 a0 x1 x2 x3 x5 (1 : Int32) h
theorem t_X11_canComment_64 (d : Nat) (hd : 4 ≤ d) (rc28 : Nat × Nat → Int32 → Int32 → Int32 → Int32 → Int32 → am_H → am_R) (hrc28 : ∀ a0 x1 x2 x3 x4 x5 h, Sim m_X11_canComment d 28 [some (.inr (.inr (some a0))), some (.inl x1), some (.inl x2), some (.inl x3), some (.inl x4), some (.inl x5)] [] h (rc28 a0 x1 x2 x3 x4 x5 h)) (a0 : Nat × Nat) (x1 : Int32) (x2 : Int32) (x3 : Int32) (x5 : Int32) (h : am_H) : Sim m_X11_canComment d 64 [some (.inr (.inr (some a0))), some (.inl x1), some (.inl x2), some (.inl x3), none, some (.inl x5)] [] h (f_X11_canComment_64 rc28 a0 x1 x2 x3 x5 h) := by
  unfold f_X11_canComment_64
  refine sim_iconst (1) dX11_canComment_64 (by decide +kernel) ?_
  refine sim_goto 69 dX11_canComment_65 (by decide) ?_
  exact sim_lv (am_leS (am_leS (am_leS (am_leS (am_leN (am_leS am_leT)))))) (t_X11_canComment_69 d (by omega) _ hrc28 _ _ _ _ _ _ _)
def f_X11_canComment_28  : Nat → Nat × Nat → Int32 → Int32 → Int32 → Int32 → Int32 → am_H → am_R
  | 0, _, _, _, _, _, _, _ => none
  | n + 1, a0, x1, x2, x3, x4, x5, h => if (12 : Int32) ≤ x5 then (if x4 = 0 then (f_X11_canComment_114 a0 x3 h) else (if x3 = (-1 : Int32) then (f_X11_canComment_110 a0 x3 h) else (m_ao (some a0) 11 fun a7 => m_bI (f_X11_isRead a7 x3 x2 h) fun h5 v6 => if v6 = 0 then (f_X11_canComment_114 a0 x3 h5) else (m_gR (some a0) 11 39 h5 fun o8 => m_aI o8 0 x3 h5 fun v9 => m_ao (some a0) 11 fun a12 => m_bI (f_X11_isBlocked a12 v9 x2 h5) fun h10 v11 => if v11 = 0 then (f_X11_canComment_110 a0 x3 h10) else (f_X11_canComment_114 a0 x3 h10))))) else (if x4 = 0 then (f_X11_canComment_68 (f_X11_canComment_28  n) a0 x1 x2 x3 x5 h) else (m_gR (some a0) 11 6 h fun o13 => m_aI o13 0 x1 h fun v14 => m_bI (f_X11_has v14 x5 h) fun h15 v16 => if v16 = 0 then (f_X11_canComment_64 (f_X11_canComment_28  n) a0 x1 x2 x3 x5 h15) else (m_ao (some a0) 11 fun a19 => m_bI (f_X11_isBlocked a19 x5 x2 h15) fun h17 v18 => if v18 = 0 then (f_X11_canComment_64 (f_X11_canComment_28  n) a0 x1 x2 x3 x5 h17) else (f_X11_canComment_68 (f_X11_canComment_28  n) a0 x1 x2 x3 x5 h17))))
theorem t_X11_canComment_28 (d : Nat) (hd : 4 ≤ d)  : ∀ (n : Nat) (a0 : Nat × Nat) (x1 : Int32) (x2 : Int32) (x3 : Int32) (x4 : Int32) (x5 : Int32) (h : am_H), Sim m_X11_canComment d 28 [some (.inr (.inr (some a0))), some (.inl x1), some (.inl x2), some (.inl x3), some (.inl x4), some (.inl x5)] [] h (f_X11_canComment_28  n a0 x1 x2 x3 x4 x5 h) := by
  intro n
  induction n with
  | zero => intros; exact sim_none
  | succ n hrc28 =>
    intro a0 x1 x2 x3 x4 x5 h
    rw [f_X11_canComment_28]
    refine sim_iload dX11_canComment_28 rfl ?_
    refine sim_bipush (12) dX11_canComment_30 (by decide +kernel) ?_
    refine sim_ic_ge 77 dX11_canComment_32 (by decide) (fun c => ?_) (fun c => ?_)
    · refine sim_iload dX11_canComment_77 rfl ?_
      refine sim_if_eq 114 dX11_canComment_79 (by decide) (fun c => ?_) (fun c => ?_)
      · exact sim_lv (am_leS (am_leN (am_leN (am_leS (am_leN (am_leN am_leT)))))) (t_X11_canComment_114 d (by omega) _ _ _)
      · refine sim_iload_n dX11_canComment_82 rfl ?_
        refine sim_iconst (-1) dX11_canComment_83 (by decide +kernel) ?_
        refine sim_ic_eq 110 dX11_canComment_84 (by decide) (fun c => ?_) (fun c => ?_)
        · exact sim_lv (am_leS (am_leN (am_leN (am_leS (am_leN (am_leN am_leT)))))) (t_X11_canComment_110 d (by omega) _ _ _)
        · refine sim_aload_n dX11_canComment_87 rfl ?_
          refine sim_iload_n dX11_canComment_88 rfl ?_
          refine sim_iload_n dX11_canComment_89 rfl ?_
          refine sim_ao2 (fun a7 e => ?_)
          refine sim_virt (d - 1) e dX11_canComment_90 (k_X11_isRead (d - 1) (by omega) _ _ _ _) q_X11_isRead rfl rfl wm_RX11_254 rfl rfl (by omega) (Nat.le_of_ble_eq_true rfl) am_nI (am_rI fun h5 v6 => ?_) am_eI
          refine sim_if_eq 114 dX11_canComment_93 (by decide) (fun c => ?_) (fun c => ?_)
          · exact sim_lv (am_leS (am_leN (am_leN (am_leS (am_leN (am_leN am_leT)))))) (t_X11_canComment_114 d (by omega) _ _ _)
          · refine sim_aload_n dX11_canComment_96 rfl ?_
            refine sim_aload_n dX11_canComment_97 rfl ?_
            refine sim_gR 11 39 dX11_canComment_98 rfl wf_RX11_101 (Nat.le_of_ble_eq_true rfl) rfl (fun o8 => ?_)
            refine sim_iload_n dX11_canComment_101 rfl ?_
            refine sim_aI dX11_canComment_102 (fun v9 => ?_)
            refine sim_iload_n dX11_canComment_103 rfl ?_
            refine sim_ao2 (fun a12 e => ?_)
            refine sim_virt (d - 1) e dX11_canComment_104 (k_X11_isBlocked (d - 1) (by omega) _ _ _ _) q_X11_isBlocked rfl rfl wm_RX11_251 rfl rfl (by omega) (Nat.le_of_ble_eq_true rfl) am_nI (am_rI fun h10 v11 => ?_) am_eI
            refine sim_if_ne 114 dX11_canComment_107 (by decide) (fun c => ?_) (fun c => ?_)
            · exact sim_lv (am_leS (am_leN (am_leN (am_leS (am_leN (am_leN am_leT)))))) (t_X11_canComment_114 d (by omega) _ _ _)
            · exact sim_lv (am_leS (am_leN (am_leN (am_leS (am_leN (am_leN am_leT)))))) (t_X11_canComment_110 d (by omega) _ _ _)
    · refine sim_iload dX11_canComment_35 rfl ?_
      refine sim_if_eq 68 dX11_canComment_37 (by decide) (fun c => ?_) (fun c => ?_)
      · exact sim_lv (am_leS (am_leS (am_leS (am_leS (am_leN (am_leS am_leT)))))) (t_X11_canComment_68 d (by omega) _ hrc28 _ _ _ _ _ _)
      · refine sim_aload_n dX11_canComment_40 rfl ?_
        refine sim_gR 11 6 dX11_canComment_41 rfl wf_RX11_20 (Nat.le_of_ble_eq_true rfl) rfl (fun o13 => ?_)
        refine sim_iload_n dX11_canComment_44 rfl ?_
        refine sim_aI dX11_canComment_45 (fun v14 => ?_)
        refine sim_iload dX11_canComment_46 rfl ?_
        refine sim_static (d - 1) dX11_canComment_48 (k_X11_has (d - 1) (by omega) _ _ _) q_X11_has wm_RX11_155 rfl rfl (by omega) (Nat.le_of_ble_eq_true rfl) am_nI (am_rI fun h15 v16 => ?_) am_eI
        refine sim_if_eq 64 dX11_canComment_51 (by decide) (fun c => ?_) (fun c => ?_)
        · exact sim_lv (am_leS (am_leS (am_leS (am_leS (am_leN (am_leS am_leT)))))) (t_X11_canComment_64 d (by omega) _ hrc28 _ _ _ _ _ _)
        · refine sim_aload_n dX11_canComment_54 rfl ?_
          refine sim_iload dX11_canComment_55 rfl ?_
          refine sim_iload_n dX11_canComment_57 rfl ?_
          refine sim_ao2 (fun a19 e => ?_)
          refine sim_virt (d - 1) e dX11_canComment_58 (k_X11_isBlocked (d - 1) (by omega) _ _ _ _) q_X11_isBlocked rfl rfl wm_RX11_251 rfl rfl (by omega) (Nat.le_of_ble_eq_true rfl) am_nI (am_rI fun h17 v18 => ?_) am_eI
          refine sim_if_ne 68 dX11_canComment_61 (by decide) (fun c => ?_) (fun c => ?_)
          · exact sim_lv (am_leS (am_leS (am_leS (am_leS (am_leN (am_leS am_leT)))))) (t_X11_canComment_68 d (by omega) _ hrc28 _ _ _ _ _ _)
          · exact sim_lv (am_leS (am_leS (am_leS (am_leS (am_leN (am_leS am_leT)))))) (t_X11_canComment_64 d (by omega) _ hrc28 _ _ _ _ _ _)
def f_X11_canComment_23  (a0 : Nat × Nat) (x1 : Int32) (x2 : Int32) (x3 : Int32) (s0 : Int32) (h : am_H) : am_R := f_X11_canComment_28 5000 a0 x1 x2 x3 s0 (0 : Int32) h
theorem t_X11_canComment_23 (d : Nat) (hd : 4 ≤ d)  (a0 : Nat × Nat) (x1 : Int32) (x2 : Int32) (x3 : Int32) (s0 : Int32) (h : am_H) : Sim m_X11_canComment d 23 [some (.inr (.inr (some a0))), some (.inl x1), some (.inl x2), some (.inl x3), none, none] [.inl s0] h (f_X11_canComment_23  a0 x1 x2 x3 s0 h) := by
  unfold f_X11_canComment_23
  refine sim_istore dX11_canComment_23 (Nat.le_of_ble_eq_true rfl) ?_
  refine sim_iconst (0) dX11_canComment_25 (by decide +kernel) ?_
  refine sim_istore dX11_canComment_26 (Nat.le_of_ble_eq_true rfl) ?_
  exact sim_lv (am_leS (am_leS (am_leS (am_leS (am_leS (am_leS am_leT)))))) (t_X11_canComment_28 d (by omega) _ _ _ _ _ _ _ _)
def f_X11_canComment_22  (a0 : Nat × Nat) (x1 : Int32) (x2 : Int32) (x3 : Int32) (h : am_H) : am_R := f_X11_canComment_23 a0 x1 x2 x3 (0 : Int32) h
theorem t_X11_canComment_22 (d : Nat) (hd : 4 ≤ d)  (a0 : Nat × Nat) (x1 : Int32) (x2 : Int32) (x3 : Int32) (h : am_H) : Sim m_X11_canComment d 22 [some (.inr (.inr (some a0))), some (.inl x1), some (.inl x2), some (.inl x3), none, none] [] h (f_X11_canComment_22  a0 x1 x2 x3 h) := by
  unfold f_X11_canComment_22
  refine sim_iconst (0) dX11_canComment_22 (by decide +kernel) ?_
  exact sim_lv (am_leS (am_leS (am_leS (am_leS (am_leN (am_leN am_leT)))))) (t_X11_canComment_23 d (by omega) _ _ _ _ _ _)
def f_X11_canComment (a0 : Nat × Nat) (x1 : Int32) (x2 : Int32) (x3 : Int32) (h : am_H) : am_R := m_gI (some a0) 11 37 h fun v1 => if (60 : Int32) ≤ v1 then (f_X11_canComment_22 a0 x1 x2 x3 h) else (m_ao (some a0) 11 fun a4 => m_bI (f_X11_isSeen a4 x2 x1 h) fun h2 v3 => if v3 = 0 then (f_X11_canComment_22 a0 x1 x2 x3 h2) else (f_X11_canComment_23 a0 x1 x2 x3 (1 : Int32) h2))
theorem k_X11_canComment (d : Nat) (hd : 4 ≤ d) (a0 : Nat × Nat) (x1 : Int32) (x2 : Int32) (x3 : Int32) (h : am_H) : am_Con m_X11_canComment d [.inr (.inr (some a0)), .inl x1, .inl x2, .inl x3] h (f_X11_canComment a0 x1 x2 x3 h) := am_con (by decide +kernel) (Nat.le_of_ble_eq_true rfl) (by
  unfold f_X11_canComment
  refine sim_aload_n dX11_canComment_0 rfl ?_
  refine sim_gI 11 37 dX11_canComment_1 rfl wf_RX11_248 (Nat.le_of_ble_eq_true rfl) rfl (fun v1 => ?_)
  refine sim_bipush (60) dX11_canComment_4 (by decide +kernel) ?_
  refine sim_ic_ge 22 dX11_canComment_6 (by decide) (fun c => ?_) (fun c => ?_)
  · exact sim_lv (am_leS (am_leS (am_leS (am_leS (am_leN (am_leN am_leT)))))) (t_X11_canComment_22 d (by omega) _ _ _ _ _)
  · refine sim_aload_n dX11_canComment_9 rfl ?_
    refine sim_iload_n dX11_canComment_10 rfl ?_
    refine sim_iload_n dX11_canComment_11 rfl ?_
    refine sim_ao2 (fun a4 e => ?_)
    refine sim_virt (d - 1) e dX11_canComment_12 (k_X11_isSeen (d - 1) (by omega) _ _ _ _) q_X11_isSeen rfl rfl wm_RX11_169 rfl rfl (by omega) (Nat.le_of_ble_eq_true rfl) am_nI (am_rI fun h2 v3 => ?_) am_eI
    refine sim_if_eq 22 dX11_canComment_15 (by decide) (fun c => ?_) (fun c => ?_)
    · exact sim_lv (am_leS (am_leS (am_leS (am_leS (am_leN (am_leN am_leT)))))) (t_X11_canComment_22 d (by omega) _ _ _ _ _)
    · refine sim_iconst (1) dX11_canComment_18 (by decide +kernel) ?_
      refine sim_goto 23 dX11_canComment_19 (by decide) ?_
      exact sim_lv (am_leS (am_leS (am_leS (am_leS (am_leN (am_leN am_leT)))))) (t_X11_canComment_23 d (by omega) _ _ _ _ _ _))
theorem q_X11_canComment : am_Cal m_X11_canComment 3 2 := ⟨am_mem 1488 (w := Cond.code yX11_canComment cX11_canComment 6 (some .boolean)) (by decide +kernel) rfl, am_mem 64 (w := Cond.initialized RX11) (by decide +kernel) rfl, fun z => absurd z (by decide), fun _ => am_mem 1487 (w := Cond.instanceMethod yX11_canComment) (by decide +kernel) rfl, fun z => absurd z (by decide), fun _ => am_mem 50 (w := Cond.selects RX11 yX11_canComment yX11_canComment) (by decide +kernel) rfl, by decide +kernel, by decide +kernel, Nat.le_of_ble_eq_true rfl⟩
abbrev m_X11_isFace : am_M := (yX11_isFace, cX11_isFace, 1, some .boolean, [])
def f_X11_isFace (x0 : Int32) (h : am_H) : am_R := m_bI (f_X11_in x0 (0 : Int32) (31 : Int32) h) fun h1 v2 => m_rz h1 v2
theorem k_X11_isFace (d : Nat) (hd : 1 ≤ d) (x0 : Int32) (h : am_H) : am_Con m_X11_isFace d [.inl x0] h (f_X11_isFace x0 h) := am_con (by decide +kernel) (Nat.le_of_ble_eq_true rfl) (by
  unfold f_X11_isFace
  refine sim_iload_n dX11_isFace_0 rfl ?_
  refine sim_iconst (0) dX11_isFace_1 (by decide +kernel) ?_
  refine sim_bipush (31) dX11_isFace_2 (by decide +kernel) ?_
  refine sim_static (d - 1) dX11_isFace_4 (k_X11_in (d - 1) (by omega) _ _ _ _) q_X11_in wm_RX11_129 rfl rfl (by omega) (Nat.le_of_ble_eq_true rfl) am_nI (am_rI fun h1 v2 => ?_) am_eI
  exact sim_zret dX11_isFace_7 rfl)
theorem q_X11_isFace : am_Cal m_X11_isFace 1 0 := ⟨am_mem 1272 (w := Cond.code yX11_isFace cX11_isFace 1 (some .boolean)) (by decide +kernel) rfl, am_mem 64 (w := Cond.initialized RX11) (by decide +kernel) rfl, fun _ => am_mem 1271 (w := Cond.static yX11_isFace) (by decide +kernel) rfl, fun z => absurd rfl z, fun z => absurd z (by decide), fun z => absurd z (by decide), by decide +kernel, by decide +kernel, Nat.le_of_ble_eq_true rfl⟩
abbrev m_X11_comment : am_M := (yX11_comment, cX11_comment, 6, some .int, [])
def f_X11_comment_171  (a0 : Nat × Nat) (s0 : Int32) (s1 : Int32) (s2 : Option (Nat × Nat)) (h : am_H) : am_R := m_sZ s2 s1 s0 h fun h33 => m_gI (some a0) 11 37 h33 fun v34 => m_pI (some a0) 11 37 (v34 + (1 : Int32)) h33 fun h35 => m_gI (some a0) 11 37 h35 fun v36 => m_ri h35 (v36 - (1 : Int32))
theorem t_X11_comment_171 (d : Nat) (hd : 5 ≤ d)  (a0 : Nat × Nat) (s0 : Int32) (s1 : Int32) (s2 : Option (Nat × Nat)) (h : am_H) : Sim m_X11_comment d 171 [some (.inr (.inr (some a0))), none, none, none, none, none] [.inl s0, .inl s1, .inr (.inr s2)] h (f_X11_comment_171  a0 s0 s1 s2 h) := by
  unfold f_X11_comment_171
  refine sim_sZ dX11_comment_171 (fun h33 => ?_)
  refine sim_aload_n dX11_comment_172 rfl ?_
  refine sim_dup_r dX11_comment_173 ?_
  refine sim_gI 11 37 dX11_comment_174 rfl wf_RX11_248 (Nat.le_of_ble_eq_true rfl) rfl (fun v34 => ?_)
  refine sim_iconst (1) dX11_comment_177 (by decide +kernel) ?_
  refine sim_iadd dX11_comment_178 ?_
  refine sim_pI 11 37 dX11_comment_179 rfl wf_RX11_248 (Nat.le_of_ble_eq_true rfl) rfl (Or.inl rfl) rfl (fun h35 => ?_)
  refine sim_aload_n dX11_comment_182 rfl ?_
  refine sim_gI 11 37 dX11_comment_183 rfl wf_RX11_248 (Nat.le_of_ble_eq_true rfl) rfl (fun v36 => ?_)
  refine sim_iconst (1) dX11_comment_186 (by decide +kernel) ?_
  refine sim_isub dX11_comment_187 ?_
  exact sim_iret dX11_comment_188 rfl
def f_X11_comment_170  (a0 : Nat × Nat) (s0 : Int32) (s1 : Option (Nat × Nat)) (h : am_H) : am_R := f_X11_comment_171 a0 (0 : Int32) s0 s1 h
theorem t_X11_comment_170 (d : Nat) (hd : 5 ≤ d)  (a0 : Nat × Nat) (s0 : Int32) (s1 : Option (Nat × Nat)) (h : am_H) : Sim m_X11_comment d 170 [some (.inr (.inr (some a0))), none, none, none, none, none] [.inl s0, .inr (.inr s1)] h (f_X11_comment_170  a0 s0 s1 h) := by
  unfold f_X11_comment_170
  refine sim_iconst (0) dX11_comment_170 (by decide +kernel) ?_
  exact sim_lv (am_leS (am_leN (am_leN (am_leN (am_leN (am_leN am_leT)))))) (t_X11_comment_171 d (by omega) _ _ _ _ _)
def f_X11_comment_102  (a0 : Nat × Nat) (x1 : Int32) (x2 : Int32) (x3 : Int32) (s0 : Int32) (s1 : Option (Nat × Nat)) (h : am_H) : am_R := m_ao s1 11 fun a16 => m_bI (f_X11_holds a16 s0 h) fun h14 v15 => if v15 = 0 then (m_ri h14 (0 : Int32)) else (m_gR (some a0) 11 38 h14 fun o17 => m_gI (some a0) 11 37 h14 fun v18 => m_sI o17 v18 x1 h14 fun h19 => m_gR (some a0) 11 39 h19 fun o20 => m_gI (some a0) 11 37 h19 fun v21 => m_sI o20 v21 x2 h19 fun h22 => m_gR (some a0) 11 40 h22 fun o23 => m_gI (some a0) 11 37 h22 fun v24 => m_sI o23 v24 x3 h22 fun h25 => m_gR (some a0) 11 42 h25 fun o26 => m_gI (some a0) 11 37 h25 fun v27 => m_gR (some a0) 11 15 h25 fun o28 => m_aI o28 1 x1 h25 fun v29 => if v29 = 0 then (f_X11_comment_170 a0 v27 o26 h25) else (m_ao (some a0) 11 fun a32 => m_bI (f_X11_isOwner a32 x2 x1 h25) fun h30 v31 => if v31 = 0 then (f_X11_comment_171 a0 (1 : Int32) v27 o26 h30) else (f_X11_comment_170 a0 v27 o26 h30)))
theorem t_X11_comment_102 (d : Nat) (hd : 5 ≤ d)  (a0 : Nat × Nat) (x1 : Int32) (x2 : Int32) (x3 : Int32) (s0 : Int32) (s1 : Option (Nat × Nat)) (h : am_H) : Sim m_X11_comment d 102 [some (.inr (.inr (some a0))), some (.inl x1), some (.inl x2), some (.inl x3), none, none] [.inl s0, .inr (.inr s1)] h (f_X11_comment_102  a0 x1 x2 x3 s0 s1 h) := by
  unfold f_X11_comment_102
  refine sim_ao1 (fun a16 e => ?_)
  refine sim_virt (d - 1) e dX11_comment_102 (k_X11_holds (d - 1) (by omega) _ _ _) q_X11_holds rfl rfl wm_RX11_142 rfl rfl (by omega) (Nat.le_of_ble_eq_true rfl) am_nI (am_rI fun h14 v15 => ?_) am_eI
  refine sim_if_ne 110 dX11_comment_105 (by decide) (fun c => ?_) (fun c => ?_)
  · refine sim_aload_n dX11_comment_110 rfl ?_
    refine sim_gR 11 38 dX11_comment_111 rfl wf_RX11_98 (Nat.le_of_ble_eq_true rfl) rfl (fun o17 => ?_)
    refine sim_aload_n dX11_comment_114 rfl ?_
    refine sim_gI 11 37 dX11_comment_115 rfl wf_RX11_248 (Nat.le_of_ble_eq_true rfl) rfl (fun v18 => ?_)
    refine sim_iload_n dX11_comment_118 rfl ?_
    refine sim_sI dX11_comment_119 (fun h19 => ?_)
    refine sim_aload_n dX11_comment_120 rfl ?_
    refine sim_gR 11 39 dX11_comment_121 rfl wf_RX11_101 (Nat.le_of_ble_eq_true rfl) rfl (fun o20 => ?_)
    refine sim_aload_n dX11_comment_124 rfl ?_
    refine sim_gI 11 37 dX11_comment_125 rfl wf_RX11_248 (Nat.le_of_ble_eq_true rfl) rfl (fun v21 => ?_)
    refine sim_iload_n dX11_comment_128 rfl ?_
    refine sim_sI dX11_comment_129 (fun h22 => ?_)
    refine sim_aload_n dX11_comment_130 rfl ?_
    refine sim_gR 11 40 dX11_comment_131 rfl wf_RX11_104 (Nat.le_of_ble_eq_true rfl) rfl (fun o23 => ?_)
    refine sim_aload_n dX11_comment_134 rfl ?_
    refine sim_gI 11 37 dX11_comment_135 rfl wf_RX11_248 (Nat.le_of_ble_eq_true rfl) rfl (fun v24 => ?_)
    refine sim_iload_n dX11_comment_138 rfl ?_
    refine sim_sI dX11_comment_139 (fun h25 => ?_)
    refine sim_aload_n dX11_comment_140 rfl ?_
    refine sim_gR 11 42 dX11_comment_141 rfl wf_RX11_110 (Nat.le_of_ble_eq_true rfl) rfl (fun o26 => ?_)
    refine sim_aload_n dX11_comment_144 rfl ?_
    refine sim_gI 11 37 dX11_comment_145 rfl wf_RX11_248 (Nat.le_of_ble_eq_true rfl) rfl (fun v27 => ?_)
    refine sim_aload_n dX11_comment_148 rfl ?_
    refine sim_gR 11 15 dX11_comment_149 rfl wf_RX11_47 (Nat.le_of_ble_eq_true rfl) rfl (fun o28 => ?_)
    refine sim_iload_n dX11_comment_152 rfl ?_
    refine sim_aZ dX11_comment_153 (fun v29 => ?_)
    refine sim_if_eq 170 dX11_comment_154 (by decide) (fun c => ?_) (fun c => ?_)
    · exact sim_lv (am_leS (am_leN (am_leN (am_leN (am_leN (am_leN am_leT)))))) (t_X11_comment_170 d (by omega) _ _ _ _)
    · refine sim_aload_n dX11_comment_157 rfl ?_
      refine sim_iload_n dX11_comment_158 rfl ?_
      refine sim_iload_n dX11_comment_159 rfl ?_
      refine sim_ao2 (fun a32 e => ?_)
      refine sim_virt (d - 1) e dX11_comment_160 (k_X11_isOwner (d - 1) (by omega) _ _ _ _) q_X11_isOwner rfl rfl wm_RX11_166 rfl rfl (by omega) (Nat.le_of_ble_eq_true rfl) am_nI (am_rI fun h30 v31 => ?_) am_eI
      refine sim_if_ne 170 dX11_comment_163 (by decide) (fun c => ?_) (fun c => ?_)
      · exact sim_lv (am_leS (am_leN (am_leN (am_leN (am_leN (am_leN am_leT)))))) (t_X11_comment_170 d (by omega) _ _ _ _)
      · refine sim_iconst (1) dX11_comment_166 (by decide +kernel) ?_
        refine sim_goto 171 dX11_comment_167 (by decide) ?_
        exact sim_lv (am_leS (am_leN (am_leN (am_leN (am_leN (am_leN am_leT)))))) (t_X11_comment_171 d (by omega) _ _ _ _ _)
  · refine sim_iconst (0) dX11_comment_108 (by decide +kernel) ?_
    exact sim_iret dX11_comment_109 rfl
def f_X11_comment_66  (a0 : Nat × Nat) (x1 : Int32) (x2 : Int32) (x3 : Int32) (x4 : Int32) (s0 : Int32) (h : am_H) : am_R := if x4 = 0 then (f_X11_comment_102 a0 x1 x2 x3 (1 : Int32) (some a0) h) else (if s0 = 0 then (f_X11_comment_102 a0 x1 x2 x3 (2 : Int32) (some a0) h) else (m_ao (some a0) 11 fun a13 => m_bI (f_X11_canComment a13 x1 x2 x3 h) fun h11 v12 => if v12 = 0 then (f_X11_comment_102 a0 x1 x2 x3 (3 : Int32) (some a0) h11) else (f_X11_comment_102 a0 x1 x2 x3 (0 : Int32) (some a0) h11)))
theorem t_X11_comment_66 (d : Nat) (hd : 5 ≤ d)  (a0 : Nat × Nat) (x1 : Int32) (x2 : Int32) (x3 : Int32) (x4 : Int32) (s0 : Int32) (h : am_H) : Sim m_X11_comment d 66 [some (.inr (.inr (some a0))), some (.inl x1), some (.inl x2), some (.inl x3), some (.inl x4), none] [.inl s0] h (f_X11_comment_66  a0 x1 x2 x3 x4 s0 h) := by
  unfold f_X11_comment_66
  refine sim_istore dX11_comment_66 (Nat.le_of_ble_eq_true rfl) ?_
  refine sim_aload_n dX11_comment_68 rfl ?_
  refine sim_iload dX11_comment_69 rfl ?_
  refine sim_if_ne 78 dX11_comment_71 (by decide) (fun c => ?_) (fun c => ?_)
  · refine sim_iload dX11_comment_78 rfl ?_
    refine sim_if_ne 87 dX11_comment_80 (by decide) (fun c => ?_) (fun c => ?_)
    · refine sim_aload_n dX11_comment_87 rfl ?_
      refine sim_iload_n dX11_comment_88 rfl ?_
      refine sim_iload_n dX11_comment_89 rfl ?_
      refine sim_iload_n dX11_comment_90 rfl ?_
      refine sim_ao3 (fun a13 e => ?_)
      refine sim_virt (d - 1) e dX11_comment_91 (k_X11_canComment (d - 1) (by omega) _ _ _ _ _) q_X11_canComment rfl rfl wm_RX11_257 rfl rfl (by omega) (Nat.le_of_ble_eq_true rfl) am_nI (am_rI fun h11 v12 => ?_) am_eI
      refine sim_if_eq 101 dX11_comment_94 (by decide) (fun c => ?_) (fun c => ?_)
      · refine sim_iconst (3) dX11_comment_101 (by decide +kernel) ?_
        exact sim_lv (am_leS (am_leS (am_leS (am_leS (am_leN (am_leN am_leT)))))) (t_X11_comment_102 d (by omega) _ _ _ _ _ _ _)
      · refine sim_iconst (0) dX11_comment_97 (by decide +kernel) ?_
        refine sim_goto 102 dX11_comment_98 (by decide) ?_
        exact sim_lv (am_leS (am_leS (am_leS (am_leS (am_leN (am_leN am_leT)))))) (t_X11_comment_102 d (by omega) _ _ _ _ _ _ _)
    · refine sim_iconst (2) dX11_comment_83 (by decide +kernel) ?_
      refine sim_goto 102 dX11_comment_84 (by decide) ?_
      exact sim_lv (am_leS (am_leS (am_leS (am_leS (am_leN (am_leN am_leT)))))) (t_X11_comment_102 d (by omega) _ _ _ _ _ _ _)
  · refine sim_iconst (1) dX11_comment_74 (by decide +kernel) ?_
    refine sim_goto 102 dX11_comment_75 (by decide) ?_
    exact sim_lv (am_leS (am_leS (am_leS (am_leS (am_leN (am_leN am_leT)))))) (t_X11_comment_102 d (by omega) _ _ _ _ _ _ _)
def f_X11_comment_65  (a0 : Nat × Nat) (x1 : Int32) (x2 : Int32) (x3 : Int32) (x4 : Int32) (h : am_H) : am_R := f_X11_comment_66 a0 x1 x2 x3 x4 (0 : Int32) h
theorem t_X11_comment_65 (d : Nat) (hd : 5 ≤ d)  (a0 : Nat × Nat) (x1 : Int32) (x2 : Int32) (x3 : Int32) (x4 : Int32) (h : am_H) : Sim m_X11_comment d 65 [some (.inr (.inr (some a0))), some (.inl x1), some (.inl x2), some (.inl x3), some (.inl x4), none] [] h (f_X11_comment_65  a0 x1 x2 x3 x4 h) := by
  unfold f_X11_comment_65
  refine sim_iconst (0) dX11_comment_65 (by decide +kernel) ?_
  exact sim_lv (am_leS (am_leS (am_leS (am_leS (am_leS (am_leN am_leT)))))) (t_X11_comment_66 d (by omega) _ _ _ _ _ _ _)
def f_X11_comment_61  (a0 : Nat × Nat) (x1 : Int32) (x2 : Int32) (x3 : Int32) (x4 : Int32) (h : am_H) : am_R := f_X11_comment_66 a0 x1 x2 x3 x4 (1 : Int32) h
theorem t_X11_comment_61 (d : Nat) (hd : 5 ≤ d)  (a0 : Nat × Nat) (x1 : Int32) (x2 : Int32) (x3 : Int32) (x4 : Int32) (h : am_H) : Sim m_X11_comment d 61 [some (.inr (.inr (some a0))), some (.inl x1), some (.inl x2), some (.inl x3), some (.inl x4), none] [] h (f_X11_comment_61  a0 x1 x2 x3 x4 h) := by
  unfold f_X11_comment_61
  refine sim_iconst (1) dX11_comment_61 (by decide +kernel) ?_
  refine sim_goto 66 dX11_comment_62 (by decide) ?_
  exact sim_lv (am_leS (am_leS (am_leS (am_leS (am_leS (am_leN am_leT)))))) (t_X11_comment_66 d (by omega) _ _ _ _ _ _ _)
def f_X11_comment_39  (a0 : Nat × Nat) (x1 : Int32) (x2 : Int32) (x3 : Int32) (s0 : Int32) (h : am_H) : am_R := if s0 = 0 then (f_X11_comment_65 a0 x1 x2 x3 s0 h) else (if x3 = (-1 : Int32) then (f_X11_comment_61 a0 x1 x2 x3 s0 h) else (m_gR (some a0) 11 38 h fun o9 => m_aI o9 0 x3 h fun v10 => if v10 = x1 then (f_X11_comment_61 a0 x1 x2 x3 s0 h) else (f_X11_comment_65 a0 x1 x2 x3 s0 h)))
theorem t_X11_comment_39 (d : Nat) (hd : 5 ≤ d)  (a0 : Nat × Nat) (x1 : Int32) (x2 : Int32) (x3 : Int32) (s0 : Int32) (h : am_H) : Sim m_X11_comment d 39 [some (.inr (.inr (some a0))), some (.inl x1), some (.inl x2), some (.inl x3), none, none] [.inl s0] h (f_X11_comment_39  a0 x1 x2 x3 s0 h) := by
  unfold f_X11_comment_39
  refine sim_istore dX11_comment_39 (Nat.le_of_ble_eq_true rfl) ?_
  refine sim_iload dX11_comment_41 rfl ?_
  refine sim_if_eq 65 dX11_comment_43 (by decide) (fun c => ?_) (fun c => ?_)
  · exact sim_lv (am_leS (am_leS (am_leS (am_leS (am_leS (am_leN am_leT)))))) (t_X11_comment_65 d (by omega) _ _ _ _ _ _)
  · refine sim_iload_n dX11_comment_46 rfl ?_
    refine sim_iconst (-1) dX11_comment_47 (by decide +kernel) ?_
    refine sim_ic_eq 61 dX11_comment_48 (by decide) (fun c => ?_) (fun c => ?_)
    · exact sim_lv (am_leS (am_leS (am_leS (am_leS (am_leS (am_leN am_leT)))))) (t_X11_comment_61 d (by omega) _ _ _ _ _ _)
    · refine sim_aload_n dX11_comment_51 rfl ?_
      refine sim_gR 11 38 dX11_comment_52 rfl wf_RX11_98 (Nat.le_of_ble_eq_true rfl) rfl (fun o9 => ?_)
      refine sim_iload_n dX11_comment_55 rfl ?_
      refine sim_aI dX11_comment_56 (fun v10 => ?_)
      refine sim_iload_n dX11_comment_57 rfl ?_
      refine sim_ic_ne 65 dX11_comment_58 (by decide) (fun c => ?_) (fun c => ?_)
      · exact sim_lv (am_leS (am_leS (am_leS (am_leS (am_leS (am_leN am_leT)))))) (t_X11_comment_65 d (by omega) _ _ _ _ _ _)
      · exact sim_lv (am_leS (am_leS (am_leS (am_leS (am_leS (am_leN am_leT)))))) (t_X11_comment_61 d (by omega) _ _ _ _ _ _)
def f_X11_comment_38  (a0 : Nat × Nat) (x1 : Int32) (x2 : Int32) (x3 : Int32) (h : am_H) : am_R := f_X11_comment_39 a0 x1 x2 x3 (0 : Int32) h
theorem t_X11_comment_38 (d : Nat) (hd : 5 ≤ d)  (a0 : Nat × Nat) (x1 : Int32) (x2 : Int32) (x3 : Int32) (h : am_H) : Sim m_X11_comment d 38 [some (.inr (.inr (some a0))), some (.inl x1), some (.inl x2), some (.inl x3), none, none] [] h (f_X11_comment_38  a0 x1 x2 x3 h) := by
  unfold f_X11_comment_38
  refine sim_iconst (0) dX11_comment_38 (by decide +kernel) ?_
  exact sim_lv (am_leS (am_leS (am_leS (am_leS (am_leN (am_leN am_leT)))))) (t_X11_comment_39 d (by omega) _ _ _ _ _ _)
def f_X11_comment_34  (a0 : Nat × Nat) (x1 : Int32) (x2 : Int32) (x3 : Int32) (h : am_H) : am_R := f_X11_comment_39 a0 x1 x2 x3 (1 : Int32) h
theorem t_X11_comment_34 (d : Nat) (hd : 5 ≤ d)  (a0 : Nat × Nat) (x1 : Int32) (x2 : Int32) (x3 : Int32) (h : am_H) : Sim m_X11_comment d 34 [some (.inr (.inr (some a0))), some (.inl x1), some (.inl x2), some (.inl x3), none, none] [] h (f_X11_comment_34  a0 x1 x2 x3 h) := by
  unfold f_X11_comment_34
  refine sim_iconst (1) dX11_comment_34 (by decide +kernel) ?_
  refine sim_goto 39 dX11_comment_35 (by decide) ?_
  exact sim_lv (am_leS (am_leS (am_leS (am_leS (am_leN (am_leN am_leT)))))) (t_X11_comment_39 d (by omega) _ _ _ _ _ _)
def f_X11_comment (a0 : Nat × Nat) (x1 : Int32) (x2 : Int32) (x3 : Int32) (h : am_H) : am_R := m_ao (some a0) 11 fun a3 => m_bI (f_X11_isWork a3 x1 h) fun h1 v2 => if v2 = 0 then (f_X11_comment_38 a0 x1 x2 x3 h1) else (m_bI (f_X11_isFace x2 h1) fun h4 v5 => if v5 = 0 then (f_X11_comment_38 a0 x1 x2 x3 h4) else (if x3 = (-1 : Int32) then (f_X11_comment_34 a0 x1 x2 x3 h4) else (m_gI (some a0) 11 37 h4 fun v6 => m_bI (f_X11_in x3 (0 : Int32) (v6 - (1 : Int32)) h4) fun h7 v8 => if v8 = 0 then (f_X11_comment_38 a0 x1 x2 x3 h7) else (f_X11_comment_34 a0 x1 x2 x3 h7))))
theorem k_X11_comment (d : Nat) (hd : 5 ≤ d) (a0 : Nat × Nat) (x1 : Int32) (x2 : Int32) (x3 : Int32) (h : am_H) : am_Con m_X11_comment d [.inr (.inr (some a0)), .inl x1, .inl x2, .inl x3] h (f_X11_comment a0 x1 x2 x3 h) := am_con (by decide +kernel) (Nat.le_of_ble_eq_true rfl) (by
  unfold f_X11_comment
  refine sim_aload_n dX11_comment_0 rfl ?_
  refine sim_iload_n dX11_comment_1 rfl ?_
  refine sim_ao1 (fun a3 e => ?_)
  refine sim_virt (d - 1) e dX11_comment_2 (k_X11_isWork (d - 1) (by omega) _ _ _) q_X11_isWork rfl rfl wm_RX11_152 rfl rfl (by omega) (Nat.le_of_ble_eq_true rfl) am_nI (am_rI fun h1 v2 => ?_) am_eI
  refine sim_if_eq 38 dX11_comment_5 (by decide) (fun c => ?_) (fun c => ?_)
  · exact sim_lv (am_leS (am_leS (am_leS (am_leS (am_leN (am_leN am_leT)))))) (t_X11_comment_38 d (by omega) _ _ _ _ _)
  · refine sim_iload_n dX11_comment_8 rfl ?_
    refine sim_static (d - 1) dX11_comment_9 (k_X11_isFace (d - 1) (by omega) _ _) q_X11_isFace wm_RX11_149 rfl rfl (by omega) (Nat.le_of_ble_eq_true rfl) am_nI (am_rI fun h4 v5 => ?_) am_eI
    refine sim_if_eq 38 dX11_comment_12 (by decide) (fun c => ?_) (fun c => ?_)
    · exact sim_lv (am_leS (am_leS (am_leS (am_leS (am_leN (am_leN am_leT)))))) (t_X11_comment_38 d (by omega) _ _ _ _ _)
    · refine sim_iload_n dX11_comment_15 rfl ?_
      refine sim_iconst (-1) dX11_comment_16 (by decide +kernel) ?_
      refine sim_ic_eq 34 dX11_comment_17 (by decide) (fun c => ?_) (fun c => ?_)
      · exact sim_lv (am_leS (am_leS (am_leS (am_leS (am_leN (am_leN am_leT)))))) (t_X11_comment_34 d (by omega) _ _ _ _ _)
      · refine sim_iload_n dX11_comment_20 rfl ?_
        refine sim_iconst (0) dX11_comment_21 (by decide +kernel) ?_
        refine sim_aload_n dX11_comment_22 rfl ?_
        refine sim_gI 11 37 dX11_comment_23 rfl wf_RX11_248 (Nat.le_of_ble_eq_true rfl) rfl (fun v6 => ?_)
        refine sim_iconst (1) dX11_comment_26 (by decide +kernel) ?_
        refine sim_isub dX11_comment_27 ?_
        refine sim_static (d - 1) dX11_comment_28 (k_X11_in (d - 1) (by omega) _ _ _ _) q_X11_in wm_RX11_129 rfl rfl (by omega) (Nat.le_of_ble_eq_true rfl) am_nI (am_rI fun h7 v8 => ?_) am_eI
        refine sim_if_eq 38 dX11_comment_31 (by decide) (fun c => ?_) (fun c => ?_)
        · exact sim_lv (am_leS (am_leS (am_leS (am_leS (am_leN (am_leN am_leT)))))) (t_X11_comment_38 d (by omega) _ _ _ _ _)
        · exact sim_lv (am_leS (am_leS (am_leS (am_leS (am_leN (am_leN am_leT)))))) (t_X11_comment_34 d (by omega) _ _ _ _ _))
theorem q_X11_comment : am_Cal m_X11_comment 3 2 := ⟨am_mem 1484 (w := Cond.code yX11_comment cX11_comment 6 (some .int)) (by decide +kernel) rfl, am_mem 64 (w := Cond.initialized RX11) (by decide +kernel) rfl, fun z => absurd z (by decide), fun _ => am_mem 1482 (w := Cond.instanceMethod yX11_comment) (by decide +kernel) rfl, fun z => absurd z (by decide), fun _ => am_mem 1483 (w := Cond.selects RX11 yX11_comment yX11_comment) (by decide +kernel) rfl, by decide +kernel, by decide +kernel, Nat.le_of_ble_eq_true rfl⟩
abbrev m_X11_areTold : am_M := (yX11_areTold, cX11_areTold, 4, some .boolean, [])
def f_X11_areTold_61  (s0 : Int32) (h : am_H) : am_R := m_rz h s0
theorem t_X11_areTold_61 (d : Nat) (hd : 3 ≤ d)  (s0 : Int32) (h : am_H) : Sim m_X11_areTold d 61 [none, none, none, none] [.inl s0] h (f_X11_areTold_61  s0 h) := by
  unfold f_X11_areTold_61
  exact sim_zret dX11_areTold_61 rfl
def f_X11_areTold_60   (h : am_H) : am_R := f_X11_areTold_61 (0 : Int32) h
theorem t_X11_areTold_60 (d : Nat) (hd : 3 ≤ d)   (h : am_H) : Sim m_X11_areTold d 60 [none, none, none, none] [] h (f_X11_areTold_60   h) := by
  unfold f_X11_areTold_60
  refine sim_iconst (0) dX11_areTold_60 (by decide +kernel) ?_
  exact sim_lv (am_leN (am_leN (am_leN (am_leN am_leT)))) (t_X11_areTold_61 d (by omega) _ _)
def f_X11_areTold_56   (h : am_H) : am_R := f_X11_areTold_61 (1 : Int32) h
theorem t_X11_areTold_56 (d : Nat) (hd : 3 ≤ d)   (h : am_H) : Sim m_X11_areTold d 56 [none, none, none, none] [] h (f_X11_areTold_56   h) := by
  unfold f_X11_areTold_56
  refine sim_iconst (1) dX11_areTold_56 (by decide +kernel) ?_
  refine sim_goto 61 dX11_areTold_57 (by decide) ?_
  exact sim_lv (am_leN (am_leN (am_leN (am_leN am_leT)))) (t_X11_areTold_61 d (by omega) _ _)
def f_X11_areTold_33  (a0 : Nat × Nat) (x1 : Int32) (x2 : Int32) (s0 : Int32) (h : am_H) : am_R := m_ao (some a0) 11 fun a10 => m_bI (f_X11_isSeen a10 x1 x2 h) fun h8 v9 => if v9 = 0 then (f_X11_areTold_60 h8) else (m_ao (some a0) 11 fun a13 => m_bI (f_X11_isOwner a13 x1 x2 h8) fun h11 v12 => if v12 = 0 then (if s0 = 0 then (f_X11_areTold_60 h11) else (f_X11_areTold_56 h11)) else (f_X11_areTold_56 h11))
theorem t_X11_areTold_33 (d : Nat) (hd : 3 ≤ d)  (a0 : Nat × Nat) (x1 : Int32) (x2 : Int32) (s0 : Int32) (h : am_H) : Sim m_X11_areTold d 33 [some (.inr (.inr (some a0))), some (.inl x1), some (.inl x2), none] [.inl s0] h (f_X11_areTold_33  a0 x1 x2 s0 h) := by
  unfold f_X11_areTold_33
  refine sim_istore_n dX11_areTold_33 (Nat.le_of_ble_eq_true rfl) ?_
  refine sim_aload_n dX11_areTold_34 rfl ?_
  refine sim_iload_n dX11_areTold_35 rfl ?_
  refine sim_iload_n dX11_areTold_36 rfl ?_
  refine sim_ao2 (fun a10 e => ?_)
  refine sim_virt (d - 1) e dX11_areTold_37 (k_X11_isSeen (d - 1) (by omega) _ _ _ _) q_X11_isSeen rfl rfl wm_RX11_169 rfl rfl (by omega) (Nat.le_of_ble_eq_true rfl) am_nI (am_rI fun h8 v9 => ?_) am_eI
  refine sim_if_eq 60 dX11_areTold_40 (by decide) (fun c => ?_) (fun c => ?_)
  · exact sim_lv (am_leN (am_leN (am_leN (am_leN am_leT)))) (t_X11_areTold_60 d (by omega) _)
  · refine sim_aload_n dX11_areTold_43 rfl ?_
    refine sim_iload_n dX11_areTold_44 rfl ?_
    refine sim_iload_n dX11_areTold_45 rfl ?_
    refine sim_ao2 (fun a13 e => ?_)
    refine sim_virt (d - 1) e dX11_areTold_46 (k_X11_isOwner (d - 1) (by omega) _ _ _ _) q_X11_isOwner rfl rfl wm_RX11_166 rfl rfl (by omega) (Nat.le_of_ble_eq_true rfl) am_nI (am_rI fun h11 v12 => ?_) am_eI
    refine sim_if_ne 56 dX11_areTold_49 (by decide) (fun c => ?_) (fun c => ?_)
    · exact sim_lv (am_leN (am_leN (am_leN (am_leN am_leT)))) (t_X11_areTold_56 d (by omega) _)
    · refine sim_iload_n dX11_areTold_52 rfl ?_
      refine sim_if_eq 60 dX11_areTold_53 (by decide) (fun c => ?_) (fun c => ?_)
      · exact sim_lv (am_leN (am_leN (am_leN (am_leN am_leT)))) (t_X11_areTold_60 d (by omega) _)
      · exact sim_lv (am_leN (am_leN (am_leN (am_leN am_leT)))) (t_X11_areTold_56 d (by omega) _)
def f_X11_areTold_28  (a0 : Nat × Nat) (x1 : Int32) (x2 : Int32) (h : am_H) : am_R := f_X11_areTold_33 a0 x1 x2 (1 : Int32) h
theorem t_X11_areTold_28 (d : Nat) (hd : 3 ≤ d)  (a0 : Nat × Nat) (x1 : Int32) (x2 : Int32) (h : am_H) : Sim m_X11_areTold d 28 [some (.inr (.inr (some a0))), some (.inl x1), some (.inl x2), none] [] h (f_X11_areTold_28  a0 x1 x2 h) := by
  unfold f_X11_areTold_28
  refine sim_iconst (1) dX11_areTold_28 (by decide +kernel) ?_
  refine sim_goto 33 dX11_areTold_29 (by decide) ?_
  exact sim_lv (am_leS (am_leS (am_leS (am_leN am_leT)))) (t_X11_areTold_33 d (by omega) _ _ _ _ _)
def f_X11_areTold (a0 : Nat × Nat) (x1 : Int32) (x2 : Int32) (h : am_H) : am_R := m_gR (some a0) 11 11 h fun o1 => m_aI o1 0 x2 h fun v2 => if v2 = (-1 : Int32) then (f_X11_areTold_28 a0 x1 x2 h) else (m_gR (some a0) 11 19 h fun o3 => m_gR (some a0) 11 11 h fun o4 => m_aI o4 0 x2 h fun v5 => m_aI o3 0 v5 h fun v6 => m_gI (some a0) 11 1 h fun v7 => if v7 < v6 then (f_X11_areTold_33 a0 x1 x2 (0 : Int32) h) else (f_X11_areTold_28 a0 x1 x2 h))
theorem k_X11_areTold (d : Nat) (hd : 3 ≤ d) (a0 : Nat × Nat) (x1 : Int32) (x2 : Int32) (h : am_H) : am_Con m_X11_areTold d [.inr (.inr (some a0)), .inl x1, .inl x2] h (f_X11_areTold a0 x1 x2 h) := am_con (by decide +kernel) (Nat.le_of_ble_eq_true rfl) (by
  unfold f_X11_areTold
  refine sim_aload_n dX11_areTold_0 rfl ?_
  refine sim_gR 11 11 dX11_areTold_1 rfl wf_RX11_35 (Nat.le_of_ble_eq_true rfl) rfl (fun o1 => ?_)
  refine sim_iload_n dX11_areTold_4 rfl ?_
  refine sim_aI dX11_areTold_5 (fun v2 => ?_)
  refine sim_iconst (-1) dX11_areTold_6 (by decide +kernel) ?_
  refine sim_ic_eq 28 dX11_areTold_7 (by decide) (fun c => ?_) (fun c => ?_)
  · exact sim_lv (am_leS (am_leS (am_leS (am_leN am_leT)))) (t_X11_areTold_28 d (by omega) _ _ _ _)
  · refine sim_aload_n dX11_areTold_10 rfl ?_
    refine sim_gR 11 19 dX11_areTold_11 rfl wf_RX11_56 (Nat.le_of_ble_eq_true rfl) rfl (fun o3 => ?_)
    refine sim_aload_n dX11_areTold_14 rfl ?_
    refine sim_gR 11 11 dX11_areTold_15 rfl wf_RX11_35 (Nat.le_of_ble_eq_true rfl) rfl (fun o4 => ?_)
    refine sim_iload_n dX11_areTold_18 rfl ?_
    refine sim_aI dX11_areTold_19 (fun v5 => ?_)
    refine sim_aI dX11_areTold_20 (fun v6 => ?_)
    refine sim_aload_n dX11_areTold_21 rfl ?_
    refine sim_gI 11 1 dX11_areTold_22 rfl wf_RX11_139 (Nat.le_of_ble_eq_true rfl) rfl (fun v7 => ?_)
    refine sim_ic_gt 32 dX11_areTold_25 (by decide) (fun c => ?_) (fun c => ?_)
    · refine sim_iconst (0) dX11_areTold_32 (by decide +kernel) ?_
      exact sim_lv (am_leS (am_leS (am_leS (am_leN am_leT)))) (t_X11_areTold_33 d (by omega) _ _ _ _ _)
    · exact sim_lv (am_leS (am_leS (am_leS (am_leN am_leT)))) (t_X11_areTold_28 d (by omega) _ _ _ _))
theorem q_X11_areTold : am_Cal m_X11_areTold 2 2 := ⟨am_mem 1334 (w := Cond.code yX11_areTold cX11_areTold 4 (some .boolean)) (by decide +kernel) rfl, am_mem 64 (w := Cond.initialized RX11) (by decide +kernel) rfl, fun z => absurd z (by decide), fun _ => am_mem 1333 (w := Cond.instanceMethod yX11_areTold) (by decide +kernel) rfl, fun z => absurd z (by decide), fun _ => am_mem 33 (w := Cond.selects RX11 yX11_areTold yX11_areTold) (by decide +kernel) rfl, by decide +kernel, by decide +kernel, Nat.le_of_ble_eq_true rfl⟩
abbrev m_X11_outDay : am_M := (yX11_outDay, cX11_outDay, 4, some .int, [])
def f_X11_outDay_32  (s0 : Int32) (h : am_H) : am_R := m_ri h s0
theorem t_X11_outDay_32 (d : Nat) (hd : 0 ≤ d)  (s0 : Int32) (h : am_H) : Sim m_X11_outDay d 32 [none, none, none, none] [.inl s0] h (f_X11_outDay_32  s0 h) := by
  unfold f_X11_outDay_32
  exact sim_iret dX11_outDay_32 rfl
def f_X11_outDay (a0 : Nat × Nat) (x1 : Int32) (x2 : Int32) (h : am_H) : am_R := m_gR (some a0) 11 8 h fun o1 => m_aI o1 0 (((8 : Int32) * x1) + x2) h fun v2 => m_gR (some a0) 11 9 h fun o3 => m_aI o3 0 x1 h fun v4 => if v2 ≤ v4 then (m_gR (some a0) 11 9 h fun o5 => m_aI o5 0 x1 h fun v6 => f_X11_outDay_32 v6 h) else (f_X11_outDay_32 v2 h)
theorem k_X11_outDay (d : Nat) (hd : 0 ≤ d) (a0 : Nat × Nat) (x1 : Int32) (x2 : Int32) (h : am_H) : am_Con m_X11_outDay d [.inr (.inr (some a0)), .inl x1, .inl x2] h (f_X11_outDay a0 x1 x2 h) := am_con (by decide +kernel) (Nat.le_of_ble_eq_true rfl) (by
  unfold f_X11_outDay
  refine sim_aload_n dX11_outDay_0 rfl ?_
  refine sim_gR 11 8 dX11_outDay_1 rfl wf_RX11_26 (Nat.le_of_ble_eq_true rfl) rfl (fun o1 => ?_)
  refine sim_bipush (8) dX11_outDay_4 (by decide +kernel) ?_
  refine sim_iload_n dX11_outDay_6 rfl ?_
  refine sim_imul dX11_outDay_7 ?_
  refine sim_iload_n dX11_outDay_8 rfl ?_
  refine sim_iadd dX11_outDay_9 ?_
  refine sim_aI dX11_outDay_10 (fun v2 => ?_)
  refine sim_istore_n dX11_outDay_11 (Nat.le_of_ble_eq_true rfl) ?_
  refine sim_iload_n dX11_outDay_12 rfl ?_
  refine sim_aload_n dX11_outDay_13 rfl ?_
  refine sim_gR 11 9 dX11_outDay_14 rfl wf_RX11_29 (Nat.le_of_ble_eq_true rfl) rfl (fun o3 => ?_)
  refine sim_iload_n dX11_outDay_17 rfl ?_
  refine sim_aI dX11_outDay_18 (fun v4 => ?_)
  refine sim_ic_le 26 dX11_outDay_19 (by decide) (fun c => ?_) (fun c => ?_)
  · refine sim_aload_n dX11_outDay_26 rfl ?_
    refine sim_gR 11 9 dX11_outDay_27 rfl wf_RX11_29 (Nat.le_of_ble_eq_true rfl) rfl (fun o5 => ?_)
    refine sim_iload_n dX11_outDay_30 rfl ?_
    refine sim_aI dX11_outDay_31 (fun v6 => ?_)
    exact sim_lv (am_leN (am_leN (am_leN (am_leN am_leT)))) (t_X11_outDay_32 d (by omega) _ _)
  · refine sim_iload_n dX11_outDay_22 rfl ?_
    refine sim_goto 32 dX11_outDay_23 (by decide) ?_
    exact sim_lv (am_leN (am_leN (am_leN (am_leN am_leT)))) (t_X11_outDay_32 d (by omega) _ _))
theorem q_X11_outDay : am_Cal m_X11_outDay 2 2 := ⟨am_mem 1456 (w := Cond.code yX11_outDay cX11_outDay 4 (some .int)) (by decide +kernel) rfl, am_mem 64 (w := Cond.initialized RX11) (by decide +kernel) rfl, fun z => absurd z (by decide), fun _ => am_mem 1455 (w := Cond.instanceMethod yX11_outDay) (by decide +kernel) rfl, fun z => absurd z (by decide), fun _ => am_mem 47 (w := Cond.selects RX11 yX11_outDay yX11_outDay) (by decide +kernel) rfl, by decide +kernel, by decide +kernel, Nat.le_of_ble_eq_true rfl⟩
