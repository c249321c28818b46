abbrev m_X11_parent : am_M := (yX11_parent, cX11_parent, 6, some .boolean, [])
def f_X11_parent_153  (x5 : Int32) (h : am_H) : am_R := m_rz h x5
theorem t_X11_parent_153 (d : Nat) (hd : 2 ≤ d)  (x5 : Int32) (h : am_H) : Sim m_X11_parent d 153 [none, none, none, none, none, some (.inl x5)] [] h (f_X11_parent_153  x5 h) := by
  unfold f_X11_parent_153
  refine sim_iload dX11_parent_153 rfl ?_
  exact sim_zret dX11_parent_155 rfl
def f_X11_parent_141  (a0 : Nat × Nat) (x3 : Int32) (x5 : Int32) (s0 : Int32) (s1 : Int32) (s2 : Int32) (s3 : Option (Nat × Nat)) (h : am_H) : am_R := m_sI s3 s2 (s1 ||| s0) h fun h29 => if x5 = x3 then (f_X11_parent_153 x5 h29) else (m_ao (some a0) 11 fun a32 => m_bV (f_X11_letsWait a32 h29) fun h30 => f_X11_parent_153 x5 h30)
theorem t_X11_parent_141 (d : Nat) (hd : 2 ≤ d)  (a0 : Nat × Nat) (x3 : Int32) (x5 : Int32) (s0 : Int32) (s1 : Int32) (s2 : Int32) (s3 : Option (Nat × Nat)) (h : am_H) : Sim m_X11_parent d 141 [some (.inr (.inr (some a0))), none, none, some (.inl x3), none, some (.inl x5)] [.inl s0, .inl s1, .inl s2, .inr (.inr s3)] h (f_X11_parent_141  a0 x3 x5 s0 s1 s2 s3 h) := by
  unfold f_X11_parent_141
  refine sim_ior dX11_parent_141 ?_
  refine sim_sI dX11_parent_142 (fun h29 => ?_)
  refine sim_iload dX11_parent_143 rfl ?_
  refine sim_iload_n dX11_parent_145 rfl ?_
  refine sim_ic_eq 153 dX11_parent_146 (by decide) (fun c => ?_) (fun c => ?_)
  · exact sim_lv (am_leN (am_leN (am_leN (am_leN (am_leN (am_leS am_leT)))))) (t_X11_parent_153 d (by omega) _ _)
  · refine sim_aload_n dX11_parent_149 rfl ?_
    refine sim_ao0 (fun a32 e => ?_)
    refine sim_virt (d - 1) e dX11_parent_150 (k_X11_letsWait (d - 1) (by omega) _  _) q_X11_letsWait rfl rfl wm_RX11_187 rfl rfl (by omega) (Nat.le_of_ble_eq_true rfl) am_nV (am_rV fun h30 => ?_) am_eV
    exact sim_lv (am_leN (am_leN (am_leN (am_leN (am_leN (am_leS am_leT)))))) (t_X11_parent_153 d (by omega) _ _)
def f_X11_parent_93  (a0 : Nat × Nat) (x1 : Int32) (x2 : Int32) (x3 : Int32) (s0 : Int32) (s1 : Option (Nat × Nat)) (h : am_H) : am_R := m_ao s1 11 fun a21 => m_bI (f_X11_holds a21 s0 h) fun h19 v20 => if v20 = 0 then (m_rz h19 (0 : Int32)) else (m_gR (some a0) 11 23 h19 fun o22 => m_aI o22 0 x1 h19 fun v23 => m_bI (f_X11_has v23 x2 h19) fun h24 v25 => m_gR (some a0) 11 23 h24 fun o26 => m_gR (some a0) 11 23 h24 fun o27 => m_aI o27 0 x1 h24 fun v28 => if x3 = 0 then (f_X11_parent_141 a0 x3 v25 (0 : Int32) (v28 &&& (((1 : Int32) <<< (x2 &&& 31)) ^^^ (-1 : Int32))) x1 o26 h24) else (f_X11_parent_141 a0 x3 v25 ((1 : Int32) <<< (x2 &&& 31)) (v28 &&& (((1 : Int32) <<< (x2 &&& 31)) ^^^ (-1 : Int32))) x1 o26 h24))
theorem t_X11_parent_93 (d : Nat) (hd : 2 ≤ d)  (a0 : Nat × Nat) (x1 : Int32) (x2 : Int32) (x3 : Int32) (s0 : Int32) (s1 : Option (Nat × Nat)) (h : am_H) : Sim m_X11_parent d 93 [some (.inr (.inr (some a0))), some (.inl x1), some (.inl x2), some (.inl x3), none, none] [.inl s0, .inr (.inr s1)] h (f_X11_parent_93  a0 x1 x2 x3 s0 s1 h) := by
  unfold f_X11_parent_93
  refine sim_ao1 (fun a21 e => ?_)
  refine sim_virt (d - 1) e dX11_parent_93 (k_X11_holds (d - 1) (by omega) _ _ _) q_X11_holds rfl rfl wm_RX11_142 rfl rfl (by omega) (Nat.le_of_ble_eq_true rfl) am_nI (am_rI fun h19 v20 => ?_) am_eI
  refine sim_if_ne 101 dX11_parent_96 (by decide) (fun c => ?_) (fun c => ?_)
  · refine sim_aload_n dX11_parent_101 rfl ?_
    refine sim_gR 11 23 dX11_parent_102 rfl wf_RX11_65 (Nat.le_of_ble_eq_true rfl) rfl (fun o22 => ?_)
    refine sim_iload_n dX11_parent_105 rfl ?_
    refine sim_aI dX11_parent_106 (fun v23 => ?_)
    refine sim_iload_n dX11_parent_107 rfl ?_
    refine sim_static (d - 1) dX11_parent_108 (k_X11_has (d - 1) (by omega) _ _ _) q_X11_has wm_RX11_155 rfl rfl (by omega) (Nat.le_of_ble_eq_true rfl) am_nI (am_rI fun h24 v25 => ?_) am_eI
    refine sim_istore dX11_parent_111 (Nat.le_of_ble_eq_true rfl) ?_
    refine sim_aload_n dX11_parent_113 rfl ?_
    refine sim_gR 11 23 dX11_parent_114 rfl wf_RX11_65 (Nat.le_of_ble_eq_true rfl) rfl (fun o26 => ?_)
    refine sim_iload_n dX11_parent_117 rfl ?_
    refine sim_aload_n dX11_parent_118 rfl ?_
    refine sim_gR 11 23 dX11_parent_119 rfl wf_RX11_65 (Nat.le_of_ble_eq_true rfl) rfl (fun o27 => ?_)
    refine sim_iload_n dX11_parent_122 rfl ?_
    refine sim_aI dX11_parent_123 (fun v28 => ?_)
    refine sim_iconst (1) dX11_parent_124 (by decide +kernel) ?_
    refine sim_iload_n dX11_parent_125 rfl ?_
    refine sim_ishl dX11_parent_126 ?_
    refine sim_iconst (-1) dX11_parent_127 (by decide +kernel) ?_
    refine sim_ixor dX11_parent_128 ?_
    refine sim_iand dX11_parent_129 ?_
    refine sim_iload_n dX11_parent_130 rfl ?_
    refine sim_if_eq 140 dX11_parent_131 (by decide) (fun c => ?_) (fun c => ?_)
    · refine sim_iconst (0) dX11_parent_140 (by decide +kernel) ?_
      exact sim_lv (am_leS (am_leN (am_leN (am_leS (am_leN (am_leS am_leT)))))) (t_X11_parent_141 d (by omega) _ _ _ _ _ _ _ _)
    · refine sim_iconst (1) dX11_parent_134 (by decide +kernel) ?_
      refine sim_iload_n dX11_parent_135 rfl ?_
      refine sim_ishl dX11_parent_136 ?_
      refine sim_goto 141 dX11_parent_137 (by decide) ?_
      exact sim_lv (am_leS (am_leN (am_leN (am_leS (am_leN (am_leS am_leT)))))) (t_X11_parent_141 d (by omega) _ _ _ _ _ _ _ _)
  · refine sim_iconst (0) dX11_parent_99 (by decide +kernel) ?_
    exact sim_zret dX11_parent_100 rfl
def f_X11_parent_92  (a0 : Nat × Nat) (x1 : Int32) (x2 : Int32) (x3 : Int32) (s0 : Option (Nat × Nat)) (h : am_H) : am_R := f_X11_parent_93 a0 x1 x2 x3 (0 : Int32) s0 h
theorem t_X11_parent_92 (d : Nat) (hd : 2 ≤ d)  (a0 : Nat × Nat) (x1 : Int32) (x2 : Int32) (x3 : Int32) (s0 : Option (Nat × Nat)) (h : am_H) : Sim m_X11_parent d 92 [some (.inr (.inr (some a0))), some (.inl x1), some (.inl x2), some (.inl x3), none, none] [.inr (.inr s0)] h (f_X11_parent_92  a0 x1 x2 x3 s0 h) := by
  unfold f_X11_parent_92
  refine sim_iconst (0) dX11_parent_92 (by decide +kernel) ?_
  exact sim_lv (am_leS (am_leS (am_leS (am_leS (am_leN (am_leN am_leT)))))) (t_X11_parent_93 d (by omega) _ _ _ _ _ _ _)
def f_X11_parent_88  (a0 : Nat × Nat) (x1 : Int32) (x2 : Int32) (x3 : Int32) (s0 : Option (Nat × Nat)) (h : am_H) : am_R := f_X11_parent_93 a0 x1 x2 x3 (3 : Int32) s0 h
theorem t_X11_parent_88 (d : Nat) (hd : 2 ≤ d)  (a0 : Nat × Nat) (x1 : Int32) (x2 : Int32) (x3 : Int32) (s0 : Option (Nat × Nat)) (h : am_H) : Sim m_X11_parent d 88 [some (.inr (.inr (some a0))), some (.inl x1), some (.inl x2), some (.inl x3), none, none] [.inr (.inr s0)] h (f_X11_parent_88  a0 x1 x2 x3 s0 h) := by
  unfold f_X11_parent_88
  refine sim_iconst (3) dX11_parent_88 (by decide +kernel) ?_
  refine sim_goto 93 dX11_parent_89 (by decide) ?_
  exact sim_lv (am_leS (am_leS (am_leS (am_leS (am_leN (am_leN am_leT)))))) (t_X11_parent_93 d (by omega) _ _ _ _ _ _ _)
def f_X11_parent_43  (a0 : Nat × Nat) (x1 : Int32) (x2 : Int32) (x3 : Int32) (s0 : Int32) (s1 : Option (Nat × Nat)) (h : am_H) : am_R := m_ao s1 11 fun a9 => m_bI (f_X11_holds a9 s0 h) fun h7 v8 => if v8 = 0 then (m_rz h7 (0 : Int32)) else (m_gR (some a0) 11 21 h7 fun o10 => m_aI o10 0 x1 h7 fun v11 => if v11 = (1 : Int32) then (m_gR (some a0) 11 21 h7 fun o12 => m_aI o12 0 x2 h7 fun v13 => if v13 = (1 : Int32) then (if x3 = 0 then (f_X11_parent_92 a0 x1 x2 x3 (some a0) h7) else (m_ao (some a0) 11 fun a16 => m_bI (f_X11_aboveOf a16 x2 h7) fun h14 v15 => m_bI (f_X11_has v15 x1 h14) fun h17 v18 => if v18 = 0 then (f_X11_parent_92 a0 x1 x2 x3 (some a0) h17) else (f_X11_parent_88 a0 x1 x2 x3 (some a0) h17))) else (f_X11_parent_88 a0 x1 x2 x3 (some a0) h7)) else (f_X11_parent_88 a0 x1 x2 x3 (some a0) h7))
theorem t_X11_parent_43 (d : Nat) (hd : 2 ≤ d)  (a0 : Nat × Nat) (x1 : Int32) (x2 : Int32) (x3 : Int32) (s0 : Int32) (s1 : Option (Nat × Nat)) (h : am_H) : Sim m_X11_parent d 43 [some (.inr (.inr (some a0))), some (.inl x1), some (.inl x2), some (.inl x3), none, none] [.inl s0, .inr (.inr s1)] h (f_X11_parent_43  a0 x1 x2 x3 s0 s1 h) := by
  unfold f_X11_parent_43
  refine sim_ao1 (fun a9 e => ?_)
  refine sim_virt (d - 1) e dX11_parent_43 (k_X11_holds (d - 1) (by omega) _ _ _) q_X11_holds rfl rfl wm_RX11_142 rfl rfl (by omega) (Nat.le_of_ble_eq_true rfl) am_nI (am_rI fun h7 v8 => ?_) am_eI
  refine sim_if_ne 51 dX11_parent_46 (by decide) (fun c => ?_) (fun c => ?_)
  · refine sim_aload_n dX11_parent_51 rfl ?_
    refine sim_aload_n dX11_parent_52 rfl ?_
    refine sim_gR 11 21 dX11_parent_53 rfl wf_RX11_59 (Nat.le_of_ble_eq_true rfl) rfl (fun o10 => ?_)
    refine sim_iload_n dX11_parent_56 rfl ?_
    refine sim_aI dX11_parent_57 (fun v11 => ?_)
    refine sim_iconst (1) dX11_parent_58 (by decide +kernel) ?_
    refine sim_ic_ne 88 dX11_parent_59 (by decide) (fun c => ?_) (fun c => ?_)
    · exact sim_lv (am_leS (am_leS (am_leS (am_leS (am_leN (am_leN am_leT)))))) (t_X11_parent_88 d (by omega) _ _ _ _ _ _)
    · refine sim_aload_n dX11_parent_62 rfl ?_
      refine sim_gR 11 21 dX11_parent_63 rfl wf_RX11_59 (Nat.le_of_ble_eq_true rfl) rfl (fun o12 => ?_)
      refine sim_iload_n dX11_parent_66 rfl ?_
      refine sim_aI dX11_parent_67 (fun v13 => ?_)
      refine sim_iconst (1) dX11_parent_68 (by decide +kernel) ?_
      refine sim_ic_ne 88 dX11_parent_69 (by decide) (fun c => ?_) (fun c => ?_)
      · exact sim_lv (am_leS (am_leS (am_leS (am_leS (am_leN (am_leN am_leT)))))) (t_X11_parent_88 d (by omega) _ _ _ _ _ _)
      · refine sim_iload_n dX11_parent_72 rfl ?_
        refine sim_if_eq 92 dX11_parent_73 (by decide) (fun c => ?_) (fun c => ?_)
        · exact sim_lv (am_leS (am_leS (am_leS (am_leS (am_leN (am_leN am_leT)))))) (t_X11_parent_92 d (by omega) _ _ _ _ _ _)
        · refine sim_aload_n dX11_parent_76 rfl ?_
          refine sim_iload_n dX11_parent_77 rfl ?_
          refine sim_ao1 (fun a16 e => ?_)
          refine sim_virt (d - 1) e dX11_parent_78 (k_X11_aboveOf (d - 1) (by omega) _ _ _) q_X11_aboveOf rfl rfl wm_RX11_178 rfl rfl (by omega) (Nat.le_of_ble_eq_true rfl) am_nI (am_rI fun h14 v15 => ?_) am_eI
          refine sim_iload_n dX11_parent_81 rfl ?_
          refine sim_static (d - 1) dX11_parent_82 (k_X11_has (d - 1) (by omega) _ _ _) q_X11_has wm_RX11_155 rfl rfl (by omega) (Nat.le_of_ble_eq_true rfl) am_nI (am_rI fun h17 v18 => ?_) am_eI
          refine sim_if_eq 92 dX11_parent_85 (by decide) (fun c => ?_) (fun c => ?_)
          · exact sim_lv (am_leS (am_leS (am_leS (am_leS (am_leN (am_leN am_leT)))))) (t_X11_parent_92 d (by omega) _ _ _ _ _ _)
          · exact sim_lv (am_leS (am_leS (am_leS (am_leS (am_leN (am_leN am_leT)))))) (t_X11_parent_88 d (by omega) _ _ _ _ _ _)
  · refine sim_iconst (0) dX11_parent_49 (by decide +kernel) ?_
    exact sim_zret dX11_parent_50 rfl
def f_X11_parent_21  (a0 : Nat × Nat) (x1 : Int32) (x2 : Int32) (x3 : Int32) (s0 : Int32) (h : am_H) : am_R := if s0 = 0 then (f_X11_parent_43 a0 x1 x2 x3 (1 : Int32) (some a0) h) else (if x1 = x2 then (f_X11_parent_43 a0 x1 x2 x3 (2 : Int32) (some a0) h) else (f_X11_parent_43 a0 x1 x2 x3 (0 : Int32) (some a0) h))
theorem t_X11_parent_21 (d : Nat) (hd : 2 ≤ d)  (a0 : Nat × Nat) (x1 : Int32) (x2 : Int32) (x3 : Int32) (s0 : Int32) (h : am_H) : Sim m_X11_parent d 21 [some (.inr (.inr (some a0))), some (.inl x1), some (.inl x2), some (.inl x3), none, none] [.inl s0] h (f_X11_parent_21  a0 x1 x2 x3 s0 h) := by
  unfold f_X11_parent_21
  refine sim_istore dX11_parent_21 (Nat.le_of_ble_eq_true rfl) ?_
  refine sim_aload_n dX11_parent_23 rfl ?_
  refine sim_iload dX11_parent_24 rfl ?_
  refine sim_if_ne 33 dX11_parent_26 (by decide) (fun c => ?_) (fun c => ?_)
  · refine sim_iload_n dX11_parent_33 rfl ?_
    refine sim_iload_n dX11_parent_34 rfl ?_
    refine sim_ic_ne 42 dX11_parent_35 (by decide) (fun c => ?_) (fun c => ?_)
    · refine sim_iconst (0) dX11_parent_42 (by decide +kernel) ?_
      exact sim_lv (am_leS (am_leS (am_leS (am_leS (am_leN (am_leN am_leT)))))) (t_X11_parent_43 d (by omega) _ _ _ _ _ _ _)
    · refine sim_iconst (2) dX11_parent_38 (by decide +kernel) ?_
      refine sim_goto 43 dX11_parent_39 (by decide) ?_
      exact sim_lv (am_leS (am_leS (am_leS (am_leS (am_leN (am_leN am_leT)))))) (t_X11_parent_43 d (by omega) _ _ _ _ _ _ _)
  · refine sim_iconst (1) dX11_parent_29 (by decide +kernel) ?_
    refine sim_goto 43 dX11_parent_30 (by decide) ?_
    exact sim_lv (am_leS (am_leS (am_leS (am_leS (am_leN (am_leN am_leT)))))) (t_X11_parent_43 d (by omega) _ _ _ _ _ _ _)
def f_X11_parent_20  (a0 : Nat × Nat) (x1 : Int32) (x2 : Int32) (x3 : Int32) (h : am_H) : am_R := f_X11_parent_21 a0 x1 x2 x3 (0 : Int32) h
theorem t_X11_parent_20 (d : Nat) (hd : 2 ≤ d)  (a0 : Nat × Nat) (x1 : Int32) (x2 : Int32) (x3 : Int32) (h : am_H) : Sim m_X11_parent d 20 [some (.inr (.inr (some a0))), some (.inl x1), some (.inl x2), some (.inl x3), none, none] [] h (f_X11_parent_20  a0 x1 x2 x3 h) := by
  unfold f_X11_parent_20
  refine sim_iconst (0) dX11_parent_20 (by decide +kernel) ?_
  exact sim_lv (am_leS (am_leS (am_leS (am_leS (am_leN (am_leN am_leT)))))) (t_X11_parent_21 d (by omega) _ _ _ _ _ _)
def f_X11_parent (a0 : Nat × Nat) (x1 : Int32) (x2 : Int32) (x3 : Int32) (h : am_H) : am_R := m_ao (some a0) 11 fun a3 => m_bI (f_X11_isTag a3 x1 h) fun h1 v2 => if v2 = 0 then (f_X11_parent_20 a0 x1 x2 x3 h1) else (m_ao (some a0) 11 fun a6 => m_bI (f_X11_isTag a6 x2 h1) fun h4 v5 => if v5 = 0 then (f_X11_parent_20 a0 x1 x2 x3 h4) else (f_X11_parent_21 a0 x1 x2 x3 (1 : Int32) h4))
theorem k_X11_parent (d : Nat) (hd : 2 ≤ d) (a0 : Nat × Nat) (x1 : Int32) (x2 : Int32) (x3 : Int32) (h : am_H) : am_Con m_X11_parent d [.inr (.inr (some a0)), .inl x1, .inl x2, .inl x3] h (f_X11_parent a0 x1 x2 x3 h) := am_con (by decide +kernel) (Nat.le_of_ble_eq_true rfl) (by
  unfold f_X11_parent
  refine sim_aload_n dX11_parent_0 rfl ?_
  refine sim_iload_n dX11_parent_1 rfl ?_
  refine sim_ao1 (fun a3 e => ?_)
  refine sim_virt (d - 1) e dX11_parent_2 (k_X11_isTag (d - 1) (by omega) _ _ _) q_X11_isTag rfl rfl wm_RX11_184 rfl rfl (by omega) (Nat.le_of_ble_eq_true rfl) am_nI (am_rI fun h1 v2 => ?_) am_eI
  refine sim_if_eq 20 dX11_parent_5 (by decide) (fun c => ?_) (fun c => ?_)
  · exact sim_lv (am_leS (am_leS (am_leS (am_leS (am_leN (am_leN am_leT)))))) (t_X11_parent_20 d (by omega) _ _ _ _ _)
  · refine sim_aload_n dX11_parent_8 rfl ?_
    refine sim_iload_n dX11_parent_9 rfl ?_
    refine sim_ao1 (fun a6 e => ?_)
    refine sim_virt (d - 1) e dX11_parent_10 (k_X11_isTag (d - 1) (by omega) _ _ _) q_X11_isTag rfl rfl wm_RX11_184 rfl rfl (by omega) (Nat.le_of_ble_eq_true rfl) am_nI (am_rI fun h4 v5 => ?_) am_eI
    refine sim_if_eq 20 dX11_parent_13 (by decide) (fun c => ?_) (fun c => ?_)
    · exact sim_lv (am_leS (am_leS (am_leS (am_leS (am_leN (am_leN am_leT)))))) (t_X11_parent_20 d (by omega) _ _ _ _ _)
    · refine sim_iconst (1) dX11_parent_16 (by decide +kernel) ?_
      refine sim_goto 21 dX11_parent_17 (by decide) ?_
      exact sim_lv (am_leS (am_leS (am_leS (am_leS (am_leN (am_leN am_leT)))))) (t_X11_parent_21 d (by omega) _ _ _ _ _ _))
theorem q_X11_parent : am_Cal m_X11_parent 3 2 := ⟨am_mem 1362 (w := Cond.code yX11_parent cX11_parent 6 (some .boolean)) (by decide +kernel) rfl, am_mem 64 (w := Cond.initialized RX11) (by decide +kernel) rfl, fun z => absurd z (by decide), fun _ => am_mem 1360 (w := Cond.instanceMethod yX11_parent) (by decide +kernel) rfl, fun z => absurd z (by decide), fun _ => am_mem 1361 (w := Cond.selects RX11 yX11_parent yX11_parent) (by decide +kernel) rfl, by decide +kernel, by decide +kernel, Nat.le_of_ble_eq_true rfl⟩
abbrev m_X11_pass : am_M := (yX11_pass, cX11_pass, 2, some .int, [])
def f_X11_pass_32  (a0 : Nat × Nat) (x1 : Int32) (s0 : Int32) (s1 : Option (Nat × Nat)) (h : am_H) : am_R := m_ao s1 11 fun a6 => m_bI (f_X11_holds a6 s0 h) fun h4 v5 => if v5 = 0 then (m_ri h4 (0 : Int32)) else (m_gI (some a0) 11 1 h4 fun v7 => m_pI (some a0) 11 1 (v7 + x1) h4 fun h8 => m_gI (some a0) 11 1 h8 fun v9 => m_ri h8 v9)
theorem t_X11_pass_32 (d : Nat) (hd : 1 ≤ d)  (a0 : Nat × Nat) (x1 : Int32) (s0 : Int32) (s1 : Option (Nat × Nat)) (h : am_H) : Sim m_X11_pass d 32 [some (.inr (.inr (some a0))), some (.inl x1)] [.inl s0, .inr (.inr s1)] h (f_X11_pass_32  a0 x1 s0 s1 h) := by
  unfold f_X11_pass_32
  refine sim_ao1 (fun a6 e => ?_)
  refine sim_virt (d - 1) e dX11_pass_32 (k_X11_holds (d - 1) (by omega) _ _ _) q_X11_holds rfl rfl wm_RX11_142 rfl rfl (by omega) (Nat.le_of_ble_eq_true rfl) am_nI (am_rI fun h4 v5 => ?_) am_eI
  refine sim_if_ne 40 dX11_pass_35 (by decide) (fun c => ?_) (fun c => ?_)
  · refine sim_aload_n dX11_pass_40 rfl ?_
    refine sim_dup_r dX11_pass_41 ?_
    refine sim_gI 11 1 dX11_pass_42 rfl wf_RX11_139 (Nat.le_of_ble_eq_true rfl) rfl (fun v7 => ?_)
    refine sim_iload_n dX11_pass_45 rfl ?_
    refine sim_iadd dX11_pass_46 ?_
    refine sim_pI 11 1 dX11_pass_47 rfl wf_RX11_139 (Nat.le_of_ble_eq_true rfl) rfl (Or.inl rfl) rfl (fun h8 => ?_)
    refine sim_aload_n dX11_pass_50 rfl ?_
    refine sim_gI 11 1 dX11_pass_51 rfl wf_RX11_139 (Nat.le_of_ble_eq_true rfl) rfl (fun v9 => ?_)
    exact sim_iret dX11_pass_54 rfl
  · refine sim_iconst (0) dX11_pass_38 (by decide +kernel) ?_
    exact sim_iret dX11_pass_39 rfl
def f_X11_pass (a0 : Nat × Nat) (x1 : Int32) (h : am_H) : am_R := m_bI (f_X11_in x1 (1 : Int32) (100 : Int32) h) fun h1 v2 => if v2 = 0 then (f_X11_pass_32 a0 x1 (1 : Int32) (some a0) h1) else (m_gI (some a0) 11 1 h1 fun v3 => if (v3 + x1) ≤ (2000 : Int32) then (f_X11_pass_32 a0 x1 (0 : Int32) (some a0) h1) else (f_X11_pass_32 a0 x1 (2 : Int32) (some a0) h1))
theorem k_X11_pass (d : Nat) (hd : 1 ≤ d) (a0 : Nat × Nat) (x1 : Int32) (h : am_H) : am_Con m_X11_pass d [.inr (.inr (some a0)), .inl x1] h (f_X11_pass a0 x1 h) := am_con (by decide +kernel) (Nat.le_of_ble_eq_true rfl) (by
  unfold f_X11_pass
  refine sim_aload_n dX11_pass_0 rfl ?_
  refine sim_iload_n dX11_pass_1 rfl ?_
  refine sim_iconst (1) dX11_pass_2 (by decide +kernel) ?_
  refine sim_bipush (100) dX11_pass_3 (by decide +kernel) ?_
  refine sim_static (d - 1) dX11_pass_5 (k_X11_in (d - 1) (by omega) _ _ _ _) q_X11_in wm_RX11_129 rfl rfl (by omega) (Nat.le_of_ble_eq_true rfl) am_nI (am_rI fun h1 v2 => ?_) am_eI
  refine sim_if_ne 15 dX11_pass_8 (by decide) (fun c => ?_) (fun c => ?_)
  · refine sim_aload_n dX11_pass_15 rfl ?_
    refine sim_gI 11 1 dX11_pass_16 rfl wf_RX11_139 (Nat.le_of_ble_eq_true rfl) rfl (fun v3 => ?_)
    refine sim_iload_n dX11_pass_19 rfl ?_
    refine sim_iadd dX11_pass_20 ?_
    refine sim_sipush (2000) dX11_pass_21 (by decide +kernel) ?_
    refine sim_ic_le 31 dX11_pass_24 (by decide) (fun c => ?_) (fun c => ?_)
    · refine sim_iconst (0) dX11_pass_31 (by decide +kernel) ?_
      exact sim_lv (am_leS (am_leS am_leT)) (t_X11_pass_32 d (by omega) _ _ _ _ _)
    · refine sim_iconst (2) dX11_pass_27 (by decide +kernel) ?_
      refine sim_goto 32 dX11_pass_28 (by decide) ?_
      exact sim_lv (am_leS (am_leS am_leT)) (t_X11_pass_32 d (by omega) _ _ _ _ _)
  · refine sim_iconst (1) dX11_pass_11 (by decide +kernel) ?_
    refine sim_goto 32 dX11_pass_12 (by decide) ?_
    exact sim_lv (am_leS (am_leS am_leT)) (t_X11_pass_32 d (by omega) _ _ _ _ _))
theorem q_X11_pass : am_Cal m_X11_pass 1 2 := ⟨am_mem 1251 (w := Cond.code yX11_pass cX11_pass 2 (some .int)) (by decide +kernel) rfl, am_mem 64 (w := Cond.initialized RX11) (by decide +kernel) rfl, fun z => absurd z (by decide), fun _ => am_mem 1249 (w := Cond.instanceMethod yX11_pass) (by decide +kernel) rfl, fun z => absurd z (by decide), fun _ => am_mem 1250 (w := Cond.selects RX11 yX11_pass yX11_pass) (by decide +kernel) rfl, by decide +kernel, by decide +kernel, Nat.le_of_ble_eq_true rfl⟩
abbrev m_X11_post : am_M := (yX11_post, cX11_post, 3, some .int, [])
def f_X11_post_39  (a0 : Nat × Nat) (x1 : Int32) (s0 : Int32) (s1 : Option (Nat × Nat)) (h : am_H) : am_R := m_ao s1 11 fun a10 => m_bI (f_X11_holds a10 s0 h) fun h8 v9 => if v9 = 0 then (m_ri h8 (0 : Int32)) else (m_gR (some a0) 11 9 h8 fun o11 => m_gI (some a0) 11 1 h8 fun v12 => m_sI o11 x1 v12 h8 fun h13 => m_gR (some a0) 11 7 h13 fun o14 => m_aI o14 0 x1 h13 fun v15 => m_ri h13 v15)
theorem t_X11_post_39 (d : Nat) (hd : 2 ≤ d)  (a0 : Nat × Nat) (x1 : Int32) (s0 : Int32) (s1 : Option (Nat × Nat)) (h : am_H) : Sim m_X11_post d 39 [some (.inr (.inr (some a0))), some (.inl x1), none] [.inl s0, .inr (.inr s1)] h (f_X11_post_39  a0 x1 s0 s1 h) := by
  unfold f_X11_post_39
  refine sim_ao1 (fun a10 e => ?_)
  refine sim_virt (d - 1) e dX11_post_39 (k_X11_holds (d - 1) (by omega) _ _ _) q_X11_holds rfl rfl wm_RX11_142 rfl rfl (by omega) (Nat.le_of_ble_eq_true rfl) am_nI (am_rI fun h8 v9 => ?_) am_eI
  refine sim_if_ne 47 dX11_post_42 (by decide) (fun c => ?_) (fun c => ?_)
  · refine sim_aload_n dX11_post_47 rfl ?_
    refine sim_gR 11 9 dX11_post_48 rfl wf_RX11_29 (Nat.le_of_ble_eq_true rfl) rfl (fun o11 => ?_)
    refine sim_iload_n dX11_post_51 rfl ?_
    refine sim_aload_n dX11_post_52 rfl ?_
    refine sim_gI 11 1 dX11_post_53 rfl wf_RX11_139 (Nat.le_of_ble_eq_true rfl) rfl (fun v12 => ?_)
    refine sim_sI dX11_post_56 (fun h13 => ?_)
    refine sim_aload_n dX11_post_57 rfl ?_
    refine sim_gR 11 7 dX11_post_58 rfl wf_RX11_23 (Nat.le_of_ble_eq_true rfl) rfl (fun o14 => ?_)
    refine sim_iload_n dX11_post_61 rfl ?_
    refine sim_aI dX11_post_62 (fun v15 => ?_)
    exact sim_iret dX11_post_63 rfl
  · refine sim_iconst (0) dX11_post_45 (by decide +kernel) ?_
    exact sim_iret dX11_post_46 rfl
def f_X11_post_34  (a0 : Nat × Nat) (x1 : Int32) (s0 : Option (Nat × Nat)) (h : am_H) : am_R := f_X11_post_39 a0 x1 (2 : Int32) s0 h
theorem t_X11_post_34 (d : Nat) (hd : 2 ≤ d)  (a0 : Nat × Nat) (x1 : Int32) (s0 : Option (Nat × Nat)) (h : am_H) : Sim m_X11_post d 34 [some (.inr (.inr (some a0))), some (.inl x1), none] [.inr (.inr s0)] h (f_X11_post_34  a0 x1 s0 h) := by
  unfold f_X11_post_34
  refine sim_iconst (2) dX11_post_34 (by decide +kernel) ?_
  refine sim_goto 39 dX11_post_35 (by decide) ?_
  exact sim_lv (am_leS (am_leS (am_leN am_leT))) (t_X11_post_39 d (by omega) _ _ _ _ _)
def f_X11_post (a0 : Nat × Nat) (x1 : Int32) (h : am_H) : am_R := m_ao (some a0) 11 fun a3 => m_bI (f_X11_isWork a3 x1 h) fun h1 v2 => if v2 = 0 then (f_X11_post_39 a0 x1 (1 : Int32) (some a0) h1) else (m_gR (some a0) 11 9 h1 fun o4 => m_aI o4 0 x1 h1 fun v5 => if v5 = (-1 : Int32) then (m_gR (some a0) 11 7 h1 fun o6 => m_aI o6 0 x1 h1 fun v7 => if v7 = 0 then (f_X11_post_34 a0 x1 (some a0) h1) else (f_X11_post_39 a0 x1 (0 : Int32) (some a0) h1)) else (f_X11_post_34 a0 x1 (some a0) h1))
theorem k_X11_post (d : Nat) (hd : 2 ≤ d) (a0 : Nat × Nat) (x1 : Int32) (h : am_H) : am_Con m_X11_post d [.inr (.inr (some a0)), .inl x1] h (f_X11_post a0 x1 h) := am_con (by decide +kernel) (Nat.le_of_ble_eq_true rfl) (by
  unfold f_X11_post
  refine sim_aload_n dX11_post_0 rfl ?_
  refine sim_iload_n dX11_post_1 rfl ?_
  refine sim_ao1 (fun a3 e => ?_)
  refine sim_virt (d - 1) e dX11_post_2 (k_X11_isWork (d - 1) (by omega) _ _ _) q_X11_isWork rfl rfl wm_RX11_152 rfl rfl (by omega) (Nat.le_of_ble_eq_true rfl) am_nI (am_rI fun h1 v2 => ?_) am_eI
  refine sim_istore_n dX11_post_5 (Nat.le_of_ble_eq_true rfl) ?_
  refine sim_aload_n dX11_post_6 rfl ?_
  refine sim_iload_n dX11_post_7 rfl ?_
  refine sim_if_ne 15 dX11_post_8 (by decide) (fun c => ?_) (fun c => ?_)
  · refine sim_aload_n dX11_post_15 rfl ?_
    refine sim_gR 11 9 dX11_post_16 rfl wf_RX11_29 (Nat.le_of_ble_eq_true rfl) rfl (fun o4 => ?_)
    refine sim_iload_n dX11_post_19 rfl ?_
    refine sim_aI dX11_post_20 (fun v5 => ?_)
    refine sim_iconst (-1) dX11_post_21 (by decide +kernel) ?_
    refine sim_ic_ne 34 dX11_post_22 (by decide) (fun c => ?_) (fun c => ?_)
    · exact sim_lv (am_leS (am_leS (am_leN am_leT))) (t_X11_post_34 d (by omega) _ _ _ _)
    · refine sim_aload_n dX11_post_25 rfl ?_
      refine sim_gR 11 7 dX11_post_26 rfl wf_RX11_23 (Nat.le_of_ble_eq_true rfl) rfl (fun o6 => ?_)
      refine sim_iload_n dX11_post_29 rfl ?_
      refine sim_aI dX11_post_30 (fun v7 => ?_)
      refine sim_if_ne 38 dX11_post_31 (by decide) (fun c => ?_) (fun c => ?_)
      · refine sim_iconst (0) dX11_post_38 (by decide +kernel) ?_
        exact sim_lv (am_leS (am_leS (am_leN am_leT))) (t_X11_post_39 d (by omega) _ _ _ _ _)
      · exact sim_lv (am_leS (am_leS (am_leN am_leT))) (t_X11_post_34 d (by omega) _ _ _ _)
  · refine sim_iconst (1) dX11_post_11 (by decide +kernel) ?_
    refine sim_goto 39 dX11_post_12 (by decide) ?_
    exact sim_lv (am_leS (am_leS (am_leN am_leT))) (t_X11_post_39 d (by omega) _ _ _ _ _))
theorem q_X11_post : am_Cal m_X11_post 1 2 := ⟨am_mem 1302 (w := Cond.code yX11_post cX11_post 3 (some .int)) (by decide +kernel) rfl, am_mem 64 (w := Cond.initialized RX11) (by decide +kernel) rfl, fun z => absurd z (by decide), fun _ => am_mem 1300 (w := Cond.instanceMethod yX11_post) (by decide +kernel) rfl, fun z => absurd z (by decide), fun _ => am_mem 1301 (w := Cond.selects RX11 yX11_post yX11_post) (by decide +kernel) rfl, by decide +kernel, by decide +kernel, Nat.le_of_ble_eq_true rfl⟩
abbrev m_X11_belongs : am_M := (yX11_belongs, cX11_belongs, 5, some .int, [])
def f_X11_belongs_58 (rc4 : Nat × Nat → Int32 → Int32 → Int32 → am_H → am_R) (a0 : Nat × Nat) (x1 : Int32) (x3 : Int32) (s0 : Int32) (s1 : Int32) (h : am_H) : am_R := rc4 a0 x1 (s1 ||| s0) (x3 + 1) h
theorem t_X11_belongs_58 (d : Nat) (hd : 2 ≤ d) (rc4 : Nat × Nat → Int32 → Int32 → Int32 → am_H → am_R) (hrc4 : ∀ a0 x1 x2 x3 h, Sim m_X11_belongs d 4 [some (.inr (.inr (some a0))), some (.inl x1), some (.inl x2), some (.inl x3), none] [] h (rc4 a0 x1 x2 x3 h)) (a0 : Nat × Nat) (x1 : Int32) (x3 : Int32) (s0 : Int32) (s1 : Int32) (h : am_H) : Sim m_X11_belongs d 58 [some (.inr (.inr (some a0))), some (.inl x1), none, some (.inl x3), none] [.inl s0, .inl s1] h (f_X11_belongs_58 rc4 a0 x1 x3 s0 s1 h) := by
  unfold f_X11_belongs_58
  refine sim_ior dX11_belongs_58 ?_
  refine sim_istore_n dX11_belongs_59 (Nat.le_of_ble_eq_true rfl) ?_
  refine sim_iinc (1) dX11_belongs_60 rfl (by decide +kernel) (Nat.le_of_ble_eq_true rfl) ?_
  refine sim_goto 4 dX11_belongs_63 (by decide) ?_
  exact sim_lv (am_leS (am_leS (am_leS (am_leS (am_leN am_leT))))) (hrc4 _ _ _ _ _)
def f_X11_belongs_34 (rc4 : Nat × Nat → Int32 → Int32 → Int32 → am_H → am_R) (a0 : Nat × Nat) (x1 : Int32) (x2 : Int32) (x3 : Int32) (s0 : Int32) (h : am_H) : am_R := if s0 = (-1 : Int32) then (f_X11_belongs_58 rc4 a0 x1 x3 (0 : Int32) x2 h) else (m_ao (some a0) 11 fun a11 => m_bI (f_X11_aboveOf a11 s0 h) fun h9 v10 => f_X11_belongs_58 rc4 a0 x1 x3 (((1 : Int32) <<< (s0 &&& 31)) ||| v10) x2 h9)
theorem t_X11_belongs_34 (d : Nat) (hd : 2 ≤ d) (rc4 : Nat × Nat → Int32 → Int32 → Int32 → am_H → am_R) (hrc4 : ∀ a0 x1 x2 x3 h, Sim m_X11_belongs d 4 [some (.inr (.inr (some a0))), some (.inl x1), some (.inl x2), some (.inl x3), none] [] h (rc4 a0 x1 x2 x3 h)) (a0 : Nat × Nat) (x1 : Int32) (x2 : Int32) (x3 : Int32) (s0 : Int32) (h : am_H) : Sim m_X11_belongs d 34 [some (.inr (.inr (some a0))), some (.inl x1), some (.inl x2), some (.inl x3), none] [.inl s0] h (f_X11_belongs_34 rc4 a0 x1 x2 x3 s0 h) := by
  unfold f_X11_belongs_34
  refine sim_istore dX11_belongs_34 (Nat.le_of_ble_eq_true rfl) ?_
  refine sim_iload_n dX11_belongs_36 rfl ?_
  refine sim_iload dX11_belongs_37 rfl ?_
  refine sim_iconst (-1) dX11_belongs_39 (by decide +kernel) ?_
  refine sim_ic_ne 47 dX11_belongs_40 (by decide) (fun c => ?_) (fun c => ?_)
  · refine sim_iconst (1) dX11_belongs_47 (by decide +kernel) ?_
    refine sim_iload dX11_belongs_48 rfl ?_
    refine sim_ishl dX11_belongs_50 ?_
    refine sim_aload_n dX11_belongs_51 rfl ?_
    refine sim_iload dX11_belongs_52 rfl ?_
    refine sim_ao1 (fun a11 e => ?_)
    refine sim_virt (d - 1) e dX11_belongs_54 (k_X11_aboveOf (d - 1) (by omega) _ _ _) q_X11_aboveOf rfl rfl wm_RX11_178 rfl rfl (by omega) (Nat.le_of_ble_eq_true rfl) am_nI (am_rI fun h9 v10 => ?_) am_eI
    refine sim_ior dX11_belongs_57 ?_
    exact sim_lv (am_leS (am_leS (am_leN (am_leS (am_leN am_leT))))) (t_X11_belongs_58 d (by omega) _ hrc4 _ _ _ _ _ _)
  · refine sim_iconst (0) dX11_belongs_43 (by decide +kernel) ?_
    refine sim_goto 58 dX11_belongs_44 (by decide) ?_
    exact sim_lv (am_leS (am_leS (am_leN (am_leS (am_leN am_leT))))) (t_X11_belongs_58 d (by omega) _ hrc4 _ _ _ _ _ _)
def f_X11_belongs_4  : Nat → Nat × Nat → Int32 → Int32 → Int32 → am_H → am_R
  | 0, _, _, _, _, _ => none
  | n + 1, a0, x1, x2, x3, h => m_gI (some a0) 11 20 h fun v1 => if v1 ≤ x3 then (m_ri h x2) else (m_gR (some a0) 11 12 h fun o2 => m_aI o2 0 x1 h fun v3 => m_bI (f_X11_has v3 x3 h) fun h4 v5 => if v5 = 0 then (f_X11_belongs_34 (f_X11_belongs_4  n) a0 x1 x2 x3 (-1 : Int32) h4) else (m_ao (some a0) 11 fun a8 => m_bI (f_X11_meaning a8 x3 h4) fun h6 v7 => f_X11_belongs_34 (f_X11_belongs_4  n) a0 x1 x2 x3 v7 h6))
theorem t_X11_belongs_4 (d : Nat) (hd : 2 ≤ d)  : ∀ (n : Nat) (a0 : Nat × Nat) (x1 : Int32) (x2 : Int32) (x3 : Int32) (h : am_H), Sim m_X11_belongs d 4 [some (.inr (.inr (some a0))), some (.inl x1), some (.inl x2), some (.inl x3), none] [] h (f_X11_belongs_4  n a0 x1 x2 x3 h) := by
  intro n
  induction n with
  | zero => intros; exact sim_none
  | succ n hrc4 =>
    intro a0 x1 x2 x3 h
    rw [f_X11_belongs_4]
    refine sim_iload_n dX11_belongs_4 rfl ?_
    refine sim_aload_n dX11_belongs_5 rfl ?_
    refine sim_gI 11 20 dX11_belongs_6 rfl wf_RX11_136 (Nat.le_of_ble_eq_true rfl) rfl (fun v1 => ?_)
    refine sim_ic_ge 66 dX11_belongs_9 (by decide) (fun c => ?_) (fun c => ?_)
    · refine sim_iload_n dX11_belongs_66 rfl ?_
      exact sim_iret dX11_belongs_67 rfl
    · refine sim_aload_n dX11_belongs_12 rfl ?_
      refine sim_gR 11 12 dX11_belongs_13 rfl wf_RX11_38 (Nat.le_of_ble_eq_true rfl) rfl (fun o2 => ?_)
      refine sim_iload_n dX11_belongs_16 rfl ?_
      refine sim_aI dX11_belongs_17 (fun v3 => ?_)
      refine sim_iload_n dX11_belongs_18 rfl ?_
      refine sim_static (d - 1) dX11_belongs_19 (k_X11_has (d - 1) (by omega) _ _ _) q_X11_has wm_RX11_155 rfl rfl (by omega) (Nat.le_of_ble_eq_true rfl) am_nI (am_rI fun h4 v5 => ?_) am_eI
      refine sim_if_eq 33 dX11_belongs_22 (by decide) (fun c => ?_) (fun c => ?_)
      · refine sim_iconst (-1) dX11_belongs_33 (by decide +kernel) ?_
        exact sim_lv (am_leS (am_leS (am_leS (am_leS (am_leN am_leT))))) (t_X11_belongs_34 d (by omega) _ hrc4 _ _ _ _ _ _)
      · refine sim_aload_n dX11_belongs_25 rfl ?_
        refine sim_iload_n dX11_belongs_26 rfl ?_
        refine sim_ao1 (fun a8 e => ?_)
        refine sim_virt (d - 1) e dX11_belongs_27 (k_X11_meaning (d - 1) (by omega) _ _ _) q_X11_meaning rfl rfl wm_RX11_175 rfl rfl (by omega) (Nat.le_of_ble_eq_true rfl) am_nI (am_rI fun h6 v7 => ?_) am_eI
        refine sim_goto 34 dX11_belongs_30 (by decide) ?_
        exact sim_lv (am_leS (am_leS (am_leS (am_leS (am_leN am_leT))))) (t_X11_belongs_34 d (by omega) _ hrc4 _ _ _ _ _ _)
def f_X11_belongs (a0 : Nat × Nat) (x1 : Int32) (h : am_H) : am_R := f_X11_belongs_4 5000 a0 x1 (0 : Int32) (0 : Int32) h
theorem k_X11_belongs (d : Nat) (hd : 2 ≤ d) (a0 : Nat × Nat) (x1 : Int32) (h : am_H) : am_Con m_X11_belongs d [.inr (.inr (some a0)), .inl x1] h (f_X11_belongs a0 x1 h) := am_con (by decide +kernel) (Nat.le_of_ble_eq_true rfl) (by
  unfold f_X11_belongs
  refine sim_iconst (0) dX11_belongs_0 (by decide +kernel) ?_
  refine sim_istore_n dX11_belongs_1 (Nat.le_of_ble_eq_true rfl) ?_
  refine sim_iconst (0) dX11_belongs_2 (by decide +kernel) ?_
  refine sim_istore_n dX11_belongs_3 (Nat.le_of_ble_eq_true rfl) ?_
  exact sim_lv (am_leS (am_leS (am_leS (am_leS (am_leN am_leT))))) (t_X11_belongs_4 d (by omega) _ _ _ _ _ _))
theorem q_X11_belongs : am_Cal m_X11_belongs 1 2 := ⟨am_mem 1382 (w := Cond.code yX11_belongs cX11_belongs 5 (some .int)) (by decide +kernel) rfl, am_mem 64 (w := Cond.initialized RX11) (by decide +kernel) rfl, fun z => absurd z (by decide), fun _ => am_mem 1381 (w := Cond.instanceMethod yX11_belongs) (by decide +kernel) rfl, fun z => absurd z (by decide), fun _ => am_mem 39 (w := Cond.selects RX11 yX11_belongs yX11_belongs) (by decide +kernel) rfl, by decide +kernel, by decide +kernel, Nat.le_of_ble_eq_true rfl⟩
abbrev m_X11_files : am_M := (yX11_files, cX11_files, 2, none, [])
def f_X11_files (a0 : Nat × Nat) (x1 : Int32) (h : am_H) : am_R := m_gR (some a0) 11 13 h fun o1 => m_ao (some a0) 11 fun a4 => m_bI (f_X11_belongs a4 x1 h) fun h2 v3 => m_sI o1 x1 v3 h2 fun h5 => m_gR (some a0) 11 14 h5 fun o6 => m_sZ o6 x1 (0 : Int32) h5 fun h7 => m_rt h7 none
theorem k_X11_files (d : Nat) (hd : 3 ≤ d) (a0 : Nat × Nat) (x1 : Int32) (h : am_H) : am_Con m_X11_files d [.inr (.inr (some a0)), .inl x1] h (f_X11_files a0 x1 h) := am_con (by decide +kernel) (Nat.le_of_ble_eq_true rfl) (by
  unfold f_X11_files
  refine sim_aload_n dX11_files_0 rfl ?_
  refine sim_gR 11 13 dX11_files_1 rfl wf_RX11_41 (Nat.le_of_ble_eq_true rfl) rfl (fun o1 => ?_)
  refine sim_iload_n dX11_files_4 rfl ?_
  refine sim_aload_n dX11_files_5 rfl ?_
  refine sim_iload_n dX11_files_6 rfl ?_
  refine sim_ao1 (fun a4 e => ?_)
  refine sim_virt (d - 1) e dX11_files_7 (k_X11_belongs (d - 1) (by omega) _ _ _) q_X11_belongs rfl rfl wm_RX11_181 rfl rfl (by omega) (Nat.le_of_ble_eq_true rfl) am_nI (am_rI fun h2 v3 => ?_) am_eI
  refine sim_sI dX11_files_10 (fun h5 => ?_)
  refine sim_aload_n dX11_files_11 rfl ?_
  refine sim_gR 11 14 dX11_files_12 rfl wf_RX11_44 (Nat.le_of_ble_eq_true rfl) rfl (fun o6 => ?_)
  refine sim_iload_n dX11_files_15 rfl ?_
  refine sim_iconst (0) dX11_files_16 (by decide +kernel) ?_
  refine sim_sZ dX11_files_17 (fun h7 => ?_)
  exact sim_vret dX11_files_18 rfl)
theorem q_X11_files : am_Cal m_X11_files 1 2 := ⟨am_mem 1378 (w := Cond.code yX11_files cX11_files 2 none) (by decide +kernel) rfl, am_mem 64 (w := Cond.initialized RX11) (by decide +kernel) rfl, fun z => absurd z (by decide), fun _ => am_mem 1377 (w := Cond.instanceMethod yX11_files) (by decide +kernel) rfl, fun z => absurd z (by decide), fun _ => am_mem 38 (w := Cond.selects RX11 yX11_files yX11_files) (by decide +kernel) rfl, by decide +kernel, by decide +kernel, Nat.le_of_ble_eq_true rfl⟩
abbrev m_X11_put : am_M := (yX11_put, cX11_put, 5, some .boolean, [])
def f_X11_put_70  (a0 : Nat × Nat) (x1 : Int32) (x4 : Int32) (s0 : Int32) (s1 : Int32) (s2 : Int32) (s3 : Option (Nat × Nat)) (h : am_H) : am_R := m_sI s3 s2 (s1 ||| s0) h fun h17 => m_ao (some a0) 11 fun a20 => m_bV (f_X11_files a20 x1 h17) fun h18 => m_rz h18 x4
theorem t_X11_put_70 (d : Nat) (hd : 4 ≤ d)  (a0 : Nat × Nat) (x1 : Int32) (x4 : Int32) (s0 : Int32) (s1 : Int32) (s2 : Int32) (s3 : Option (Nat × Nat)) (h : am_H) : Sim m_X11_put d 70 [some (.inr (.inr (some a0))), some (.inl x1), none, none, some (.inl x4)] [.inl s0, .inl s1, .inl s2, .inr (.inr s3)] h (f_X11_put_70  a0 x1 x4 s0 s1 s2 s3 h) := by
  unfold f_X11_put_70
  refine sim_ior dX11_put_70 ?_
  refine sim_sI dX11_put_71 (fun h17 => ?_)
  refine sim_aload_n dX11_put_72 rfl ?_
  refine sim_iload_n dX11_put_73 rfl ?_
  refine sim_ao1 (fun a20 e => ?_)
  refine sim_virt (d - 1) e dX11_put_74 (k_X11_files (d - 1) (by omega) _ _ _) q_X11_files rfl rfl wm_RX11_190 rfl rfl (by omega) (Nat.le_of_ble_eq_true rfl) am_nV (am_rV fun h18 => ?_) am_eV
  refine sim_iload dX11_put_77 rfl ?_
  exact sim_zret dX11_put_79 rfl
def f_X11_put_22  (a0 : Nat × Nat) (x1 : Int32) (x2 : Int32) (x3 : Int32) (s0 : Int32) (s1 : Option (Nat × Nat)) (h : am_H) : am_R := m_ao s1 11 fun a9 => m_bI (f_X11_holds a9 s0 h) fun h7 v8 => if v8 = 0 then (m_rz h7 (0 : Int32)) else (m_gR (some a0) 11 12 h7 fun o10 => m_aI o10 0 x1 h7 fun v11 => m_bI (f_X11_has v11 x2 h7) fun h12 v13 => m_gR (some a0) 11 12 h12 fun o14 => m_gR (some a0) 11 12 h12 fun o15 => m_aI o15 0 x1 h12 fun v16 => if x3 = 0 then (f_X11_put_70 a0 x1 v13 (0 : Int32) (v16 &&& (((1 : Int32) <<< (x2 &&& 31)) ^^^ (-1 : Int32))) x1 o14 h12) else (f_X11_put_70 a0 x1 v13 ((1 : Int32) <<< (x2 &&& 31)) (v16 &&& (((1 : Int32) <<< (x2 &&& 31)) ^^^ (-1 : Int32))) x1 o14 h12))
theorem t_X11_put_22 (d : Nat) (hd : 4 ≤ d)  (a0 : Nat × Nat) (x1 : Int32) (x2 : Int32) (x3 : Int32) (s0 : Int32) (s1 : Option (Nat × Nat)) (h : am_H) : Sim m_X11_put d 22 [some (.inr (.inr (some a0))), some (.inl x1), some (.inl x2), some (.inl x3), none] [.inl s0, .inr (.inr s1)] h (f_X11_put_22  a0 x1 x2 x3 s0 s1 h) := by
  unfold f_X11_put_22
  refine sim_ao1 (fun a9 e => ?_)
  refine sim_virt (d - 1) e dX11_put_22 (k_X11_holds (d - 1) (by omega) _ _ _) q_X11_holds rfl rfl wm_RX11_142 rfl rfl (by omega) (Nat.le_of_ble_eq_true rfl) am_nI (am_rI fun h7 v8 => ?_) am_eI
  refine sim_if_ne 30 dX11_put_25 (by decide) (fun c => ?_) (fun c => ?_)
  · refine sim_aload_n dX11_put_30 rfl ?_
    refine sim_gR 11 12 dX11_put_31 rfl wf_RX11_38 (Nat.le_of_ble_eq_true rfl) rfl (fun o10 => ?_)
    refine sim_iload_n dX11_put_34 rfl ?_
    refine sim_aI dX11_put_35 (fun v11 => ?_)
    refine sim_iload_n dX11_put_36 rfl ?_
    refine sim_static (d - 1) dX11_put_37 (k_X11_has (d - 1) (by omega) _ _ _) q_X11_has wm_RX11_155 rfl rfl (by omega) (Nat.le_of_ble_eq_true rfl) am_nI (am_rI fun h12 v13 => ?_) am_eI
    refine sim_istore dX11_put_40 (Nat.le_of_ble_eq_true rfl) ?_
    refine sim_aload_n dX11_put_42 rfl ?_
    refine sim_gR 11 12 dX11_put_43 rfl wf_RX11_38 (Nat.le_of_ble_eq_true rfl) rfl (fun o14 => ?_)
    refine sim_iload_n dX11_put_46 rfl ?_
    refine sim_aload_n dX11_put_47 rfl ?_
    refine sim_gR 11 12 dX11_put_48 rfl wf_RX11_38 (Nat.le_of_ble_eq_true rfl) rfl (fun o15 => ?_)
    refine sim_iload_n dX11_put_51 rfl ?_
    refine sim_aI dX11_put_52 (fun v16 => ?_)
    refine sim_iconst (1) dX11_put_53 (by decide +kernel) ?_
    refine sim_iload_n dX11_put_54 rfl ?_
    refine sim_ishl dX11_put_55 ?_
    refine sim_iconst (-1) dX11_put_56 (by decide +kernel) ?_
    refine sim_ixor dX11_put_57 ?_
    refine sim_iand dX11_put_58 ?_
    refine sim_iload_n dX11_put_59 rfl ?_
    refine sim_if_eq 69 dX11_put_60 (by decide) (fun c => ?_) (fun c => ?_)
    · refine sim_iconst (0) dX11_put_69 (by decide +kernel) ?_
      exact sim_lv (am_leS (am_leS (am_leN (am_leN (am_leS am_leT))))) (t_X11_put_70 d (by omega) _ _ _ _ _ _ _ _)
    · refine sim_iconst (1) dX11_put_63 (by decide +kernel) ?_
      refine sim_iload_n dX11_put_64 rfl ?_
      refine sim_ishl dX11_put_65 ?_
      refine sim_goto 70 dX11_put_66 (by decide) ?_
      exact sim_lv (am_leS (am_leS (am_leN (am_leN (am_leS am_leT))))) (t_X11_put_70 d (by omega) _ _ _ _ _ _ _ _)
  · refine sim_iconst (0) dX11_put_28 (by decide +kernel) ?_
    exact sim_zret dX11_put_29 rfl
def f_X11_put_21  (a0 : Nat × Nat) (x1 : Int32) (x2 : Int32) (x3 : Int32) (s0 : Option (Nat × Nat)) (h : am_H) : am_R := f_X11_put_22 a0 x1 x2 x3 (1 : Int32) s0 h
theorem t_X11_put_21 (d : Nat) (hd : 4 ≤ d)  (a0 : Nat × Nat) (x1 : Int32) (x2 : Int32) (x3 : Int32) (s0 : Option (Nat × Nat)) (h : am_H) : Sim m_X11_put d 21 [some (.inr (.inr (some a0))), some (.inl x1), some (.inl x2), some (.inl x3), none] [.inr (.inr s0)] h (f_X11_put_21  a0 x1 x2 x3 s0 h) := by
  unfold f_X11_put_21
  refine sim_iconst (1) dX11_put_21 (by decide +kernel) ?_
  exact sim_lv (am_leS (am_leS (am_leS (am_leS (am_leN am_leT))))) (t_X11_put_22 d (by omega) _ _ _ _ _ _ _)
def f_X11_put (a0 : Nat × Nat) (x1 : Int32) (x2 : Int32) (x3 : Int32) (h : am_H) : am_R := m_ao (some a0) 11 fun a3 => m_bI (f_X11_isWork a3 x1 h) fun h1 v2 => if v2 = 0 then (f_X11_put_21 a0 x1 x2 x3 (some a0) h1) else (m_ao (some a0) 11 fun a6 => m_bI (f_X11_isTag a6 x2 h1) fun h4 v5 => if v5 = 0 then (f_X11_put_21 a0 x1 x2 x3 (some a0) h4) else (f_X11_put_22 a0 x1 x2 x3 (0 : Int32) (some a0) h4))
theorem k_X11_put (d : Nat) (hd : 4 ≤ d) (a0 : Nat × Nat) (x1 : Int32) (x2 : Int32) (x3 : Int32) (h : am_H) : am_Con m_X11_put d [.inr (.inr (some a0)), .inl x1, .inl x2, .inl x3] h (f_X11_put a0 x1 x2 x3 h) := am_con (by decide +kernel) (Nat.le_of_ble_eq_true rfl) (by
  unfold f_X11_put
  refine sim_aload_n dX11_put_0 rfl ?_
  refine sim_aload_n dX11_put_1 rfl ?_
  refine sim_iload_n dX11_put_2 rfl ?_
  refine sim_ao1 (fun a3 e => ?_)
  refine sim_virt (d - 1) e dX11_put_3 (k_X11_isWork (d - 1) (by omega) _ _ _) q_X11_isWork rfl rfl wm_RX11_152 rfl rfl (by omega) (Nat.le_of_ble_eq_true rfl) am_nI (am_rI fun h1 v2 => ?_) am_eI
  refine sim_if_eq 21 dX11_put_6 (by decide) (fun c => ?_) (fun c => ?_)
  · exact sim_lv (am_leS (am_leS (am_leS (am_leS (am_leN am_leT))))) (t_X11_put_21 d (by omega) _ _ _ _ _ _)
  · refine sim_aload_n dX11_put_9 rfl ?_
    refine sim_iload_n dX11_put_10 rfl ?_
    refine sim_ao1 (fun a6 e => ?_)
    refine sim_virt (d - 1) e dX11_put_11 (k_X11_isTag (d - 1) (by omega) _ _ _) q_X11_isTag rfl rfl wm_RX11_184 rfl rfl (by omega) (Nat.le_of_ble_eq_true rfl) am_nI (am_rI fun h4 v5 => ?_) am_eI
    refine sim_if_eq 21 dX11_put_14 (by decide) (fun c => ?_) (fun c => ?_)
    · exact sim_lv (am_leS (am_leS (am_leS (am_leS (am_leN am_leT))))) (t_X11_put_21 d (by omega) _ _ _ _ _ _)
    · refine sim_iconst (0) dX11_put_17 (by decide +kernel) ?_
      refine sim_goto 22 dX11_put_18 (by decide) ?_
      exact sim_lv (am_leS (am_leS (am_leS (am_leS (am_leN am_leT))))) (t_X11_put_22 d (by omega) _ _ _ _ _ _ _))
theorem q_X11_put : am_Cal m_X11_put 3 2 := ⟨am_mem 1374 (w := Cond.code yX11_put cX11_put 5 (some .boolean)) (by decide +kernel) rfl, am_mem 64 (w := Cond.initialized RX11) (by decide +kernel) rfl, fun z => absurd z (by decide), fun _ => am_mem 1372 (w := Cond.instanceMethod yX11_put) (by decide +kernel) rfl, fun z => absurd z (by decide), fun _ => am_mem 1373 (w := Cond.selects RX11 yX11_put yX11_put) (by decide +kernel) rfl, by decide +kernel, by decide +kernel, Nat.le_of_ble_eq_true rfl⟩
abbrev m_X11_reads : am_M := (yX11_reads, cX11_reads, 5, some .int, [])
def f_X11_reads_70 (rc34 : Nat × Nat → Int32 → Int32 → Int32 → Int32 → am_H → am_R) (a0 : Nat × Nat) (x1 : Int32) (x2 : Int32) (x4 : Int32) (s0 : Int32) (s1 : Int32) (h : am_H) : am_R := rc34 a0 x1 x2 (s1 + s0) (x4 + 1) h
theorem t_X11_reads_70 (d : Nat) (hd : 4 ≤ d) (rc34 : Nat × Nat → Int32 → Int32 → Int32 → Int32 → am_H → am_R) (hrc34 : ∀ a0 x1 x2 x3 x4 h, Sim m_X11_reads d 34 [some (.inr (.inr (some a0))), some (.inl x1), some (.inl x2), some (.inl x3), some (.inl x4)] [] h (rc34 a0 x1 x2 x3 x4 h)) (a0 : Nat × Nat) (x1 : Int32) (x2 : Int32) (x4 : Int32) (s0 : Int32) (s1 : Int32) (h : am_H) : Sim m_X11_reads d 70 [some (.inr (.inr (some a0))), some (.inl x1), some (.inl x2), none, some (.inl x4)] [.inl s0, .inl s1] h (f_X11_reads_70 rc34 a0 x1 x2 x4 s0 s1 h) := by
  unfold f_X11_reads_70
  refine sim_iadd dX11_reads_70 ?_
  refine sim_istore_n dX11_reads_71 (Nat.le_of_ble_eq_true rfl) ?_
  refine sim_iinc (1) dX11_reads_72 rfl (by decide +kernel) (Nat.le_of_ble_eq_true rfl) ?_
  refine sim_goto 34 dX11_reads_75 (by decide) ?_
  exact sim_lv (am_leS (am_leS (am_leS (am_leS (am_leS am_leT))))) (hrc34 _ _ _ _ _ _)
def f_X11_reads_69 (rc34 : Nat × Nat → Int32 → Int32 → Int32 → Int32 → am_H → am_R) (a0 : Nat × Nat) (x1 : Int32) (x2 : Int32) (x4 : Int32) (s0 : Int32) (h : am_H) : am_R := f_X11_reads_70 rc34 a0 x1 x2 x4 (0 : Int32) s0 h
theorem t_X11_reads_69 (d : Nat) (hd : 4 ≤ d) (rc34 : Nat × Nat → Int32 → Int32 → Int32 → Int32 → am_H → am_R) (hrc34 : ∀ a0 x1 x2 x3 x4 h, Sim m_X11_reads d 34 [some (.inr (.inr (some a0))), some (.inl x1), some (.inl x2), some (.inl x3), some (.inl x4)] [] h (rc34 a0 x1 x2 x3 x4 h)) (a0 : Nat × Nat) (x1 : Int32) (x2 : Int32) (x4 : Int32) (s0 : Int32) (h : am_H) : Sim m_X11_reads d 69 [some (.inr (.inr (some a0))), some (.inl x1), some (.inl x2), none, some (.inl x4)] [.inl s0] h (f_X11_reads_69 rc34 a0 x1 x2 x4 s0 h) := by
  unfold f_X11_reads_69
  refine sim_iconst (0) dX11_reads_69 (by decide +kernel) ?_
  exact sim_lv (am_leS (am_leS (am_leS (am_leN (am_leS am_leT))))) (t_X11_reads_70 d (by omega) _ hrc34 _ _ _ _ _ _ _)
def f_X11_reads_34  : Nat → Nat × Nat → Int32 → Int32 → Int32 → Int32 → am_H → am_R
  | 0, _, _, _, _, _, _ => none
  | n + 1, a0, x1, x2, x3, x4, h => m_gI (some a0) 11 37 h fun v9 => if v9 ≤ x4 then (m_ri h x3) else (m_gR (some a0) 11 38 h fun o10 => m_aI o10 0 x4 h fun v11 => if v11 = x1 then (m_ao (some a0) 11 fun a14 => m_bI (f_X11_isRead a14 x4 x2 h) fun h12 v13 => if v13 = 0 then (f_X11_reads_69 (f_X11_reads_34  n) a0 x1 x2 x4 x3 h12) else (f_X11_reads_70 (f_X11_reads_34  n) a0 x1 x2 x4 (1 : Int32) x3 h12)) else (f_X11_reads_69 (f_X11_reads_34  n) a0 x1 x2 x4 x3 h))
theorem t_X11_reads_34 (d : Nat) (hd : 4 ≤ d)  : ∀ (n : Nat) (a0 : Nat × Nat) (x1 : Int32) (x2 : Int32) (x3 : Int32) (x4 : Int32) (h : am_H), Sim m_X11_reads d 34 [some (.inr (.inr (some a0))), some (.inl x1), some (.inl x2), some (.inl x3), some (.inl x4)] [] h (f_X11_reads_34  n a0 x1 x2 x3 x4 h) := by
  intro n
  induction n with
  | zero => intros; exact sim_none
  | succ n hrc34 =>
    intro a0 x1 x2 x3 x4 h
    rw [f_X11_reads_34]
    refine sim_iload dX11_reads_34 rfl ?_
    refine sim_aload_n dX11_reads_36 rfl ?_
    refine sim_gI 11 37 dX11_reads_37 rfl wf_RX11_248 (Nat.le_of_ble_eq_true rfl) rfl (fun v9 => ?_)
    refine sim_ic_ge 78 dX11_reads_40 (by decide) (fun c => ?_) (fun c => ?_)
    · refine sim_iload_n dX11_reads_78 rfl ?_
      exact sim_iret dX11_reads_79 rfl
    · refine sim_iload_n dX11_reads_43 rfl ?_
      refine sim_aload_n dX11_reads_44 rfl ?_
      refine sim_gR 11 38 dX11_reads_45 rfl wf_RX11_98 (Nat.le_of_ble_eq_true rfl) rfl (fun o10 => ?_)
      refine sim_iload dX11_reads_48 rfl ?_
      refine sim_aI dX11_reads_50 (fun v11 => ?_)
      refine sim_iload_n dX11_reads_51 rfl ?_
      refine sim_ic_ne 69 dX11_reads_52 (by decide) (fun c => ?_) (fun c => ?_)
      · exact sim_lv (am_leS (am_leS (am_leS (am_leN (am_leS am_leT))))) (t_X11_reads_69 d (by omega) _ hrc34 _ _ _ _ _ _)
      · refine sim_aload_n dX11_reads_55 rfl ?_
        refine sim_iload dX11_reads_56 rfl ?_
        refine sim_iload_n dX11_reads_58 rfl ?_
        refine sim_ao2 (fun a14 e => ?_)
        refine sim_virt (d - 1) e dX11_reads_59 (k_X11_isRead (d - 1) (by omega) _ _ _ _) q_X11_isRead rfl rfl wm_RX11_254 rfl rfl (by omega) (Nat.le_of_ble_eq_true rfl) am_nI (am_rI fun h12 v13 => ?_) am_eI
        refine sim_if_eq 69 dX11_reads_62 (by decide) (fun c => ?_) (fun c => ?_)
        · exact sim_lv (am_leS (am_leS (am_leS (am_leN (am_leS am_leT))))) (t_X11_reads_69 d (by omega) _ hrc34 _ _ _ _ _ _)
        · refine sim_iconst (1) dX11_reads_65 (by decide +kernel) ?_
          refine sim_goto 70 dX11_reads_66 (by decide) ?_
          exact sim_lv (am_leS (am_leS (am_leS (am_leN (am_leS am_leT))))) (t_X11_reads_70 d (by omega) _ hrc34 _ _ _ _ _ _ _)
def f_X11_reads_21  (a0 : Nat × Nat) (x1 : Int32) (x2 : Int32) (s0 : Int32) (s1 : Option (Nat × Nat)) (h : am_H) : am_R := m_ao s1 11 fun a8 => m_bI (f_X11_holds a8 s0 h) fun h6 v7 => if v7 = 0 then (m_ri h6 (0 : Int32)) else (f_X11_reads_34 5000 a0 x1 x2 (0 : Int32) (0 : Int32) h6)
theorem t_X11_reads_21 (d : Nat) (hd : 4 ≤ d)  (a0 : Nat × Nat) (x1 : Int32) (x2 : Int32) (s0 : Int32) (s1 : Option (Nat × Nat)) (h : am_H) : Sim m_X11_reads d 21 [some (.inr (.inr (some a0))), some (.inl x1), some (.inl x2), none, none] [.inl s0, .inr (.inr s1)] h (f_X11_reads_21  a0 x1 x2 s0 s1 h) := by
  unfold f_X11_reads_21
  refine sim_ao1 (fun a8 e => ?_)
  refine sim_virt (d - 1) e dX11_reads_21 (k_X11_holds (d - 1) (by omega) _ _ _) q_X11_holds rfl rfl wm_RX11_142 rfl rfl (by omega) (Nat.le_of_ble_eq_true rfl) am_nI (am_rI fun h6 v7 => ?_) am_eI
  refine sim_if_ne 29 dX11_reads_24 (by decide) (fun c => ?_) (fun c => ?_)
  · refine sim_iconst (0) dX11_reads_29 (by decide +kernel) ?_
    refine sim_istore_n dX11_reads_30 (Nat.le_of_ble_eq_true rfl) ?_
    refine sim_iconst (0) dX11_reads_31 (by decide +kernel) ?_
    refine sim_istore dX11_reads_32 (Nat.le_of_ble_eq_true rfl) ?_
    exact sim_lv (am_leS (am_leS (am_leS (am_leS (am_leS am_leT))))) (t_X11_reads_34 d (by omega) _ _ _ _ _ _ _)
  · refine sim_iconst (0) dX11_reads_27 (by decide +kernel) ?_
    exact sim_iret dX11_reads_28 rfl
def f_X11_reads_20  (a0 : Nat × Nat) (x1 : Int32) (x2 : Int32) (s0 : Option (Nat × Nat)) (h : am_H) : am_R := f_X11_reads_21 a0 x1 x2 (1 : Int32) s0 h
theorem t_X11_reads_20 (d : Nat) (hd : 4 ≤ d)  (a0 : Nat × Nat) (x1 : Int32) (x2 : Int32) (s0 : Option (Nat × Nat)) (h : am_H) : Sim m_X11_reads d 20 [some (.inr (.inr (some a0))), some (.inl x1), some (.inl x2), none, none] [.inr (.inr s0)] h (f_X11_reads_20  a0 x1 x2 s0 h) := by
  unfold f_X11_reads_20
  refine sim_iconst (1) dX11_reads_20 (by decide +kernel) ?_
  exact sim_lv (am_leS (am_leS (am_leS (am_leN (am_leN am_leT))))) (t_X11_reads_21 d (by omega) _ _ _ _ _ _)
def f_X11_reads (a0 : Nat × Nat) (x1 : Int32) (x2 : Int32) (h : am_H) : am_R := m_ao (some a0) 11 fun a3 => m_bI (f_X11_isWork a3 x1 h) fun h1 v2 => if v2 = 0 then (f_X11_reads_20 a0 x1 x2 (some a0) h1) else (m_bI (f_X11_isFace x2 h1) fun h4 v5 => if v5 = 0 then (f_X11_reads_20 a0 x1 x2 (some a0) h4) else (f_X11_reads_21 a0 x1 x2 (0 : Int32) (some a0) h4))
theorem k_X11_reads (d : Nat) (hd : 4 ≤ d) (a0 : Nat × Nat) (x1 : Int32) (x2 : Int32) (h : am_H) : am_Con m_X11_reads d [.inr (.inr (some a0)), .inl x1, .inl x2] h (f_X11_reads a0 x1 x2 h) := am_con (by decide +kernel) (Nat.le_of_ble_eq_true rfl) (by
  unfold f_X11_reads
  refine sim_aload_n dX11_reads_0 rfl ?_
  refine sim_aload_n dX11_reads_1 rfl ?_
  refine sim_iload_n dX11_reads_2 rfl ?_
  refine sim_ao1 (fun a3 e => ?_)
  refine sim_virt (d - 1) e dX11_reads_3 (k_X11_isWork (d - 1) (by omega) _ _ _) q_X11_isWork rfl rfl wm_RX11_152 rfl rfl (by omega) (Nat.le_of_ble_eq_true rfl) am_nI (am_rI fun h1 v2 => ?_) am_eI
  refine sim_if_eq 20 dX11_reads_6 (by decide) (fun c => ?_) (fun c => ?_)
  · exact sim_lv (am_leS (am_leS (am_leS (am_leN (am_leN am_leT))))) (t_X11_reads_20 d (by omega) _ _ _ _ _)
  · refine sim_iload_n dX11_reads_9 rfl ?_
    refine sim_static (d - 1) dX11_reads_10 (k_X11_isFace (d - 1) (by omega) _ _) q_X11_isFace wm_RX11_149 rfl rfl (by omega) (Nat.le_of_ble_eq_true rfl) am_nI (am_rI fun h4 v5 => ?_) am_eI
    refine sim_if_eq 20 dX11_reads_13 (by decide) (fun c => ?_) (fun c => ?_)
    · exact sim_lv (am_leS (am_leS (am_leS (am_leN (am_leN am_leT))))) (t_X11_reads_20 d (by omega) _ _ _ _ _)
    · refine sim_iconst (0) dX11_reads_16 (by decide +kernel) ?_
      refine sim_goto 21 dX11_reads_17 (by decide) ?_
      exact sim_lv (am_leS (am_leS (am_leS (am_leN (am_leN am_leT))))) (t_X11_reads_21 d (by omega) _ _ _ _ _ _))
theorem q_X11_reads : am_Cal m_X11_reads 2 2 := ⟨am_mem 1504 (w := Cond.code yX11_reads cX11_reads 5 (some .int)) (by decide +kernel) rfl, am_mem 64 (w := Cond.initialized RX11) (by decide +kernel) rfl, fun z => absurd z (by decide), fun _ => am_mem 1502 (w := Cond.instanceMethod yX11_reads) (by decide +kernel) rfl, fun z => absurd z (by decide), fun _ => am_mem 1503 (w := Cond.selects RX11 yX11_reads yX11_reads) (by decide +kernel) rfl, by decide +kernel, by decide +kernel, Nat.le_of_ble_eq_true rfl⟩
abbrev m_X11_latest : am_M := (yX11_latest, cX11_latest, 2, some .int, [])
def f_X11_latest_27  (s0 : Int32) (h : am_H) : am_R := m_ri h s0
theorem t_X11_latest_27 (d : Nat) (hd : 1 ≤ d)  (s0 : Int32) (h : am_H) : Sim m_X11_latest d 27 [none, none] [.inl s0] h (f_X11_latest_27  s0 h) := by
  unfold f_X11_latest_27
  exact sim_iret dX11_latest_27 rfl
def f_X11_latest (a0 : Nat × Nat) (x1 : Int32) (h : am_H) : am_R := m_gR (some a0) 11 9 h fun o1 => m_aI o1 0 x1 h fun v2 => if v2 = (-1 : Int32) then (f_X11_latest_27 (-1 : Int32) h) else (m_gR (some a0) 11 7 h fun o3 => m_aI o3 0 x1 h fun v4 => m_ao (some a0) 11 fun a7 => m_bI (f_X11_outDay a7 x1 (v4 - (1 : Int32)) h) fun h5 v6 => f_X11_latest_27 v6 h5)
theorem k_X11_latest (d : Nat) (hd : 1 ≤ d) (a0 : Nat × Nat) (x1 : Int32) (h : am_H) : am_Con m_X11_latest d [.inr (.inr (some a0)), .inl x1] h (f_X11_latest a0 x1 h) := am_con (by decide +kernel) (Nat.le_of_ble_eq_true rfl) (by
  unfold f_X11_latest
  refine sim_aload_n dX11_latest_0 rfl ?_
  refine sim_gR 11 9 dX11_latest_1 rfl wf_RX11_29 (Nat.le_of_ble_eq_true rfl) rfl (fun o1 => ?_)
  refine sim_iload_n dX11_latest_4 rfl ?_
  refine sim_aI dX11_latest_5 (fun v2 => ?_)
  refine sim_iconst (-1) dX11_latest_6 (by decide +kernel) ?_
  refine sim_ic_ne 14 dX11_latest_7 (by decide) (fun c => ?_) (fun c => ?_)
  · refine sim_aload_n dX11_latest_14 rfl ?_
    refine sim_iload_n dX11_latest_15 rfl ?_
    refine sim_aload_n dX11_latest_16 rfl ?_
    refine sim_gR 11 7 dX11_latest_17 rfl wf_RX11_23 (Nat.le_of_ble_eq_true rfl) rfl (fun o3 => ?_)
    refine sim_iload_n dX11_latest_20 rfl ?_
    refine sim_aI dX11_latest_21 (fun v4 => ?_)
    refine sim_iconst (1) dX11_latest_22 (by decide +kernel) ?_
    refine sim_isub dX11_latest_23 ?_
    refine sim_ao2 (fun a7 e => ?_)
    refine sim_virt (d - 1) e dX11_latest_24 (k_X11_outDay (d - 1) (by omega) _ _ _ _) q_X11_outDay rfl rfl wm_RX11_233 rfl rfl (by omega) (Nat.le_of_ble_eq_true rfl) am_nI (am_rI fun h5 v6 => ?_) am_eI
    exact sim_lv (am_leN (am_leN am_leT)) (t_X11_latest_27 d (by omega) _ _)
  · refine sim_iconst (-1) dX11_latest_10 (by decide +kernel) ?_
    refine sim_goto 27 dX11_latest_11 (by decide) ?_
    exact sim_lv (am_leN (am_leN am_leT)) (t_X11_latest_27 d (by omega) _ _))
theorem q_X11_latest : am_Cal m_X11_latest 1 2 := ⟨am_mem 1452 (w := Cond.code yX11_latest cX11_latest 2 (some .int)) (by decide +kernel) rfl, am_mem 64 (w := Cond.initialized RX11) (by decide +kernel) rfl, fun z => absurd z (by decide), fun _ => am_mem 1451 (w := Cond.instanceMethod yX11_latest) (by decide +kernel) rfl, fun z => absurd z (by decide), fun _ => am_mem 46 (w := Cond.selects RX11 yX11_latest yX11_latest) (by decide +kernel) rfl, by decide +kernel, by decide +kernel, Nat.le_of_ble_eq_true rfl⟩
abbrev m_X11_gets : am_M := (yX11_gets, cX11_gets, 2, none, [])
def f_X11_gets_38  (a0 : Nat × Nat) (s0 : Int32) (s1 : Int32) (s2 : Option (Nat × Nat)) (h : am_H) : am_R := m_sZ s2 s1 s0 h fun h9 => m_gR (some a0) 11 28 h9 fun o10 => m_gI (some a0) 11 29 h9 fun v11 => m_sZ o10 v11 (0 : Int32) h9 fun h12 => m_rt h12 none
theorem t_X11_gets_38 (d : Nat) (hd : 0 ≤ d)  (a0 : Nat × Nat) (s0 : Int32) (s1 : Int32) (s2 : Option (Nat × Nat)) (h : am_H) : Sim m_X11_gets d 38 [some (.inr (.inr (some a0))), none] [.inl s0, .inl s1, .inr (.inr s2)] h (f_X11_gets_38  a0 s0 s1 s2 h) := by
  unfold f_X11_gets_38
  refine sim_sZ dX11_gets_38 (fun h9 => ?_)
  refine sim_aload_n dX11_gets_39 rfl ?_
  refine sim_gR 11 28 dX11_gets_40 rfl wf_RX11_77 (Nat.le_of_ble_eq_true rfl) rfl (fun o10 => ?_)
  refine sim_aload_n dX11_gets_43 rfl ?_
  refine sim_gI 11 29 dX11_gets_44 rfl wf_RX11_213 (Nat.le_of_ble_eq_true rfl) rfl (fun v11 => ?_)
  refine sim_iconst (0) dX11_gets_47 (by decide +kernel) ?_
  refine sim_sZ dX11_gets_48 (fun h12 => ?_)
  exact sim_vret dX11_gets_49 rfl
def f_X11_gets_37  (a0 : Nat × Nat) (s0 : Int32) (s1 : Option (Nat × Nat)) (h : am_H) : am_R := f_X11_gets_38 a0 (0 : Int32) s0 s1 h
theorem t_X11_gets_37 (d : Nat) (hd : 0 ≤ d)  (a0 : Nat × Nat) (s0 : Int32) (s1 : Option (Nat × Nat)) (h : am_H) : Sim m_X11_gets d 37 [some (.inr (.inr (some a0))), none] [.inl s0, .inr (.inr s1)] h (f_X11_gets_37  a0 s0 s1 h) := by
  unfold f_X11_gets_37
  refine sim_iconst (0) dX11_gets_37 (by decide +kernel) ?_
  exact sim_lv (am_leS (am_leN am_leT)) (t_X11_gets_38 d (by omega) _ _ _ _ _)
def f_X11_gets (a0 : Nat × Nat) (x1 : Int32) (h : am_H) : am_R := m_gR (some a0) 11 27 h fun o1 => m_gI (some a0) 11 29 h fun v2 => m_gR (some a0) 11 27 h fun o3 => m_gI (some a0) 11 29 h fun v4 => m_aI o3 1 v4 h fun v5 => if v5 = 0 then (f_X11_gets_37 a0 v2 o1 h) else (m_gR (some a0) 11 28 h fun o6 => m_gI (some a0) 11 29 h fun v7 => m_aI o6 1 v7 h fun v8 => if x1 = v8 then (f_X11_gets_37 a0 v2 o1 h) else (f_X11_gets_38 a0 (1 : Int32) v2 o1 h))
theorem k_X11_gets (d : Nat) (hd : 0 ≤ d) (a0 : Nat × Nat) (x1 : Int32) (h : am_H) : am_Con m_X11_gets d [.inr (.inr (some a0)), .inl x1] h (f_X11_gets a0 x1 h) := am_con (by decide +kernel) (Nat.le_of_ble_eq_true rfl) (by
  unfold f_X11_gets
  refine sim_aload_n dX11_gets_0 rfl ?_
  refine sim_gR 11 27 dX11_gets_1 rfl wf_RX11_74 (Nat.le_of_ble_eq_true rfl) rfl (fun o1 => ?_)
  refine sim_aload_n dX11_gets_4 rfl ?_
  refine sim_gI 11 29 dX11_gets_5 rfl wf_RX11_213 (Nat.le_of_ble_eq_true rfl) rfl (fun v2 => ?_)
  refine sim_aload_n dX11_gets_8 rfl ?_
  refine sim_gR 11 27 dX11_gets_9 rfl wf_RX11_74 (Nat.le_of_ble_eq_true rfl) rfl (fun o3 => ?_)
  refine sim_aload_n dX11_gets_12 rfl ?_
  refine sim_gI 11 29 dX11_gets_13 rfl wf_RX11_213 (Nat.le_of_ble_eq_true rfl) rfl (fun v4 => ?_)
  refine sim_aZ dX11_gets_16 (fun v5 => ?_)
  refine sim_if_eq 37 dX11_gets_17 (by decide) (fun c => ?_) (fun c => ?_)
  · exact sim_lv (am_leS (am_leN am_leT)) (t_X11_gets_37 d (by omega) _ _ _ _)
  · refine sim_iload_n dX11_gets_20 rfl ?_
    refine sim_aload_n dX11_gets_21 rfl ?_
    refine sim_gR 11 28 dX11_gets_22 rfl wf_RX11_77 (Nat.le_of_ble_eq_true rfl) rfl (fun o6 => ?_)
    refine sim_aload_n dX11_gets_25 rfl ?_
    refine sim_gI 11 29 dX11_gets_26 rfl wf_RX11_213 (Nat.le_of_ble_eq_true rfl) rfl (fun v7 => ?_)
    refine sim_aZ dX11_gets_29 (fun v8 => ?_)
    refine sim_ic_eq 37 dX11_gets_30 (by decide) (fun c => ?_) (fun c => ?_)
    · exact sim_lv (am_leS (am_leN am_leT)) (t_X11_gets_37 d (by omega) _ _ _ _)
    · refine sim_iconst (1) dX11_gets_33 (by decide +kernel) ?_
      refine sim_goto 38 dX11_gets_34 (by decide) ?_
      exact sim_lv (am_leS (am_leN am_leT)) (t_X11_gets_38 d (by omega) _ _ _ _ _))
theorem q_X11_gets : am_Cal m_X11_gets 1 2 := ⟨am_mem 1440 (w := Cond.code yX11_gets cX11_gets 2 none) (by decide +kernel) rfl, am_mem 64 (w := Cond.initialized RX11) (by decide +kernel) rfl, fun z => absurd z (by decide), fun _ => am_mem 1439 (w := Cond.instanceMethod yX11_gets) (by decide +kernel) rfl, fun z => absurd z (by decide), fun _ => am_mem 44 (w := Cond.selects RX11 yX11_gets yX11_gets) (by decide +kernel) rfl, by decide +kernel, by decide +kernel, Nat.le_of_ble_eq_true rfl⟩
abbrev m_X11_isOfTag : am_M := (yX11_isOfTag, cX11_isOfTag, 5, some .boolean, [])
def f_X11_isOfTag_59  (s0 : Int32) (h : am_H) : am_R := m_rz h s0
theorem t_X11_isOfTag_59 (d : Nat) (hd : 3 ≤ d)  (s0 : Int32) (h : am_H) : Sim m_X11_isOfTag d 59 [none, none, none, none, none] [.inl s0] h (f_X11_isOfTag_59  s0 h) := by
  unfold f_X11_isOfTag_59
  exact sim_zret dX11_isOfTag_59 rfl
def f_X11_isOfTag_54  (x4 : Int32) (s0 : Int32) (h : am_H) : am_R := m_bI (f_X11_has s0 x4 h) fun h16 v17 => f_X11_isOfTag_59 v17 h16
theorem t_X11_isOfTag_54 (d : Nat) (hd : 3 ≤ d)  (x4 : Int32) (s0 : Int32) (h : am_H) : Sim m_X11_isOfTag d 54 [none, none, none, none, some (.inl x4)] [.inl s0] h (f_X11_isOfTag_54  x4 s0 h) := by
  unfold f_X11_isOfTag_54
  refine sim_iload dX11_isOfTag_54 rfl ?_
  refine sim_static (d - 1) dX11_isOfTag_56 (k_X11_has (d - 1) (by omega) _ _ _) q_X11_has wm_RX11_155 rfl rfl (by omega) (Nat.le_of_ble_eq_true rfl) am_nI (am_rI fun h16 v17 => ?_) am_eI
  exact sim_lv (am_leN (am_leN (am_leN (am_leN (am_leN am_leT))))) (t_X11_isOfTag_59 d (by omega) _ _)
def f_X11_isOfTag (a0 : Nat × Nat) (x1 : Int32) (x2 : Int32) (x3 : Int32) (h : am_H) : am_R := m_ao (some a0) 11 fun a3 => m_bI (f_X11_isTag a3 x2 h) fun h1 v2 => if v2 = 0 then (m_rz h1 (0 : Int32)) else (m_ao (some a0) 11 fun a6 => m_bI (f_X11_meaning a6 x2 h1) fun h4 v5 => if v5 = (-1 : Int32) then (m_gR (some a0) 11 12 h4 fun o12 => m_aI o12 0 x1 h4 fun v13 => m_bI (f_X11_has v13 x2 h4) fun h14 v15 => f_X11_isOfTag_59 v15 h14) else (if x3 = 0 then (m_gR (some a0) 11 13 h4 fun o7 => m_aI o7 0 x1 h4 fun v8 => f_X11_isOfTag_54 v5 v8 h4) else (m_ao (some a0) 11 fun a11 => m_bI (f_X11_belongs a11 x1 h4) fun h9 v10 => f_X11_isOfTag_54 v5 v10 h9)))
theorem k_X11_isOfTag (d : Nat) (hd : 3 ≤ d) (a0 : Nat × Nat) (x1 : Int32) (x2 : Int32) (x3 : Int32) (h : am_H) : am_Con m_X11_isOfTag d [.inr (.inr (some a0)), .inl x1, .inl x2, .inl x3] h (f_X11_isOfTag a0 x1 x2 x3 h) := am_con (by decide +kernel) (Nat.le_of_ble_eq_true rfl) (by
  unfold f_X11_isOfTag
  refine sim_aload_n dX11_isOfTag_0 rfl ?_
  refine sim_iload_n dX11_isOfTag_1 rfl ?_
  refine sim_ao1 (fun a3 e => ?_)
  refine sim_virt (d - 1) e dX11_isOfTag_2 (k_X11_isTag (d - 1) (by omega) _ _ _) q_X11_isTag rfl rfl wm_RX11_184 rfl rfl (by omega) (Nat.le_of_ble_eq_true rfl) am_nI (am_rI fun h1 v2 => ?_) am_eI
  refine sim_if_ne 10 dX11_isOfTag_5 (by decide) (fun c => ?_) (fun c => ?_)
  · refine sim_aload_n dX11_isOfTag_10 rfl ?_
    refine sim_iload_n dX11_isOfTag_11 rfl ?_
    refine sim_ao1 (fun a6 e => ?_)
    refine sim_virt (d - 1) e dX11_isOfTag_12 (k_X11_meaning (d - 1) (by omega) _ _ _) q_X11_meaning rfl rfl wm_RX11_175 rfl rfl (by omega) (Nat.le_of_ble_eq_true rfl) am_nI (am_rI fun h4 v5 => ?_) am_eI
    refine sim_istore dX11_isOfTag_15 (Nat.le_of_ble_eq_true rfl) ?_
    refine sim_iload dX11_isOfTag_17 rfl ?_
    refine sim_iconst (-1) dX11_isOfTag_19 (by decide +kernel) ?_
    refine sim_ic_ne 36 dX11_isOfTag_20 (by decide) (fun c => ?_) (fun c => ?_)
    · refine sim_iload_n dX11_isOfTag_36 rfl ?_
      refine sim_if_eq 48 dX11_isOfTag_37 (by decide) (fun c => ?_) (fun c => ?_)
      · refine sim_aload_n dX11_isOfTag_48 rfl ?_
        refine sim_gR 11 13 dX11_isOfTag_49 rfl wf_RX11_41 (Nat.le_of_ble_eq_true rfl) rfl (fun o7 => ?_)
        refine sim_iload_n dX11_isOfTag_52 rfl ?_
        refine sim_aI dX11_isOfTag_53 (fun v8 => ?_)
        exact sim_lv (am_leN (am_leN (am_leN (am_leN (am_leS am_leT))))) (t_X11_isOfTag_54 d (by omega) _ _ _)
      · refine sim_aload_n dX11_isOfTag_40 rfl ?_
        refine sim_iload_n dX11_isOfTag_41 rfl ?_
        refine sim_ao1 (fun a11 e => ?_)
        refine sim_virt (d - 1) e dX11_isOfTag_42 (k_X11_belongs (d - 1) (by omega) _ _ _) q_X11_belongs rfl rfl wm_RX11_181 rfl rfl (by omega) (Nat.le_of_ble_eq_true rfl) am_nI (am_rI fun h9 v10 => ?_) am_eI
        refine sim_goto 54 dX11_isOfTag_45 (by decide) ?_
        exact sim_lv (am_leN (am_leN (am_leN (am_leN (am_leS am_leT))))) (t_X11_isOfTag_54 d (by omega) _ _ _)
    · refine sim_aload_n dX11_isOfTag_23 rfl ?_
      refine sim_gR 11 12 dX11_isOfTag_24 rfl wf_RX11_38 (Nat.le_of_ble_eq_true rfl) rfl (fun o12 => ?_)
      refine sim_iload_n dX11_isOfTag_27 rfl ?_
      refine sim_aI dX11_isOfTag_28 (fun v13 => ?_)
      refine sim_iload_n dX11_isOfTag_29 rfl ?_
      refine sim_static (d - 1) dX11_isOfTag_30 (k_X11_has (d - 1) (by omega) _ _ _) q_X11_has wm_RX11_155 rfl rfl (by omega) (Nat.le_of_ble_eq_true rfl) am_nI (am_rI fun h14 v15 => ?_) am_eI
      refine sim_goto 59 dX11_isOfTag_33 (by decide) ?_
      exact sim_lv (am_leN (am_leN (am_leN (am_leN (am_leN am_leT))))) (t_X11_isOfTag_59 d (by omega) _ _)
  · refine sim_iconst (0) dX11_isOfTag_8 (by decide +kernel) ?_
    exact sim_zret dX11_isOfTag_9 rfl)
theorem q_X11_isOfTag : am_Cal m_X11_isOfTag 3 2 := ⟨am_mem 1444 (w := Cond.code yX11_isOfTag cX11_isOfTag 5 (some .boolean)) (by decide +kernel) rfl, am_mem 64 (w := Cond.initialized RX11) (by decide +kernel) rfl, fun z => absurd z (by decide), fun _ => am_mem 1443 (w := Cond.instanceMethod yX11_isOfTag) (by decide +kernel) rfl, fun z => absurd z (by decide), fun _ => am_mem 45 (w := Cond.selects RX11 yX11_isOfTag yX11_isOfTag) (by decide +kernel) rfl, by decide +kernel, by decide +kernel, Nat.le_of_ble_eq_true rfl⟩
abbrev m_X11_opens : am_M := (yX11_opens, cX11_opens, 1, none, [])
def f_X11_opens (a0 : Nat × Nat) (h : am_H) : am_R := m_gI (some a0) 11 29 h fun v1 => m_pI (some a0) 11 29 (v1 + (1 : Int32)) h fun h2 => m_gR (some a0) 11 26 h2 fun o3 => m_gI (some a0) 11 29 h2 fun v4 => m_sZ o3 v4 (0 : Int32) h2 fun h5 => m_gR (some a0) 11 27 h5 fun o6 => m_gI (some a0) 11 29 h5 fun v7 => m_sZ o6 v7 (1 : Int32) h5 fun h8 => m_gR (some a0) 11 28 h8 fun o9 => m_gI (some a0) 11 29 h8 fun v10 => m_sZ o9 v10 (0 : Int32) h8 fun h11 => m_rt h11 none
theorem k_X11_opens (d : Nat) (hd : 0 ≤ d) (a0 : Nat × Nat) (h : am_H) : am_Con m_X11_opens d [.inr (.inr (some a0))] h (f_X11_opens a0 h) := am_con (by decide +kernel) (Nat.le_of_ble_eq_true rfl) (by
  unfold f_X11_opens
  refine sim_aload_n dX11_opens_0 rfl ?_
  refine sim_dup_r dX11_opens_1 ?_
  refine sim_gI 11 29 dX11_opens_2 rfl wf_RX11_213 (Nat.le_of_ble_eq_true rfl) rfl (fun v1 => ?_)
  refine sim_iconst (1) dX11_opens_5 (by decide +kernel) ?_
  refine sim_iadd dX11_opens_6 ?_
  refine sim_pI 11 29 dX11_opens_7 rfl wf_RX11_213 (Nat.le_of_ble_eq_true rfl) rfl (Or.inl rfl) rfl (fun h2 => ?_)
  refine sim_aload_n dX11_opens_10 rfl ?_
  refine sim_gR 11 26 dX11_opens_11 rfl wf_RX11_71 (Nat.le_of_ble_eq_true rfl) rfl (fun o3 => ?_)
  refine sim_aload_n dX11_opens_14 rfl ?_
  refine sim_gI 11 29 dX11_opens_15 rfl wf_RX11_213 (Nat.le_of_ble_eq_true rfl) rfl (fun v4 => ?_)
  refine sim_iconst (0) dX11_opens_18 (by decide +kernel) ?_
  refine sim_sZ dX11_opens_19 (fun h5 => ?_)
  refine sim_aload_n dX11_opens_20 rfl ?_
  refine sim_gR 11 27 dX11_opens_21 rfl wf_RX11_74 (Nat.le_of_ble_eq_true rfl) rfl (fun o6 => ?_)
  refine sim_aload_n dX11_opens_24 rfl ?_
  refine sim_gI 11 29 dX11_opens_25 rfl wf_RX11_213 (Nat.le_of_ble_eq_true rfl) rfl (fun v7 => ?_)
  refine sim_iconst (1) dX11_opens_28 (by decide +kernel) ?_
  refine sim_sZ dX11_opens_29 (fun h8 => ?_)
  refine sim_aload_n dX11_opens_30 rfl ?_
  refine sim_gR 11 28 dX11_opens_31 rfl wf_RX11_77 (Nat.le_of_ble_eq_true rfl) rfl (fun o9 => ?_)
  refine sim_aload_n dX11_opens_34 rfl ?_
  refine sim_gI 11 29 dX11_opens_35 rfl wf_RX11_213 (Nat.le_of_ble_eq_true rfl) rfl (fun v10 => ?_)
  refine sim_iconst (0) dX11_opens_38 (by decide +kernel) ?_
  refine sim_sZ dX11_opens_39 (fun h11 => ?_)
  exact sim_vret dX11_opens_40 rfl)
theorem q_X11_opens : am_Cal m_X11_opens 0 2 := ⟨am_mem 1436 (w := Cond.code yX11_opens cX11_opens 1 none) (by decide +kernel) rfl, am_mem 64 (w := Cond.initialized RX11) (by decide +kernel) rfl, fun z => absurd z (by decide), fun _ => am_mem 1435 (w := Cond.instanceMethod yX11_opens) (by decide +kernel) rfl, fun z => absurd z (by decide), fun _ => am_mem 43 (w := Cond.selects RX11 yX11_opens yX11_opens) (by decide +kernel) rfl, by decide +kernel, by decide +kernel, Nat.le_of_ble_eq_true rfl⟩
