abbrev m_X10_wave : am_M := (yX10_wave, cX10_wave, 5, some .int, [])
def f_X10_wave_80  (x2 : Int32) (h : am_H) : am_R := m_ri h x2
theorem t_X10_wave_80 (d : Nat) (hd : 6 ≤ d)  (x2 : Int32) (h : am_H) : Sim m_X10_wave d 80 [none, none, some (.inl x2), none, none] [] h (f_X10_wave_80  x2 h) := by
  unfold f_X10_wave_80
  refine sim_iload_n dX10_wave_80 rfl ?_
  exact sim_iret dX10_wave_81 rfl
def f_X10_wave_74 (rc25 : Nat × Nat → Int32 → Int32 → Int32 → am_H → am_R) (a0 : Nat × Nat) (x1 : Int32) (x2 : Int32) (x3 : Int32) (h : am_H) : am_R := rc25 a0 x1 x2 (x3 + 1) h
theorem t_X10_wave_74 (d : Nat) (hd : 6 ≤ d) (rc25 : Nat × Nat → Int32 → Int32 → Int32 → am_H → am_R) (hrc25 : ∀ a0 x1 x2 x3 h, Sim m_X10_wave d 25 [some (.inr (.inr (some a0))), some (.inl x1), some (.inl x2), some (.inl x3), none] [] h (rc25 a0 x1 x2 x3 h)) (a0 : Nat × Nat) (x1 : Int32) (x2 : Int32) (x3 : Int32) (h : am_H) : Sim m_X10_wave d 74 [some (.inr (.inr (some a0))), some (.inl x1), some (.inl x2), some (.inl x3), none] [] h (f_X10_wave_74 rc25 a0 x1 x2 x3 h) := by
  unfold f_X10_wave_74
  refine sim_iinc (1) dX10_wave_74 rfl (by decide +kernel) (Nat.le_of_ble_eq_true rfl) ?_
  refine sim_goto 25 dX10_wave_77 (by decide) ?_
  exact sim_lv (am_leS (am_leS (am_leS (am_leS (am_leN am_leT))))) (hrc25 _ _ _ _ _)
def f_X10_wave_25  : Nat → Nat × Nat → Int32 → Int32 → Int32 → am_H → am_R
  | 0, _, _, _, _, _ => none
  | n + 1, a0, x1, x2, x3, h => m_gI (some a0) 10 4 h fun v1 => if v1 ≤ x3 then (f_X10_wave_80 x2 h) else (if x1 ≤ x2 then (f_X10_wave_80 x2 h) else (m_gR (some a0) 10 3 h fun o2 => m_aR o2 5 x3 h fun o3 => m_gI o3 9 9 h fun v4 => if v4 = 0 then (f_X10_wave_74 (f_X10_wave_25  n) a0 x1 x2 x3 h) else (m_gR (some a0) 10 7 h fun o5 => m_gI o3 9 7 h fun v6 => m_ao o5 7 fun a9 => m_bI (f_X7_belongUnder a9 v6 h) fun h7 v8 => m_ao o3 9 fun a12 => m_bV (f_X9_fileUnder a12 v8 h7) fun h10 => f_X10_wave_74 (f_X10_wave_25  n) a0 x1 (x2 + 1) x3 h10)))
theorem t_X10_wave_25 (d : Nat) (hd : 6 ≤ d)  : ∀ (n : Nat) (a0 : Nat × Nat) (x1 : Int32) (x2 : Int32) (x3 : Int32) (h : am_H), Sim m_X10_wave d 25 [some (.inr (.inr (some a0))), some (.inl x1), some (.inl x2), some (.inl x3), none] [] h (f_X10_wave_25  n a0 x1 x2 x3 h) := by
  intro n
  induction n with
  | zero => intros; exact sim_none
  | succ n hrc25 =>
    intro a0 x1 x2 x3 h
    rw [f_X10_wave_25]
    refine sim_iload_n dX10_wave_25 rfl ?_
    refine sim_aload_n dX10_wave_26 rfl ?_
    refine sim_gI 10 4 dX10_wave_27 rfl wf_RX10_104 (Nat.le_of_ble_eq_true rfl) rfl (fun v1 => ?_)
    refine sim_ic_ge 80 dX10_wave_30 (by decide) (fun c => ?_) (fun c => ?_)
    · exact sim_lv (am_leN (am_leN (am_leS (am_leN (am_leN am_leT))))) (t_X10_wave_80 d (by omega) _ _)
    · refine sim_iload_n dX10_wave_33 rfl ?_
      refine sim_iload_n dX10_wave_34 rfl ?_
      refine sim_ic_ge 80 dX10_wave_35 (by decide) (fun c => ?_) (fun c => ?_)
      · exact sim_lv (am_leN (am_leN (am_leS (am_leN (am_leN am_leT))))) (t_X10_wave_80 d (by omega) _ _)
      · refine sim_aload_n dX10_wave_38 rfl ?_
        refine sim_gR 10 3 dX10_wave_39 rfl wf_RX10_21 (Nat.le_of_ble_eq_true rfl) rfl (fun o2 => ?_)
        refine sim_iload_n dX10_wave_42 rfl ?_
        refine sim_aR 5 rfl dX10_wave_43 (fun o3 => ?_)
        refine sim_astore dX10_wave_44 (Nat.le_of_ble_eq_true rfl) ?_
        refine sim_aload dX10_wave_46 rfl ?_
        refine sim_gI 9 9 dX10_wave_48 rfl wf_RX10_244 (Nat.le_of_ble_eq_true rfl) rfl (fun v4 => ?_)
        refine sim_if_eq 74 dX10_wave_51 (by decide) (fun c => ?_) (fun c => ?_)
        · exact sim_lv (am_leS (am_leS (am_leS (am_leS (am_leN am_leT))))) (t_X10_wave_74 d (by omega) _ hrc25 _ _ _ _ _)
        · refine sim_aload dX10_wave_54 rfl ?_
          refine sim_aload_n dX10_wave_56 rfl ?_
          refine sim_gR 10 7 dX10_wave_57 rfl wf_RX10_34 (Nat.le_of_ble_eq_true rfl) rfl (fun o5 => ?_)
          refine sim_aload dX10_wave_60 rfl ?_
          refine sim_gI 9 7 dX10_wave_62 rfl wf_RX10_234 (Nat.le_of_ble_eq_true rfl) rfl (fun v6 => ?_)
          refine sim_ao1 (fun a9 e => ?_)
          refine sim_virt (d - 1) e dX10_wave_65 (k_X7_belongUnder (d - 1) (by omega) _ _ _) q_X7_belongUnder rfl rfl wm_RX10_236 rfl rfl (by omega) (Nat.le_of_ble_eq_true rfl) am_nI (am_rI fun h7 v8 => ?_) am_eI
          refine sim_ao1 (fun a12 e => ?_)
          refine sim_virt (d - 1) e dX10_wave_68 (k_X9_fileUnder (d - 1) (by omega) _ _ _) q_X9_fileUnder rfl rfl wm_RX10_239 rfl rfl (by omega) (Nat.le_of_ble_eq_true rfl) am_nV (am_rV fun h10 => ?_) am_eV
          refine sim_iinc (1) dX10_wave_71 rfl (by decide +kernel) (Nat.le_of_ble_eq_true rfl) ?_
          exact sim_lv (am_leS (am_leS (am_leS (am_leS (am_leN am_leT))))) (t_X10_wave_74 d (by omega) _ hrc25 _ _ _ _ _)
def f_X10_wave_11   (h : am_H) : am_R := m_ex h 1
theorem t_X10_wave_11 (d : Nat) (hd : 6 ≤ d)   (h : am_H) : Sim m_X10_wave d 11 [none, none, none, none, none] [] h (f_X10_wave_11   h) := by
  unfold f_X10_wave_11
  exact sim_throw 1 (by decide) dX10_wave_11 dX10_wave_14 dX10_wave_15 dX10_wave_17 dX10_wave_20 wx_RX10_66 wy_1 ws_RX10_242 at_RX10_70 gd_RX10_70 (by omega) (Nat.le_of_ble_eq_true rfl)
def f_X10_wave (a0 : Nat × Nat) (x1 : Int32) (h : am_H) : am_R := if x1 < (1 : Int32) then (f_X10_wave_11 h) else (if x1 ≤ (20 : Int32) then (f_X10_wave_25 5000 a0 x1 (0 : Int32) (0 : Int32) h) else (f_X10_wave_11 h))
theorem k_X10_wave (d : Nat) (hd : 6 ≤ d) (a0 : Nat × Nat) (x1 : Int32) (h : am_H) : am_Con m_X10_wave d [.inr (.inr (some a0)), .inl x1] h (f_X10_wave a0 x1 h) := am_con (by decide +kernel) (Nat.le_of_ble_eq_true rfl) (by
  unfold f_X10_wave
  refine sim_iload_n dX10_wave_0 rfl ?_
  refine sim_iconst (1) dX10_wave_1 (by decide +kernel) ?_
  refine sim_ic_lt 11 dX10_wave_2 (by decide) (fun c => ?_) (fun c => ?_)
  · exact sim_lv (am_leN (am_leN (am_leN (am_leN (am_leN am_leT))))) (t_X10_wave_11 d (by omega) _)
  · refine sim_iload_n dX10_wave_5 rfl ?_
    refine sim_bipush (20) dX10_wave_6 (by decide +kernel) ?_
    refine sim_ic_le 21 dX10_wave_8 (by decide) (fun c => ?_) (fun c => ?_)
    · refine sim_iconst (0) dX10_wave_21 (by decide +kernel) ?_
      refine sim_istore_n dX10_wave_22 (Nat.le_of_ble_eq_true rfl) ?_
      refine sim_iconst (0) dX10_wave_23 (by decide +kernel) ?_
      refine sim_istore_n dX10_wave_24 (Nat.le_of_ble_eq_true rfl) ?_
      exact sim_lv (am_leS (am_leS (am_leS (am_leS (am_leN am_leT))))) (t_X10_wave_25 d (by omega) _ _ _ _ _ _)
    · exact sim_lv (am_leN (am_leN (am_leN (am_leN (am_leN am_leT))))) (t_X10_wave_11 d (by omega) _))
theorem q_X10_wave : am_Cal m_X10_wave 1 2 := ⟨am_mem 644 (w := Cond.code yX10_wave cX10_wave 5 (some .int)) (by decide +kernel) rfl, am_mem 30 (w := Cond.initialized RX10) (by decide +kernel) rfl, fun z => absurd z (by decide), fun _ => am_mem 642 (w := Cond.instanceMethod yX10_wave) (by decide +kernel) rfl, fun z => absurd z (by decide), fun _ => am_mem 643 (w := Cond.selects RX10 yX10_wave yX10_wave) (by decide +kernel) rfl, by decide +kernel, by decide +kernel, Nat.le_of_ble_eq_true rfl⟩
abbrev m_L_middle : am_M := (yL_middle, cL_middle, 6, some .int, [])
def f_L_middle_161  (s0 : Int32) (h : am_H) : am_R := m_ri h s0
theorem t_L_middle_161 (d : Nat) (hd : 9 ≤ d)  (s0 : Int32) (h : am_H) : Sim m_L_middle d 161 [none, none, none, none, none, none] [.inl s0] h (f_L_middle_161  s0 h) := by
  unfold f_L_middle_161
  exact sim_iret dL_middle_161 rfl
def f_L_middle_116  (s0 : Int32) (s1 : Int32) (s2 : Option (Nat × Nat)) (h : am_H) : am_R := m_ao s2 10 fun a29 => m_bI (f_X10_search a29 s1 s0 h) fun h27 v28 => f_L_middle_161 v28 h27
theorem t_L_middle_116 (d : Nat) (hd : 9 ≤ d)  (s0 : Int32) (s1 : Int32) (s2 : Option (Nat × Nat)) (h : am_H) : Sim m_L_middle d 116 [none, none, none, none, none, none] [.inl s0, .inl s1, .inr (.inr s2)] h (f_L_middle_116  s0 s1 s2 h) := by
  unfold f_L_middle_116
  refine sim_ao2 (fun a29 e => ?_)
  refine sim_virt (d - 1) e dL_middle_116 (k_X10_search (d - 1) (by omega) _ _ _ _) q_X10_search rfl rfl wm_RL_135 rfl rfl (by omega) (Nat.le_of_ble_eq_true rfl) am_nI (am_rI fun h27 v28 => ?_) am_eI
  refine sim_goto 161 dL_middle_119 (by decide) ?_
  exact sim_lv (am_leN (am_leN (am_leN (am_leN (am_leN (am_leN am_leT)))))) (t_L_middle_161 d (by omega) _ _)
def f_L_middle_76  (s0 : Int32) (s1 : Int32) (s2 : Option (Nat × Nat)) (h : am_H) : am_R := m_ao s2 10 fun a26 => m_bI (f_X10_under a26 s1 s0 h) fun h24 v25 => f_L_middle_161 v25 h24
theorem t_L_middle_76 (d : Nat) (hd : 9 ≤ d)  (s0 : Int32) (s1 : Int32) (s2 : Option (Nat × Nat)) (h : am_H) : Sim m_L_middle d 76 [none, none, none, none, none, none] [.inl s0, .inl s1, .inr (.inr s2)] h (f_L_middle_76  s0 s1 s2 h) := by
  unfold f_L_middle_76
  refine sim_ao2 (fun a26 e => ?_)
  refine sim_virt (d - 1) e dL_middle_76 (k_X10_under (d - 1) (by omega) _ _ _ _) q_X10_under rfl rfl wm_RL_127 rfl rfl (by omega) (Nat.le_of_ble_eq_true rfl) am_nI (am_rI fun h24 v25 => ?_) am_eI
  refine sim_goto 161 dL_middle_79 (by decide) ?_
  exact sim_lv (am_leN (am_leN (am_leN (am_leN (am_leN (am_leN am_leT)))))) (t_L_middle_161 d (by omega) _ _)
def f_L_middle_35  (s0 : Int32) (s1 : Int32) (s2 : Int32) (s3 : Option (Nat × Nat)) (h : am_H) : am_R := m_ao s3 10 fun a21 => m_bI (f_X10_put a21 s2 s1 s0 h) fun h19 v20 => m_bI (f_L_bit v20 h19) fun h22 v23 => f_L_middle_161 v23 h22
theorem t_L_middle_35 (d : Nat) (hd : 9 ≤ d)  (s0 : Int32) (s1 : Int32) (s2 : Int32) (s3 : Option (Nat × Nat)) (h : am_H) : Sim m_L_middle d 35 [none, none, none, none, none, none] [.inl s0, .inl s1, .inl s2, .inr (.inr s3)] h (f_L_middle_35  s0 s1 s2 s3 h) := by
  unfold f_L_middle_35
  refine sim_ao3 (fun a21 e => ?_)
  refine sim_virt (d - 1) e dL_middle_35 (k_X10_put (d - 1) (by omega) _ _ _ _ _) q_X10_put rfl rfl wm_RL_121 rfl rfl (by omega) (Nat.le_of_ble_eq_true rfl) am_nI (am_rI fun h19 v20 => ?_) am_eI
  refine sim_static (d - 1) dL_middle_38 (k_L_bit (d - 1) (by omega) _ _) q_L_bit wm_RL_24 rfl rfl (by omega) (Nat.le_of_ble_eq_true rfl) am_nI (am_rI fun h22 v23 => ?_) am_eI
  refine sim_goto 161 dL_middle_41 (by decide) ?_
  exact sim_lv (am_leN (am_leN (am_leN (am_leN (am_leN (am_leN am_leT)))))) (t_L_middle_161 d (by omega) _ _)
def f_L_middle (x0 : Option (Nat × Nat)) (x1 : Int32) (x2 : Int32) (x3 : Int32) (x4 : Int32) (x5 : Int32) (h : am_H) : am_R := if x1 = (17 : Int32) then (m_ao x0 10 fun a18 => m_bI (f_X10_ofTag a18 x2 x3 h) fun h16 v17 => f_L_middle_161 v17 h16) else (if x1 = (18 : Int32) then (if x4 = (1 : Int32) then (f_L_middle_35 (1 : Int32) x3 x2 x0 h) else (f_L_middle_35 (0 : Int32) x3 x2 x0 h)) else (if x1 = (19 : Int32) then (m_ao x0 10 fun a15 => m_bI (f_X10_wave a15 x2 h) fun h13 v14 => f_L_middle_161 v14 h13) else (if x1 = (20 : Int32) then (if x3 = (1 : Int32) then (f_L_middle_76 (1 : Int32) x2 x0 h) else (f_L_middle_76 (0 : Int32) x2 x0 h)) else (if x1 = (21 : Int32) then (m_ao x0 10 fun a12 => m_bI (f_X10_type a12 (Int32.toInt64 x2) x3 h) fun h10 v11 => f_L_middle_161 v11 h10) else (if x1 = (22 : Int32) then (if x3 = (1 : Int32) then (f_L_middle_116 (1 : Int32) x2 x0 h) else (f_L_middle_116 (0 : Int32) x2 x0 h)) else (if x1 = (23 : Int32) then (m_ao x0 10 fun a9 => m_bI (f_X10_result a9 x2 x3 h) fun h7 v8 => f_L_middle_161 v8 h7) else (if x1 = (24 : Int32) then (m_ao x0 10 fun a6 => m_bI (f_X10_sign a6 x2 x3 x4 x5 h) fun h4 v5 => f_L_middle_161 v5 h4) else (m_ao x0 10 fun a3 => m_bI (f_X10_match a3 x2 h) fun h1 v2 => f_L_middle_161 v2 h1))))))))
theorem k_L_middle (d : Nat) (hd : 9 ≤ d) (x0 : Option (Nat × Nat)) (x1 : Int32) (x2 : Int32) (x3 : Int32) (x4 : Int32) (x5 : Int32) (h : am_H) : am_Con m_L_middle d [.inr (.inr x0), .inl x1, .inl x2, .inl x3, .inl x4, .inl x5] h (f_L_middle x0 x1 x2 x3 x4 x5 h) := am_con (by decide +kernel) (Nat.le_of_ble_eq_true rfl) (by
  unfold f_L_middle
  refine sim_iload_n dL_middle_0 rfl ?_
  refine sim_bipush (17) dL_middle_1 (by decide +kernel) ?_
  refine sim_ic_ne 15 dL_middle_3 (by decide) (fun c => ?_) (fun c => ?_)
  · refine sim_iload_n dL_middle_15 rfl ?_
    refine sim_bipush (18) dL_middle_16 (by decide +kernel) ?_
    refine sim_ic_ne 44 dL_middle_18 (by decide) (fun c => ?_) (fun c => ?_)
    · refine sim_iload_n dL_middle_44 rfl ?_
      refine sim_bipush (19) dL_middle_45 (by decide +kernel) ?_
      refine sim_ic_ne 58 dL_middle_47 (by decide) (fun c => ?_) (fun c => ?_)
      · refine sim_iload_n dL_middle_58 rfl ?_
        refine sim_bipush (20) dL_middle_59 (by decide +kernel) ?_
        refine sim_ic_ne 82 dL_middle_61 (by decide) (fun c => ?_) (fun c => ?_)
        · refine sim_iload_n dL_middle_82 rfl ?_
          refine sim_bipush (21) dL_middle_83 (by decide +kernel) ?_
          refine sim_ic_ne 98 dL_middle_85 (by decide) (fun c => ?_) (fun c => ?_)
          · refine sim_iload_n dL_middle_98 rfl ?_
            refine sim_bipush (22) dL_middle_99 (by decide +kernel) ?_
            refine sim_ic_ne 122 dL_middle_101 (by decide) (fun c => ?_) (fun c => ?_)
            · refine sim_iload_n dL_middle_122 rfl ?_
              refine sim_bipush (23) dL_middle_123 (by decide +kernel) ?_
              refine sim_ic_ne 137 dL_middle_125 (by decide) (fun c => ?_) (fun c => ?_)
              · refine sim_iload_n dL_middle_137 rfl ?_
                refine sim_bipush (24) dL_middle_138 (by decide +kernel) ?_
                refine sim_ic_ne 156 dL_middle_140 (by decide) (fun c => ?_) (fun c => ?_)
                · refine sim_aload_n dL_middle_156 rfl ?_
                  refine sim_iload_n dL_middle_157 rfl ?_
                  refine sim_ao1 (fun a3 e => ?_)
                  refine sim_virt (d - 1) e dL_middle_158 (k_X10_match (d - 1) (by omega) _ _ _) q_X10_match rfl rfl wm_RL_145 rfl rfl (by omega) (Nat.le_of_ble_eq_true rfl) am_nI (am_rI fun h1 v2 => ?_) am_eI
                  exact sim_lv (am_leN (am_leN (am_leN (am_leN (am_leN (am_leN am_leT)))))) (t_L_middle_161 d (by omega) _ _)
                · refine sim_aload_n dL_middle_143 rfl ?_
                  refine sim_iload_n dL_middle_144 rfl ?_
                  refine sim_iload_n dL_middle_145 rfl ?_
                  refine sim_iload dL_middle_146 rfl ?_
                  refine sim_iload dL_middle_148 rfl ?_
                  refine sim_ao4 (fun a6 e => ?_)
                  refine sim_virt (d - 1) e dL_middle_150 (k_X10_sign (d - 1) (by omega) _ _ _ _ _ _) q_X10_sign rfl rfl wm_RL_141 rfl rfl (by omega) (Nat.le_of_ble_eq_true rfl) am_nI (am_rI fun h4 v5 => ?_) am_eI
                  refine sim_goto 161 dL_middle_153 (by decide) ?_
                  exact sim_lv (am_leN (am_leN (am_leN (am_leN (am_leN (am_leN am_leT)))))) (t_L_middle_161 d (by omega) _ _)
              · refine sim_aload_n dL_middle_128 rfl ?_
                refine sim_iload_n dL_middle_129 rfl ?_
                refine sim_iload_n dL_middle_130 rfl ?_
                refine sim_ao2 (fun a9 e => ?_)
                refine sim_virt (d - 1) e dL_middle_131 (k_X10_result (d - 1) (by omega) _ _ _ _) q_X10_result rfl rfl wm_RL_138 rfl rfl (by omega) (Nat.le_of_ble_eq_true rfl) am_nI (am_rI fun h7 v8 => ?_) am_eI
                refine sim_goto 161 dL_middle_134 (by decide) ?_
                exact sim_lv (am_leN (am_leN (am_leN (am_leN (am_leN (am_leN am_leT)))))) (t_L_middle_161 d (by omega) _ _)
            · refine sim_aload_n dL_middle_104 rfl ?_
              refine sim_iload_n dL_middle_105 rfl ?_
              refine sim_iload_n dL_middle_106 rfl ?_
              refine sim_iconst (1) dL_middle_107 (by decide +kernel) ?_
              refine sim_ic_ne 115 dL_middle_108 (by decide) (fun c => ?_) (fun c => ?_)
              · refine sim_iconst (0) dL_middle_115 (by decide +kernel) ?_
                exact sim_lv (am_leN (am_leN (am_leN (am_leN (am_leN (am_leN am_leT)))))) (t_L_middle_116 d (by omega) _ _ _ _)
              · refine sim_iconst (1) dL_middle_111 (by decide +kernel) ?_
                refine sim_goto 116 dL_middle_112 (by decide) ?_
                exact sim_lv (am_leN (am_leN (am_leN (am_leN (am_leN (am_leN am_leT)))))) (t_L_middle_116 d (by omega) _ _ _ _)
          · refine sim_aload_n dL_middle_88 rfl ?_
            refine sim_iload_n dL_middle_89 rfl ?_
            refine sim_i2l dL_middle_90 ?_
            refine sim_iload_n dL_middle_91 rfl ?_
            refine sim_ao2 (fun a12 e => ?_)
            refine sim_virt (d - 1) e dL_middle_92 (k_X10_type (d - 1) (by omega) _ _ _ _) q_X10_type rfl rfl wm_RL_131 rfl rfl (by omega) (Nat.le_of_ble_eq_true rfl) am_nI (am_rI fun h10 v11 => ?_) am_eI
            refine sim_goto 161 dL_middle_95 (by decide) ?_
            exact sim_lv (am_leN (am_leN (am_leN (am_leN (am_leN (am_leN am_leT)))))) (t_L_middle_161 d (by omega) _ _)
        · refine sim_aload_n dL_middle_64 rfl ?_
          refine sim_iload_n dL_middle_65 rfl ?_
          refine sim_iload_n dL_middle_66 rfl ?_
          refine sim_iconst (1) dL_middle_67 (by decide +kernel) ?_
          refine sim_ic_ne 75 dL_middle_68 (by decide) (fun c => ?_) (fun c => ?_)
          · refine sim_iconst (0) dL_middle_75 (by decide +kernel) ?_
            exact sim_lv (am_leN (am_leN (am_leN (am_leN (am_leN (am_leN am_leT)))))) (t_L_middle_76 d (by omega) _ _ _ _)
          · refine sim_iconst (1) dL_middle_71 (by decide +kernel) ?_
            refine sim_goto 76 dL_middle_72 (by decide) ?_
            exact sim_lv (am_leN (am_leN (am_leN (am_leN (am_leN (am_leN am_leT)))))) (t_L_middle_76 d (by omega) _ _ _ _)
      · refine sim_aload_n dL_middle_50 rfl ?_
        refine sim_iload_n dL_middle_51 rfl ?_
        refine sim_ao1 (fun a15 e => ?_)
        refine sim_virt (d - 1) e dL_middle_52 (k_X10_wave (d - 1) (by omega) _ _ _) q_X10_wave rfl rfl wm_RL_124 rfl rfl (by omega) (Nat.le_of_ble_eq_true rfl) am_nI (am_rI fun h13 v14 => ?_) am_eI
        refine sim_goto 161 dL_middle_55 (by decide) ?_
        exact sim_lv (am_leN (am_leN (am_leN (am_leN (am_leN (am_leN am_leT)))))) (t_L_middle_161 d (by omega) _ _)
    · refine sim_aload_n dL_middle_21 rfl ?_
      refine sim_iload_n dL_middle_22 rfl ?_
      refine sim_iload_n dL_middle_23 rfl ?_
      refine sim_iload dL_middle_24 rfl ?_
      refine sim_iconst (1) dL_middle_26 (by decide +kernel) ?_
      refine sim_ic_ne 34 dL_middle_27 (by decide) (fun c => ?_) (fun c => ?_)
      · refine sim_iconst (0) dL_middle_34 (by decide +kernel) ?_
        exact sim_lv (am_leN (am_leN (am_leN (am_leN (am_leN (am_leN am_leT)))))) (t_L_middle_35 d (by omega) _ _ _ _ _)
      · refine sim_iconst (1) dL_middle_30 (by decide +kernel) ?_
        refine sim_goto 35 dL_middle_31 (by decide) ?_
        exact sim_lv (am_leN (am_leN (am_leN (am_leN (am_leN (am_leN am_leT)))))) (t_L_middle_35 d (by omega) _ _ _ _ _)
  · refine sim_aload_n dL_middle_6 rfl ?_
    refine sim_iload_n dL_middle_7 rfl ?_
    refine sim_iload_n dL_middle_8 rfl ?_
    refine sim_ao2 (fun a18 e => ?_)
    refine sim_virt (d - 1) e dL_middle_9 (k_X10_ofTag (d - 1) (by omega) _ _ _ _) q_X10_ofTag rfl rfl wm_RL_118 rfl rfl (by omega) (Nat.le_of_ble_eq_true rfl) am_nI (am_rI fun h16 v17 => ?_) am_eI
    refine sim_goto 161 dL_middle_12 (by decide) ?_
    exact sim_lv (am_leN (am_leN (am_leN (am_leN (am_leN (am_leN am_leT)))))) (t_L_middle_161 d (by omega) _ _))
theorem q_L_middle : am_Cal m_L_middle 6 0 := ⟨am_mem 607 (w := Cond.code yL_middle cL_middle 6 (some .int)) (by decide +kernel) rfl, am_mem 29 (w := Cond.initialized RL) (by decide +kernel) rfl, fun _ => am_mem 606 (w := Cond.static yL_middle) (by decide +kernel) rfl, fun z => absurd rfl z, fun z => absurd z (by decide), fun z => absurd z (by decide), by decide +kernel, by decide +kernel, Nat.le_of_ble_eq_true rfl⟩
abbrev m_X10_commentAt : am_M := (yX10_commentAt, cX10_commentAt, 2, some (.object RX1), [])
def f_X10_commentAt_12   (h : am_H) : am_R := m_ex h 0
theorem t_X10_commentAt_12 (d : Nat) (hd : 6 ≤ d)   (h : am_H) : Sim m_X10_commentAt d 12 [none, none] [] h (f_X10_commentAt_12   h) := by
  unfold f_X10_commentAt_12
  exact sim_throwW 0 (by decide) dX10_commentAt_12 dX10_commentAt_15 dX10_commentAt_16 dX10_commentAt_19 dX10_commentAt_22 wx_RX10_162 wy_0 ws_RX10_386 at_RX10_166 gd_RX10_166 (by omega) (Nat.le_of_ble_eq_true rfl)
def f_X10_commentAt (a0 : Nat × Nat) (x1 : Int32) (h : am_H) : am_R := if x1 < 0 then (f_X10_commentAt_12 h) else (m_gI (some a0) 10 12 h fun v1 => if x1 < v1 then (m_gR (some a0) 10 11 h fun o2 => m_aR o2 7 x1 h fun o3 => m_ra h o3) else (f_X10_commentAt_12 h))
theorem k_X10_commentAt (d : Nat) (hd : 6 ≤ d) (a0 : Nat × Nat) (x1 : Int32) (h : am_H) : am_Con m_X10_commentAt d [.inr (.inr (some a0)), .inl x1] h (f_X10_commentAt a0 x1 h) := am_con (by decide +kernel) (Nat.le_of_ble_eq_true rfl) (by
  unfold f_X10_commentAt
  refine sim_iload_n dX10_commentAt_0 rfl ?_
  refine sim_if_lt 12 dX10_commentAt_1 (by decide) (fun c => ?_) (fun c => ?_)
  · exact sim_lv (am_leN (am_leN am_leT)) (t_X10_commentAt_12 d (by omega) _)
  · refine sim_iload_n dX10_commentAt_4 rfl ?_
    refine sim_aload_n dX10_commentAt_5 rfl ?_
    refine sim_gI 10 12 dX10_commentAt_6 rfl wf_RX10_327 (Nat.le_of_ble_eq_true rfl) rfl (fun v1 => ?_)
    refine sim_ic_lt 23 dX10_commentAt_9 (by decide) (fun c => ?_) (fun c => ?_)
    · refine sim_aload_n dX10_commentAt_23 rfl ?_
      refine sim_gR 10 11 dX10_commentAt_24 rfl wf_RX10_61 (Nat.le_of_ble_eq_true rfl) rfl (fun o2 => ?_)
      refine sim_iload_n dX10_commentAt_27 rfl ?_
      refine sim_aR 7 rfl dX10_commentAt_28 (fun o3 => ?_)
      exact sim_aret dX10_commentAt_29 rfl
    · exact sim_lv (am_leN (am_leN am_leT)) (t_X10_commentAt_12 d (by omega) _))
theorem q_X10_commentAt : am_Cal m_X10_commentAt 1 2 := ⟨am_mem 866 (w := Cond.code yX10_commentAt cX10_commentAt 2 (some (.object RX1))) (by decide +kernel) rfl, am_mem 30 (w := Cond.initialized RX10) (by decide +kernel) rfl, fun z => absurd z (by decide), fun _ => am_mem 865 (w := Cond.instanceMethod yX10_commentAt) (by decide +kernel) rfl, fun z => absurd z (by decide), fun _ => am_mem 22 (w := Cond.selects RX10 yX10_commentAt yX10_commentAt) (by decide +kernel) rfl, by decide +kernel, by decide +kernel, Nat.le_of_ble_eq_true rfl⟩
abbrev m_X10_change : am_M := (yX10_change, cX10_change, 5, some .boolean, [])
def f_X10_change_98  (x3 : Option (Nat × Nat)) (s0 : Int32) (h : am_H) : am_R := m_pZ x3 1 4 (1 : Int32) h fun h10 => m_rz h10 s0
theorem t_X10_change_98 (d : Nat) (hd : 7 ≤ d)  (x3 : Option (Nat × Nat)) (s0 : Int32) (h : am_H) : Sim m_X10_change d 98 [none, none, none, some (.inr (.inr x3)), none] [.inl s0] h (f_X10_change_98  x3 s0 h) := by
  unfold f_X10_change_98
  refine sim_istore dX10_change_98 (Nat.le_of_ble_eq_true rfl) ?_
  refine sim_aload_n dX10_change_100 rfl ?_
  refine sim_iconst (1) dX10_change_101 (by decide +kernel) ?_
  refine sim_pZ 1 4 dX10_change_102 rfl wf_RX10_345 (Nat.le_of_ble_eq_true rfl) rfl (Or.inl rfl) rfl (fun h10 => ?_)
  refine sim_iload dX10_change_105 rfl ?_
  exact sim_zret dX10_change_107 rfl
def f_X10_change_48  (x3 : Option (Nat × Nat)) (s0 : Int32) (h : am_H) : am_R := m_pZ x3 1 3 (1 : Int32) h fun h11 => m_rz h11 s0
theorem t_X10_change_48 (d : Nat) (hd : 7 ≤ d)  (x3 : Option (Nat × Nat)) (s0 : Int32) (h : am_H) : Sim m_X10_change d 48 [none, none, none, some (.inr (.inr x3)), none] [.inl s0] h (f_X10_change_48  x3 s0 h) := by
  unfold f_X10_change_48
  refine sim_istore dX10_change_48 (Nat.le_of_ble_eq_true rfl) ?_
  refine sim_aload_n dX10_change_50 rfl ?_
  refine sim_iconst (1) dX10_change_51 (by decide +kernel) ?_
  refine sim_pZ 1 3 dX10_change_52 rfl wf_RX10_339 (Nat.le_of_ble_eq_true rfl) rfl (Or.inl rfl) rfl (fun h11 => ?_)
  refine sim_iload dX10_change_55 rfl ?_
  exact sim_zret dX10_change_57 rfl
def f_X10_change (a0 : Nat × Nat) (x1 : Int32) (x2 : Int32) (h : am_H) : am_R := m_ao (some a0) 10 fun a3 => m_bR (f_X10_commentAt a3 x1 h) fun h1 o2 => if x2 = 0 then (m_gI o2 1 3 h1 fun v4 => if v4 = 0 then (f_X10_change_48 o2 (1 : Int32) h1) else (f_X10_change_48 o2 (0 : Int32) h1)) else if x2 = 1 then (m_gI o2 1 3 h1 fun v5 => m_pZ o2 1 3 (0 : Int32) h1 fun h6 => m_rz h6 v5) else if x2 = 2 then (m_gI o2 1 5 h1 fun v7 => m_pZ o2 1 5 (0 : Int32) h1 fun h8 => m_rz h8 v7) else if x2 = 3 then (m_gI o2 1 4 h1 fun v9 => if v9 = 0 then (f_X10_change_98 o2 (1 : Int32) h1) else (f_X10_change_98 o2 (0 : Int32) h1)) else (m_ex h1 1)
theorem k_X10_change (d : Nat) (hd : 7 ≤ d) (a0 : Nat × Nat) (x1 : Int32) (x2 : Int32) (h : am_H) : am_Con m_X10_change d [.inr (.inr (some a0)), .inl x1, .inl x2] h (f_X10_change a0 x1 x2 h) := am_con (by decide +kernel) (Nat.le_of_ble_eq_true rfl) (by
  unfold f_X10_change
  refine sim_aload_n dX10_change_0 rfl ?_
  refine sim_iload_n dX10_change_1 rfl ?_
  refine sim_ao1 (fun a3 e => ?_)
  refine sim_virt (d - 1) e dX10_change_2 (k_X10_commentAt (d - 1) (by omega) _ _ _) q_X10_commentAt rfl rfl wm_RX10_318 rfl rfl (by omega) (Nat.le_of_ble_eq_true rfl) am_nR (am_rR fun h1 o2 => ?_) am_eR
  refine sim_astore_n dX10_change_5 (Nat.le_of_ble_eq_true rfl) ?_
  refine sim_iload_n dX10_change_6 rfl ?_
  refine sim_case (fun c7_0 => ?_) (fun c7_0 => ?_)
  · refine sim_tableIn (off := 29) (0) 36 c7_0 dX10_change_7 (by decide +kernel) (by decide +kernel) (by decide +kernel) (by decide) ?_
    refine sim_aload_n dX10_change_36 rfl ?_
    refine sim_gI 1 3 dX10_change_37 rfl wf_RX10_339 (Nat.le_of_ble_eq_true rfl) rfl (fun v4 => ?_)
    refine sim_if_ne 47 dX10_change_40 (by decide) (fun c => ?_) (fun c => ?_)
    · refine sim_iconst (0) dX10_change_47 (by decide +kernel) ?_
      exact sim_lv (am_leN (am_leN (am_leN (am_leS (am_leN am_leT))))) (t_X10_change_48 d (by omega) _ _ _)
    · refine sim_iconst (1) dX10_change_43 (by decide +kernel) ?_
      refine sim_goto 48 dX10_change_44 (by decide) ?_
      exact sim_lv (am_leN (am_leN (am_leN (am_leS (am_leN am_leT))))) (t_X10_change_48 d (by omega) _ _ _)
  refine sim_case (fun c7_1 => ?_) (fun c7_1 => ?_)
  · refine sim_tableIn (off := 51) (1) 58 c7_1 dX10_change_7 (by decide +kernel) (by decide +kernel) (by decide +kernel) (by decide) ?_
    refine sim_aload_n dX10_change_58 rfl ?_
    refine sim_gI 1 3 dX10_change_59 rfl wf_RX10_339 (Nat.le_of_ble_eq_true rfl) rfl (fun v5 => ?_)
    refine sim_istore dX10_change_62 (Nat.le_of_ble_eq_true rfl) ?_
    refine sim_aload_n dX10_change_64 rfl ?_
    refine sim_iconst (0) dX10_change_65 (by decide +kernel) ?_
    refine sim_pZ 1 3 dX10_change_66 rfl wf_RX10_339 (Nat.le_of_ble_eq_true rfl) rfl (Or.inl rfl) rfl (fun h6 => ?_)
    refine sim_iload dX10_change_69 rfl ?_
    exact sim_zret dX10_change_71 rfl
  refine sim_case (fun c7_2 => ?_) (fun c7_2 => ?_)
  · refine sim_tableIn (off := 65) (2) 72 c7_2 dX10_change_7 (by decide +kernel) (by decide +kernel) (by decide +kernel) (by decide) ?_
    refine sim_aload_n dX10_change_72 rfl ?_
    refine sim_gI 1 5 dX10_change_73 rfl wf_RX10_342 (Nat.le_of_ble_eq_true rfl) rfl (fun v7 => ?_)
    refine sim_istore dX10_change_76 (Nat.le_of_ble_eq_true rfl) ?_
    refine sim_aload_n dX10_change_78 rfl ?_
    refine sim_iconst (0) dX10_change_79 (by decide +kernel) ?_
    refine sim_pZ 1 5 dX10_change_80 rfl wf_RX10_342 (Nat.le_of_ble_eq_true rfl) rfl (Or.inl rfl) rfl (fun h8 => ?_)
    refine sim_iload dX10_change_83 rfl ?_
    exact sim_zret dX10_change_85 rfl
  refine sim_case (fun c7_3 => ?_) (fun c7_3 => ?_)
  · refine sim_tableIn (off := 79) (3) 86 c7_3 dX10_change_7 (by decide +kernel) (by decide +kernel) (by decide +kernel) (by decide) ?_
    refine sim_aload_n dX10_change_86 rfl ?_
    refine sim_gI 1 4 dX10_change_87 rfl wf_RX10_345 (Nat.le_of_ble_eq_true rfl) rfl (fun v9 => ?_)
    refine sim_if_ne 97 dX10_change_90 (by decide) (fun c => ?_) (fun c => ?_)
    · refine sim_iconst (0) dX10_change_97 (by decide +kernel) ?_
      exact sim_lv (am_leN (am_leN (am_leN (am_leS (am_leN am_leT))))) (t_X10_change_98 d (by omega) _ _ _)
    · refine sim_iconst (1) dX10_change_93 (by decide +kernel) ?_
      refine sim_goto 98 dX10_change_94 (by decide) ?_
      exact sim_lv (am_leN (am_leN (am_leN (am_leS (am_leN am_leT))))) (t_X10_change_98 d (by omega) _ _ _)
  refine sim_tableOut 108 dX10_change_7 ((am_out (N := 4) (by decide) (lt_s (lt_s (lt_s (lt_s lt_0 c7_0) c7_1) c7_2) c7_3)).imp id (fun z => by omega)) (by decide) ?_
  exact sim_throw 1 (by decide) dX10_change_108 dX10_change_111 dX10_change_112 dX10_change_114 dX10_change_117 wx_RX10_66 wy_1 ws_RX10_232 at_RX10_70 gd_RX10_70 (by omega) (Nat.le_of_ble_eq_true rfl))
theorem q_X10_change : am_Cal m_X10_change 2 2 := ⟨am_mem 921 (w := Cond.code yX10_change cX10_change 5 (some .boolean)) (by decide +kernel) rfl, am_mem 30 (w := Cond.initialized RX10) (by decide +kernel) rfl, fun z => absurd z (by decide), fun _ => am_mem 919 (w := Cond.instanceMethod yX10_change) (by decide +kernel) rfl, fun z => absurd z (by decide), fun _ => am_mem 920 (w := Cond.selects RX10 yX10_change yX10_change) (by decide +kernel) rfl, by decide +kernel, by decide +kernel, Nat.le_of_ble_eq_true rfl⟩
abbrev m_X10_isBlockedBy : am_M := (yX10_isBlockedBy, cX10_isBlockedBy, 3, some .boolean, [])
def f_X10_isBlockedBy_31  (s0 : Int32) (h : am_H) : am_R := m_rz h s0
theorem t_X10_isBlockedBy_31 (d : Nat) (hd : 1 ≤ d)  (s0 : Int32) (h : am_H) : Sim m_X10_isBlockedBy d 31 [none, none, none] [.inl s0] h (f_X10_isBlockedBy_31  s0 h) := by
  unfold f_X10_isBlockedBy_31
  exact sim_zret dX10_isBlockedBy_31 rfl
def f_X10_isBlockedBy_30   (h : am_H) : am_R := f_X10_isBlockedBy_31 (0 : Int32) h
theorem t_X10_isBlockedBy_30 (d : Nat) (hd : 1 ≤ d)   (h : am_H) : Sim m_X10_isBlockedBy d 30 [none, none, none] [] h (f_X10_isBlockedBy_30   h) := by
  unfold f_X10_isBlockedBy_30
  refine sim_iconst (0) dX10_isBlockedBy_30 (by decide +kernel) ?_
  exact sim_lv (am_leN (am_leN (am_leN am_leT))) (t_X10_isBlockedBy_31 d (by omega) _ _)
def f_X10_isBlockedBy (a0 : Nat × Nat) (x1 : Int32) (x2 : Int32) (h : am_H) : am_R := if x1 < 0 then (f_X10_isBlockedBy_30 h) else (if (12 : Int32) ≤ x1 then (f_X10_isBlockedBy_30 h) else (m_gR (some a0) 10 2 h fun o1 => m_aR o1 4 x1 h fun o2 => m_gI o2 3 0 h fun v3 => m_bI (f_X10_has v3 x2 h) fun h4 v5 => if v5 = 0 then (f_X10_isBlockedBy_30 h4) else (f_X10_isBlockedBy_31 (1 : Int32) h4)))
theorem k_X10_isBlockedBy (d : Nat) (hd : 1 ≤ d) (a0 : Nat × Nat) (x1 : Int32) (x2 : Int32) (h : am_H) : am_Con m_X10_isBlockedBy d [.inr (.inr (some a0)), .inl x1, .inl x2] h (f_X10_isBlockedBy a0 x1 x2 h) := am_con (by decide +kernel) (Nat.le_of_ble_eq_true rfl) (by
  unfold f_X10_isBlockedBy
  refine sim_iload_n dX10_isBlockedBy_0 rfl ?_
  refine sim_if_lt 30 dX10_isBlockedBy_1 (by decide) (fun c => ?_) (fun c => ?_)
  · exact sim_lv (am_leN (am_leN (am_leN am_leT))) (t_X10_isBlockedBy_30 d (by omega) _)
  · refine sim_iload_n dX10_isBlockedBy_4 rfl ?_
    refine sim_bipush (12) dX10_isBlockedBy_5 (by decide +kernel) ?_
    refine sim_ic_ge 30 dX10_isBlockedBy_7 (by decide) (fun c => ?_) (fun c => ?_)
    · exact sim_lv (am_leN (am_leN (am_leN am_leT))) (t_X10_isBlockedBy_30 d (by omega) _)
    · refine sim_aload_n dX10_isBlockedBy_10 rfl ?_
      refine sim_gR 10 2 dX10_isBlockedBy_11 rfl wf_RX10_15 (Nat.le_of_ble_eq_true rfl) rfl (fun o1 => ?_)
      refine sim_iload_n dX10_isBlockedBy_14 rfl ?_
      refine sim_aR 4 rfl dX10_isBlockedBy_15 (fun o2 => ?_)
      refine sim_gI 3 0 dX10_isBlockedBy_16 rfl wf_RX10_88 (Nat.le_of_ble_eq_true rfl) rfl (fun v3 => ?_)
      refine sim_iload_n dX10_isBlockedBy_19 rfl ?_
      refine sim_static (d - 1) dX10_isBlockedBy_20 (k_X10_has (d - 1) (by omega) _ _ _) q_X10_has wm_RX10_91 rfl rfl (by omega) (Nat.le_of_ble_eq_true rfl) am_nI (am_rI fun h4 v5 => ?_) am_eI
      refine sim_if_eq 30 dX10_isBlockedBy_23 (by decide) (fun c => ?_) (fun c => ?_)
      · exact sim_lv (am_leN (am_leN (am_leN am_leT))) (t_X10_isBlockedBy_30 d (by omega) _)
      · refine sim_iconst (1) dX10_isBlockedBy_26 (by decide +kernel) ?_
        refine sim_goto 31 dX10_isBlockedBy_27 (by decide) ?_
        exact sim_lv (am_leN (am_leN (am_leN am_leT))) (t_X10_isBlockedBy_31 d (by omega) _ _))
theorem q_X10_isBlockedBy : am_Cal m_X10_isBlockedBy 2 2 := ⟨am_mem 880 (w := Cond.code yX10_isBlockedBy cX10_isBlockedBy 3 (some .boolean)) (by decide +kernel) rfl, am_mem 30 (w := Cond.initialized RX10) (by decide +kernel) rfl, fun z => absurd z (by decide), fun _ => am_mem 879 (w := Cond.instanceMethod yX10_isBlockedBy) (by decide +kernel) rfl, fun z => absurd z (by decide), fun _ => am_mem 25 (w := Cond.selects RX10 yX10_isBlockedBy yX10_isBlockedBy) (by decide +kernel) rfl, by decide +kernel, by decide +kernel, Nat.le_of_ble_eq_true rfl⟩
abbrev m_X10_isBlockedByAny : am_M := (yX10_isBlockedByAny, cX10_isBlockedByAny, 4, some .boolean, [])
def f_X10_isBlockedByAny_27 (rc2 : Nat × Nat → Int32 → Int32 → Int32 → am_H → am_R) (a0 : Nat × Nat) (x1 : Int32) (x2 : Int32) (x3 : Int32) (h : am_H) : am_R := rc2 a0 x1 x2 (x3 + 1) h
theorem t_X10_isBlockedByAny_27 (d : Nat) (hd : 2 ≤ d) (rc2 : Nat × Nat → Int32 → Int32 → Int32 → am_H → am_R) (hrc2 : ∀ a0 x1 x2 x3 h, Sim m_X10_isBlockedByAny d 2 [some (.inr (.inr (some a0))), some (.inl x1), some (.inl x2), some (.inl x3)] [] h (rc2 a0 x1 x2 x3 h)) (a0 : Nat × Nat) (x1 : Int32) (x2 : Int32) (x3 : Int32) (h : am_H) : Sim m_X10_isBlockedByAny d 27 [some (.inr (.inr (some a0))), some (.inl x1), some (.inl x2), some (.inl x3)] [] h (f_X10_isBlockedByAny_27 rc2 a0 x1 x2 x3 h) := by
  unfold f_X10_isBlockedByAny_27
  refine sim_iinc (1) dX10_isBlockedByAny_27 rfl (by decide +kernel) (Nat.le_of_ble_eq_true rfl) ?_
  refine sim_goto 2 dX10_isBlockedByAny_30 (by decide) ?_
  exact sim_lv (am_leS (am_leS (am_leS (am_leS am_leT)))) (hrc2 _ _ _ _ _)
def f_X10_isBlockedByAny_2  : Nat → Nat × Nat → Int32 → Int32 → Int32 → am_H → am_R
  | 0, _, _, _, _, _ => none
  | n + 1, a0, x1, x2, x3, h => if (12 : Int32) ≤ x3 then (m_rz h (0 : Int32)) else (m_bI (f_X10_has x1 x3 h) fun h1 v2 => if v2 = 0 then (f_X10_isBlockedByAny_27 (f_X10_isBlockedByAny_2  n) a0 x1 x2 x3 h1) else (m_ao (some a0) 10 fun a5 => m_bI (f_X10_isBlockedBy a5 x3 x2 h1) fun h3 v4 => if v4 = 0 then (f_X10_isBlockedByAny_27 (f_X10_isBlockedByAny_2  n) a0 x1 x2 x3 h3) else (m_rz h3 (1 : Int32))))
theorem t_X10_isBlockedByAny_2 (d : Nat) (hd : 2 ≤ d)  : ∀ (n : Nat) (a0 : Nat × Nat) (x1 : Int32) (x2 : Int32) (x3 : Int32) (h : am_H), Sim m_X10_isBlockedByAny d 2 [some (.inr (.inr (some a0))), some (.inl x1), some (.inl x2), some (.inl x3)] [] h (f_X10_isBlockedByAny_2  n a0 x1 x2 x3 h) := by
  intro n
  induction n with
  | zero => intros; exact sim_none
  | succ n hrc2 =>
    intro a0 x1 x2 x3 h
    rw [f_X10_isBlockedByAny_2]
    refine sim_iload_n dX10_isBlockedByAny_2 rfl ?_
    refine sim_bipush (12) dX10_isBlockedByAny_3 (by decide +kernel) ?_
    refine sim_ic_ge 33 dX10_isBlockedByAny_5 (by decide) (fun c => ?_) (fun c => ?_)
    · refine sim_iconst (0) dX10_isBlockedByAny_33 (by decide +kernel) ?_
      exact sim_zret dX10_isBlockedByAny_34 rfl
    · refine sim_iload_n dX10_isBlockedByAny_8 rfl ?_
      refine sim_iload_n dX10_isBlockedByAny_9 rfl ?_
      refine sim_static (d - 1) dX10_isBlockedByAny_10 (k_X10_has (d - 1) (by omega) _ _ _) q_X10_has wm_RX10_91 rfl rfl (by omega) (Nat.le_of_ble_eq_true rfl) am_nI (am_rI fun h1 v2 => ?_) am_eI
      refine sim_if_eq 27 dX10_isBlockedByAny_13 (by decide) (fun c => ?_) (fun c => ?_)
      · exact sim_lv (am_leS (am_leS (am_leS (am_leS am_leT)))) (t_X10_isBlockedByAny_27 d (by omega) _ hrc2 _ _ _ _ _)
      · refine sim_aload_n dX10_isBlockedByAny_16 rfl ?_
        refine sim_iload_n dX10_isBlockedByAny_17 rfl ?_
        refine sim_iload_n dX10_isBlockedByAny_18 rfl ?_
        refine sim_ao2 (fun a5 e => ?_)
        refine sim_virt (d - 1) e dX10_isBlockedByAny_19 (k_X10_isBlockedBy (d - 1) (by omega) _ _ _ _) q_X10_isBlockedBy rfl rfl wm_RX10_455 rfl rfl (by omega) (Nat.le_of_ble_eq_true rfl) am_nI (am_rI fun h3 v4 => ?_) am_eI
        refine sim_if_eq 27 dX10_isBlockedByAny_22 (by decide) (fun c => ?_) (fun c => ?_)
        · exact sim_lv (am_leS (am_leS (am_leS (am_leS am_leT)))) (t_X10_isBlockedByAny_27 d (by omega) _ hrc2 _ _ _ _ _)
        · refine sim_iconst (1) dX10_isBlockedByAny_25 (by decide +kernel) ?_
          exact sim_zret dX10_isBlockedByAny_26 rfl
def f_X10_isBlockedByAny (a0 : Nat × Nat) (x1 : Int32) (x2 : Int32) (h : am_H) : am_R := f_X10_isBlockedByAny_2 5000 a0 x1 x2 (0 : Int32) h
theorem k_X10_isBlockedByAny (d : Nat) (hd : 2 ≤ d) (a0 : Nat × Nat) (x1 : Int32) (x2 : Int32) (h : am_H) : am_Con m_X10_isBlockedByAny d [.inr (.inr (some a0)), .inl x1, .inl x2] h (f_X10_isBlockedByAny a0 x1 x2 h) := am_con (by decide +kernel) (Nat.le_of_ble_eq_true rfl) (by
  unfold f_X10_isBlockedByAny
  refine sim_iconst (0) dX10_isBlockedByAny_0 (by decide +kernel) ?_
  refine sim_istore_n dX10_isBlockedByAny_1 (Nat.le_of_ble_eq_true rfl) ?_
  exact sim_lv (am_leS (am_leS (am_leS (am_leS am_leT)))) (t_X10_isBlockedByAny_2 d (by omega) _ _ _ _ _ _))
theorem q_X10_isBlockedByAny : am_Cal m_X10_isBlockedByAny 2 2 := ⟨am_mem 876 (w := Cond.code yX10_isBlockedByAny cX10_isBlockedByAny 4 (some .boolean)) (by decide +kernel) rfl, am_mem 30 (w := Cond.initialized RX10) (by decide +kernel) rfl, fun z => absurd z (by decide), fun _ => am_mem 875 (w := Cond.instanceMethod yX10_isBlockedByAny) (by decide +kernel) rfl, fun z => absurd z (by decide), fun _ => am_mem 24 (w := Cond.selects RX10 yX10_isBlockedByAny yX10_isBlockedByAny) (by decide +kernel) rfl, by decide +kernel, by decide +kernel, Nat.le_of_ble_eq_true rfl⟩
abbrev m_X10_isReadBy : am_M := (yX10_isReadBy, cX10_isReadBy, 4, some .boolean, [])
def f_X10_isReadBy_49  (s0 : Int32) (h : am_H) : am_R := m_rz h s0
theorem t_X10_isReadBy_49 (d : Nat) (hd : 3 ≤ d)  (s0 : Int32) (h : am_H) : Sim m_X10_isReadBy d 49 [none, none, none, none] [.inl s0] h (f_X10_isReadBy_49  s0 h) := by
  unfold f_X10_isReadBy_49
  exact sim_zret dX10_isReadBy_49 rfl
def f_X10_isReadBy_44   (h : am_H) : am_R := f_X10_isReadBy_49 (1 : Int32) h
theorem t_X10_isReadBy_44 (d : Nat) (hd : 3 ≤ d)   (h : am_H) : Sim m_X10_isReadBy d 44 [none, none, none, none] [] h (f_X10_isReadBy_44   h) := by
  unfold f_X10_isReadBy_44
  refine sim_iconst (1) dX10_isReadBy_44 (by decide +kernel) ?_
  refine sim_goto 49 dX10_isReadBy_45 (by decide) ?_
  exact sim_lv (am_leN (am_leN (am_leN (am_leN am_leT)))) (t_X10_isReadBy_49 d (by omega) _ _)
def f_X10_isReadBy_19   (h : am_H) : am_R := m_rz h (0 : Int32)
theorem t_X10_isReadBy_19 (d : Nat) (hd : 3 ≤ d)   (h : am_H) : Sim m_X10_isReadBy d 19 [none, none, none, none] [] h (f_X10_isReadBy_19   h) := by
  unfold f_X10_isReadBy_19
  refine sim_iconst (0) dX10_isReadBy_19 (by decide +kernel) ?_
  exact sim_zret dX10_isReadBy_20 rfl
def f_X10_isReadBy (a0 : Nat × Nat) (x1 : Int32) (x2 : Option (Nat × Nat)) (x3 : Option (Nat × Nat)) (h : am_H) : am_R := m_gI x2 1 4 h fun v1 => if v1 = 0 then (m_gI (some a0) 10 0 h fun v2 => m_ao x3 9 fun a5 => m_bI (f_X9_isSeenBy a5 x1 v2 h) fun h3 v4 => if v4 = 0 then (f_X10_isReadBy_19 h3) else (m_gI x2 1 5 h3 fun v6 => if v6 = 0 then (f_X10_isReadBy_44 h3) else (m_gI x2 1 1 h3 fun v7 => if v7 = x1 then (f_X10_isReadBy_44 h3) else (m_ao x3 9 fun a10 => m_bI (f_X9_isOwnedBy a10 x1 h3) fun h8 v9 => if v9 = 0 then (f_X10_isReadBy_49 (0 : Int32) h8) else (f_X10_isReadBy_44 h8))))) else (f_X10_isReadBy_19 h)
theorem k_X10_isReadBy (d : Nat) (hd : 3 ≤ d) (a0 : Nat × Nat) (x1 : Int32) (x2 : Option (Nat × Nat)) (x3 : Option (Nat × Nat)) (h : am_H) : am_Con m_X10_isReadBy d [.inr (.inr (some a0)), .inl x1, .inr (.inr x2), .inr (.inr x3)] h (f_X10_isReadBy a0 x1 x2 x3 h) := am_con (by decide +kernel) (Nat.le_of_ble_eq_true rfl) (by
  unfold f_X10_isReadBy
  refine sim_aload_n dX10_isReadBy_0 rfl ?_
  refine sim_gI 1 4 dX10_isReadBy_1 rfl wf_RX10_345 (Nat.le_of_ble_eq_true rfl) rfl (fun v1 => ?_)
  refine sim_if_ne 19 dX10_isReadBy_4 (by decide) (fun c => ?_) (fun c => ?_)
  · exact sim_lv (am_leN (am_leN (am_leN (am_leN am_leT)))) (t_X10_isReadBy_19 d (by omega) _)
  · refine sim_aload_n dX10_isReadBy_7 rfl ?_
    refine sim_iload_n dX10_isReadBy_8 rfl ?_
    refine sim_aload_n dX10_isReadBy_9 rfl ?_
    refine sim_gI 10 0 dX10_isReadBy_10 rfl wf_RX10_73 (Nat.le_of_ble_eq_true rfl) rfl (fun v2 => ?_)
    refine sim_ao2 (fun a5 e => ?_)
    refine sim_virt (d - 1) e dX10_isReadBy_13 (k_X9_isSeenBy (d - 1) (by omega) _ _ _ _) q_X9_isSeenBy rfl rfl wm_RX10_173 rfl rfl (by omega) (Nat.le_of_ble_eq_true rfl) am_nI (am_rI fun h3 v4 => ?_) am_eI
    refine sim_if_ne 21 dX10_isReadBy_16 (by decide) (fun c => ?_) (fun c => ?_)
    · refine sim_aload_n dX10_isReadBy_21 rfl ?_
      refine sim_gI 1 5 dX10_isReadBy_22 rfl wf_RX10_342 (Nat.le_of_ble_eq_true rfl) rfl (fun v6 => ?_)
      refine sim_if_eq 44 dX10_isReadBy_25 (by decide) (fun c => ?_) (fun c => ?_)
      · exact sim_lv (am_leN (am_leN (am_leN (am_leN am_leT)))) (t_X10_isReadBy_44 d (by omega) _)
      · refine sim_aload_n dX10_isReadBy_28 rfl ?_
        refine sim_gI 1 1 dX10_isReadBy_29 rfl wf_RX10_446 (Nat.le_of_ble_eq_true rfl) rfl (fun v7 => ?_)
        refine sim_iload_n dX10_isReadBy_32 rfl ?_
        refine sim_ic_eq 44 dX10_isReadBy_33 (by decide) (fun c => ?_) (fun c => ?_)
        · exact sim_lv (am_leN (am_leN (am_leN (am_leN am_leT)))) (t_X10_isReadBy_44 d (by omega) _)
        · refine sim_aload_n dX10_isReadBy_36 rfl ?_
          refine sim_iload_n dX10_isReadBy_37 rfl ?_
          refine sim_ao1 (fun a10 e => ?_)
          refine sim_virt (d - 1) e dX10_isReadBy_38 (k_X9_isOwnedBy (d - 1) (by omega) _ _ _) q_X9_isOwnedBy rfl rfl wm_RX10_125 rfl rfl (by omega) (Nat.le_of_ble_eq_true rfl) am_nI (am_rI fun h8 v9 => ?_) am_eI
          refine sim_if_eq 48 dX10_isReadBy_41 (by decide) (fun c => ?_) (fun c => ?_)
          · refine sim_iconst (0) dX10_isReadBy_48 (by decide +kernel) ?_
            exact sim_lv (am_leN (am_leN (am_leN (am_leN am_leT)))) (t_X10_isReadBy_49 d (by omega) _ _)
          · exact sim_lv (am_leN (am_leN (am_leN (am_leN am_leT)))) (t_X10_isReadBy_44 d (by omega) _)
    · exact sim_lv (am_leN (am_leN (am_leN (am_leN am_leT)))) (t_X10_isReadBy_19 d (by omega) _))
theorem q_X10_isReadBy : am_Cal m_X10_isReadBy 3 2 := ⟨am_mem 884 (w := Cond.code yX10_isReadBy cX10_isReadBy 4 (some .boolean)) (by decide +kernel) rfl, am_mem 30 (w := Cond.initialized RX10) (by decide +kernel) rfl, fun z => absurd z (by decide), fun _ => am_mem 883 (w := Cond.instanceMethod yX10_isReadBy) (by decide +kernel) rfl, fun z => absurd z (by decide), fun _ => am_mem 26 (w := Cond.selects RX10 yX10_isReadBy yX10_isReadBy) (by decide +kernel) rfl, by decide +kernel, by decide +kernel, Nat.le_of_ble_eq_true rfl⟩
abbrev m_X1_isFrozenHereOrAbove : am_M := (yX1_isFrozenHereOrAbove, cX1_isFrozenHereOrAbove, 2, some .boolean, [])
def f_X1_isFrozenHereOrAbove_2  : Nat → Option (Nat × Nat) → am_H → am_R
  | 0, _, _ => none
  | n + 1, x1, h => if x1 = none then (m_rz h (0 : Int32)) else (m_gI x1 1 3 h fun v1 => if v1 = 0 then (m_gR x1 1 2 h fun o2 => (f_X1_isFrozenHereOrAbove_2  n) o2 h) else (m_rz h (1 : Int32)))
theorem t_X1_isFrozenHereOrAbove_2 (d : Nat) (hd : 0 ≤ d)  : ∀ (n : Nat) (x1 : Option (Nat × Nat)) (h : am_H), Sim m_X1_isFrozenHereOrAbove d 2 [none, some (.inr (.inr x1))] [] h (f_X1_isFrozenHereOrAbove_2  n x1 h) := by
  intro n
  induction n with
  | zero => intros; exact sim_none
  | succ n hrc2 =>
    intro x1 h
    rw [f_X1_isFrozenHereOrAbove_2]
    refine sim_aload_n dX1_isFrozenHereOrAbove_2 rfl ?_
    refine sim_ifnull 23 dX1_isFrozenHereOrAbove_3 (by decide) (fun c => ?_) (fun c => ?_)
    · refine sim_iconst (0) dX1_isFrozenHereOrAbove_23 (by decide +kernel) ?_
      exact sim_zret dX1_isFrozenHereOrAbove_24 rfl
    · refine sim_aload_n dX1_isFrozenHereOrAbove_6 rfl ?_
      refine sim_gI 1 3 dX1_isFrozenHereOrAbove_7 rfl wf_RX1_24 (Nat.le_of_ble_eq_true rfl) rfl (fun v1 => ?_)
      refine sim_if_eq 15 dX1_isFrozenHereOrAbove_10 (by decide) (fun c => ?_) (fun c => ?_)
      · refine sim_aload_n dX1_isFrozenHereOrAbove_15 rfl ?_
        refine sim_gR 1 2 dX1_isFrozenHereOrAbove_16 rfl wf_RX1_16 (Nat.le_of_ble_eq_true rfl) rfl (fun o2 => ?_)
        refine sim_astore_n dX1_isFrozenHereOrAbove_19 (Nat.le_of_ble_eq_true rfl) ?_
        refine sim_goto 2 dX1_isFrozenHereOrAbove_20 (by decide) ?_
        exact sim_lv (am_leN (am_leS am_leT)) (hrc2 _ _)
      · refine sim_iconst (1) dX1_isFrozenHereOrAbove_13 (by decide +kernel) ?_
        exact sim_zret dX1_isFrozenHereOrAbove_14 rfl
def f_X1_isFrozenHereOrAbove (a0 : Nat × Nat) (h : am_H) : am_R := f_X1_isFrozenHereOrAbove_2 5000 (some a0) h
theorem k_X1_isFrozenHereOrAbove (d : Nat) (hd : 0 ≤ d) (a0 : Nat × Nat) (h : am_H) : am_Con m_X1_isFrozenHereOrAbove d [.inr (.inr (some a0))] h (f_X1_isFrozenHereOrAbove a0 h) := am_con (by decide +kernel) (Nat.le_of_ble_eq_true rfl) (by
  unfold f_X1_isFrozenHereOrAbove
  refine sim_aload_n dX1_isFrozenHereOrAbove_0 rfl ?_
  refine sim_astore_n dX1_isFrozenHereOrAbove_1 (Nat.le_of_ble_eq_true rfl) ?_
  exact sim_lv (am_leN (am_leS am_leT)) (t_X1_isFrozenHereOrAbove_2 d (by omega) _ _ _))
theorem q_X1_isFrozenHereOrAbove : am_Cal m_X1_isFrozenHereOrAbove 0 2 := ⟨am_mem 888 (w := Cond.code yX1_isFrozenHereOrAbove cX1_isFrozenHereOrAbove 2 (some .boolean)) (by decide +kernel) rfl, am_mem 50 (w := Cond.initialized RX1) (by decide +kernel) rfl, fun z => absurd z (by decide), fun _ => am_mem 886 (w := Cond.instanceMethod yX1_isFrozenHereOrAbove) (by decide +kernel) rfl, fun z => absurd z (by decide), fun _ => am_mem 887 (w := Cond.selects RX1 yX1_isFrozenHereOrAbove yX1_isFrozenHereOrAbove) (by decide +kernel) rfl, by decide +kernel, by decide +kernel, Nat.le_of_ble_eq_true rfl⟩
abbrev m_X10_mayComment : am_M := (yX10_mayComment, cX10_mayComment, 4, some .boolean, [])
def f_X10_mayComment_66  (s0 : Int32) (h : am_H) : am_R := m_rz h s0
theorem t_X10_mayComment_66 (d : Nat) (hd : 4 ≤ d)  (s0 : Int32) (h : am_H) : Sim m_X10_mayComment d 66 [none, none, none, none] [.inl s0] h (f_X10_mayComment_66  s0 h) := by
  unfold f_X10_mayComment_66
  exact sim_zret dX10_mayComment_66 rfl
def f_X10_mayComment_65   (h : am_H) : am_R := f_X10_mayComment_66 (0 : Int32) h
theorem t_X10_mayComment_65 (d : Nat) (hd : 4 ≤ d)   (h : am_H) : Sim m_X10_mayComment d 65 [none, none, none, none] [] h (f_X10_mayComment_65   h) := by
  unfold f_X10_mayComment_65
  refine sim_iconst (0) dX10_mayComment_65 (by decide +kernel) ?_
  exact sim_lv (am_leN (am_leN (am_leN (am_leN am_leT)))) (t_X10_mayComment_66 d (by omega) _ _)
def f_X10_mayComment_24   (h : am_H) : am_R := m_rz h (0 : Int32)
theorem t_X10_mayComment_24 (d : Nat) (hd : 4 ≤ d)   (h : am_H) : Sim m_X10_mayComment d 24 [none, none, none, none] [] h (f_X10_mayComment_24   h) := by
  unfold f_X10_mayComment_24
  refine sim_iconst (0) dX10_mayComment_24 (by decide +kernel) ?_
  exact sim_zret dX10_mayComment_25 rfl
def f_X10_mayComment (a0 : Nat × Nat) (x1 : Option (Nat × Nat)) (x2 : Int32) (x3 : Option (Nat × Nat)) (h : am_H) : am_R := m_gI (some a0) 10 0 h fun v1 => m_ao x1 9 fun a4 => m_bI (f_X9_isSeenBy a4 x2 v1 h) fun h2 v3 => if v3 = 0 then (f_X10_mayComment_24 h2) else (m_gI x1 9 1 h2 fun v5 => m_ao (some a0) 10 fun a8 => m_bI (f_X10_isBlockedByAny a8 v5 x2 h2) fun h6 v7 => if v7 = 0 then (if x3 = none then (m_rz h6 (1 : Int32)) else (m_ao (some a0) 10 fun a11 => m_bI (f_X10_isReadBy a11 x2 x3 x1 h6) fun h9 v10 => if v10 = 0 then (f_X10_mayComment_65 h9) else (m_ao x3 1 fun a14 => m_bI (f_X1_isFrozenHereOrAbove a14 h9) fun h12 v13 => if v13 = 0 then (m_gI x3 1 1 h12 fun v15 => m_ao (some a0) 10 fun a18 => m_bI (f_X10_isBlockedBy a18 v15 x2 h12) fun h16 v17 => if v17 = 0 then (f_X10_mayComment_66 (1 : Int32) h16) else (f_X10_mayComment_65 h16)) else (f_X10_mayComment_65 h12)))) else (f_X10_mayComment_24 h6))
theorem k_X10_mayComment (d : Nat) (hd : 4 ≤ d) (a0 : Nat × Nat) (x1 : Option (Nat × Nat)) (x2 : Int32) (x3 : Option (Nat × Nat)) (h : am_H) : am_Con m_X10_mayComment d [.inr (.inr (some a0)), .inr (.inr x1), .inl x2, .inr (.inr x3)] h (f_X10_mayComment a0 x1 x2 x3 h) := am_con (by decide +kernel) (Nat.le_of_ble_eq_true rfl) (by
  unfold f_X10_mayComment
  refine sim_aload_n dX10_mayComment_0 rfl ?_
  refine sim_iload_n dX10_mayComment_1 rfl ?_
  refine sim_aload_n dX10_mayComment_2 rfl ?_
  refine sim_gI 10 0 dX10_mayComment_3 rfl wf_RX10_73 (Nat.le_of_ble_eq_true rfl) rfl (fun v1 => ?_)
  refine sim_ao2 (fun a4 e => ?_)
  refine sim_virt (d - 1) e dX10_mayComment_6 (k_X9_isSeenBy (d - 1) (by omega) _ _ _ _) q_X9_isSeenBy rfl rfl wm_RX10_173 rfl rfl (by omega) (Nat.le_of_ble_eq_true rfl) am_nI (am_rI fun h2 v3 => ?_) am_eI
  refine sim_if_eq 24 dX10_mayComment_9 (by decide) (fun c => ?_) (fun c => ?_)
  · exact sim_lv (am_leN (am_leN (am_leN (am_leN am_leT)))) (t_X10_mayComment_24 d (by omega) _)
  · refine sim_aload_n dX10_mayComment_12 rfl ?_
    refine sim_aload_n dX10_mayComment_13 rfl ?_
    refine sim_gI 9 1 dX10_mayComment_14 rfl wf_RX10_116 (Nat.le_of_ble_eq_true rfl) rfl (fun v5 => ?_)
    refine sim_iload_n dX10_mayComment_17 rfl ?_
    refine sim_ao2 (fun a8 e => ?_)
    refine sim_virt (d - 1) e dX10_mayComment_18 (k_X10_isBlockedByAny (d - 1) (by omega) _ _ _ _) q_X10_isBlockedByAny rfl rfl wm_RX10_449 rfl rfl (by omega) (Nat.le_of_ble_eq_true rfl) am_nI (am_rI fun h6 v7 => ?_) am_eI
    refine sim_if_eq 26 dX10_mayComment_21 (by decide) (fun c => ?_) (fun c => ?_)
    · refine sim_aload_n dX10_mayComment_26 rfl ?_
      refine sim_ifnonnull 32 dX10_mayComment_27 (by decide) (fun c => ?_) (fun c => ?_)
      · refine sim_aload_n dX10_mayComment_32 rfl ?_
        refine sim_iload_n dX10_mayComment_33 rfl ?_
        refine sim_aload_n dX10_mayComment_34 rfl ?_
        refine sim_aload_n dX10_mayComment_35 rfl ?_
        refine sim_ao3 (fun a11 e => ?_)
        refine sim_virt (d - 1) e dX10_mayComment_36 (k_X10_isReadBy (d - 1) (by omega) _ _ _ _ _) q_X10_isReadBy rfl rfl wm_RX10_348 rfl rfl (by omega) (Nat.le_of_ble_eq_true rfl) am_nI (am_rI fun h9 v10 => ?_) am_eI
        refine sim_if_eq 65 dX10_mayComment_39 (by decide) (fun c => ?_) (fun c => ?_)
        · exact sim_lv (am_leN (am_leN (am_leN (am_leN am_leT)))) (t_X10_mayComment_65 d (by omega) _)
        · refine sim_aload_n dX10_mayComment_42 rfl ?_
          refine sim_ao0 (fun a14 e => ?_)
          refine sim_virt (d - 1) e dX10_mayComment_43 (k_X1_isFrozenHereOrAbove (d - 1) (by omega) _  _) q_X1_isFrozenHereOrAbove rfl rfl wm_RX10_452 rfl rfl (by omega) (Nat.le_of_ble_eq_true rfl) am_nI (am_rI fun h12 v13 => ?_) am_eI
          refine sim_if_ne 65 dX10_mayComment_46 (by decide) (fun c => ?_) (fun c => ?_)
          · exact sim_lv (am_leN (am_leN (am_leN (am_leN am_leT)))) (t_X10_mayComment_65 d (by omega) _)
          · refine sim_aload_n dX10_mayComment_49 rfl ?_
            refine sim_aload_n dX10_mayComment_50 rfl ?_
            refine sim_gI 1 1 dX10_mayComment_51 rfl wf_RX10_446 (Nat.le_of_ble_eq_true rfl) rfl (fun v15 => ?_)
            refine sim_iload_n dX10_mayComment_54 rfl ?_
            refine sim_ao2 (fun a18 e => ?_)
            refine sim_virt (d - 1) e dX10_mayComment_55 (k_X10_isBlockedBy (d - 1) (by omega) _ _ _ _) q_X10_isBlockedBy rfl rfl wm_RX10_455 rfl rfl (by omega) (Nat.le_of_ble_eq_true rfl) am_nI (am_rI fun h16 v17 => ?_) am_eI
            refine sim_if_ne 65 dX10_mayComment_58 (by decide) (fun c => ?_) (fun c => ?_)
            · exact sim_lv (am_leN (am_leN (am_leN (am_leN am_leT)))) (t_X10_mayComment_65 d (by omega) _)
            · refine sim_iconst (1) dX10_mayComment_61 (by decide +kernel) ?_
              refine sim_goto 66 dX10_mayComment_62 (by decide) ?_
              exact sim_lv (am_leN (am_leN (am_leN (am_leN am_leT)))) (t_X10_mayComment_66 d (by omega) _ _)
      · refine sim_iconst (1) dX10_mayComment_30 (by decide +kernel) ?_
        exact sim_zret dX10_mayComment_31 rfl
    · exact sim_lv (am_leN (am_leN (am_leN (am_leN am_leT)))) (t_X10_mayComment_24 d (by omega) _))
theorem q_X10_mayComment : am_Cal m_X10_mayComment 3 2 := ⟨am_mem 872 (w := Cond.code yX10_mayComment cX10_mayComment 4 (some .boolean)) (by decide +kernel) rfl, am_mem 30 (w := Cond.initialized RX10) (by decide +kernel) rfl, fun z => absurd z (by decide), fun _ => am_mem 871 (w := Cond.instanceMethod yX10_mayComment) (by decide +kernel) rfl, fun z => absurd z (by decide), fun _ => am_mem 23 (w := Cond.selects RX10 yX10_mayComment yX10_mayComment) (by decide +kernel) rfl, by decide +kernel, by decide +kernel, Nat.le_of_ble_eq_true rfl⟩
abbrev m_X1_init : am_M := (yX1_init, cX1_init, 5, none, [])
def f_X1_init (a0 : Nat × Nat) (x1 : Int32) (x2 : Int32) (x3 : Option (Nat × Nat)) (x4 : Int32) (h : am_H) : am_R := m_pI (some a0) 1 0 x1 h fun h1 => m_pI (some a0) 1 1 x2 h1 fun h2 => m_pR (some a0) 1 2 x3 h2 fun h3 => m_pZ (some a0) 1 5 x4 h3 fun h4 => m_rt h4 none
theorem k_X1_init (d : Nat) (hd : 1 ≤ d) (a0 : Nat × Nat) (x1 : Int32) (x2 : Int32) (x3 : Option (Nat × Nat)) (x4 : Int32) (h : am_H) : am_Con m_X1_init d [.inr (.inr (some a0)), .inl x1, .inl x2, .inr (.inr x3), .inl x4] h (f_X1_init a0 x1 x2 x3 x4 h) := am_con (by decide +kernel) (Nat.le_of_ble_eq_true rfl) (by
  unfold f_X1_init
  refine sim_aload_n dX1_init_0 rfl ?_
  refine sim_obj dX1_init_1 wm_RX1_1 wobj_i wobj_c (by omega) (Nat.le_of_ble_eq_true rfl) ?_
  refine sim_aload_n dX1_init_4 rfl ?_
  refine sim_iload_n dX1_init_5 rfl ?_
  refine sim_pI 1 0 dX1_init_6 rfl wf_RX1_7 (Nat.le_of_ble_eq_true rfl) rfl (Or.inr ⟨rfl, rfl, rfl⟩) rfl (fun h1 => ?_)
  refine sim_aload_n dX1_init_9 rfl ?_
  refine sim_iload_n dX1_init_10 rfl ?_
  refine sim_pI 1 1 dX1_init_11 rfl wf_RX1_13 (Nat.le_of_ble_eq_true rfl) rfl (Or.inr ⟨rfl, rfl, rfl⟩) rfl (fun h2 => ?_)
  refine sim_aload_n dX1_init_14 rfl ?_
  refine sim_aload_n dX1_init_15 rfl ?_
  refine sim_pR 1 2 dX1_init_16 rfl wf_RX1_16 (Nat.le_of_ble_eq_true rfl) rfl (Or.inr ⟨rfl, rfl, rfl⟩) (fun h3 => ?_)
  refine sim_aload_n dX1_init_19 rfl ?_
  refine sim_iload dX1_init_20 rfl ?_
  refine sim_pZ 1 5 dX1_init_22 rfl wf_RX1_20 (Nat.le_of_ble_eq_true rfl) rfl (Or.inl rfl) rfl (fun h4 => ?_)
  exact sim_vret dX1_init_25 rfl)
theorem q_X1_init : am_Cal m_X1_init 4 1 := ⟨am_mem 893 (w := Cond.code yX1_init cX1_init 5 none) (by decide +kernel) rfl, am_mem 50 (w := Cond.initialized RX1) (by decide +kernel) rfl, fun z => absurd z (by decide), fun _ => am_mem 892 (w := Cond.instanceMethod yX1_init) (by decide +kernel) rfl, fun _ => rfl, fun z => absurd z (by decide), by decide +kernel, by decide +kernel, Nat.le_of_ble_eq_true rfl⟩
abbrev m_X10_comment : am_M := (yX10_comment, cX10_comment, 7, some .int, [])
def f_X10_comment_106  (a0 : Nat × Nat) (x1 : Int32) (x2 : Int32) (x5 : Option (Nat × Nat)) (s0 : Int32) (h : am_H) : am_R := m_gR (some a0) 10 11 h fun o18 => m_gI (some a0) 10 12 h fun v19 => m_new 30 6 h fun a20 h21 => m_bW (f_X1_init a20 x1 x2 x5 s0 h21) fun h22 => m_sR o18 7 1 v19 (some a20) h22 fun h24 => m_gI (some a0) 10 12 h24 fun v25 => m_pI (some a0) 10 12 (v25 + (1 : Int32)) h24 fun h26 => m_gI (some a0) 10 12 h26 fun v27 => m_ri h26 (v27 - (1 : Int32))
theorem t_X10_comment_106 (d : Nat) (hd : 8 ≤ d)  (a0 : Nat × Nat) (x1 : Int32) (x2 : Int32) (x5 : Option (Nat × Nat)) (s0 : Int32) (h : am_H) : Sim m_X10_comment d 106 [some (.inr (.inr (some a0))), some (.inl x1), some (.inl x2), none, none, some (.inr (.inr x5)), none] [.inl s0] h (f_X10_comment_106  a0 x1 x2 x5 s0 h) := by
  unfold f_X10_comment_106
  refine sim_istore dX10_comment_106 (Nat.le_of_ble_eq_true rfl) ?_
  refine sim_aload_n dX10_comment_108 rfl ?_
  refine sim_gR 10 11 dX10_comment_109 rfl wf_RX10_61 (Nat.le_of_ble_eq_true rfl) rfl (fun o18 => ?_)
  refine sim_aload_n dX10_comment_112 rfl ?_
  refine sim_gI 10 12 dX10_comment_113 rfl wf_RX10_327 (Nat.le_of_ble_eq_true rfl) rfl (fun v19 => ?_)
  refine sim_nw 30 1 6 dX10_comment_116 rfl rfl wc_RX10_59 wi_RX1 wz_RX1 (fun a20 h21 => ?_)
  refine sim_dup_r dX10_comment_119 ?_
  refine sim_iload_n dX10_comment_120 rfl ?_
  refine sim_iload_n dX10_comment_121 rfl ?_
  refine sim_aload dX10_comment_122 rfl ?_
  refine sim_iload dX10_comment_124 rfl ?_
  refine sim_ctor (d - 1) dX10_comment_126 (k_X1_init (d - 1) (by omega) _ _ _ _ _ _) q_X1_init wm_RX10_336 rfl rfl (by omega) (Nat.le_of_ble_eq_true rfl) am_nW am_xW (am_rW fun h22 => ?_)
  refine sim_sR 7 rfl dX10_comment_129 (fun h24 => ?_)
  refine sim_aload_n dX10_comment_130 rfl ?_
  refine sim_dup_r dX10_comment_131 ?_
  refine sim_gI 10 12 dX10_comment_132 rfl wf_RX10_327 (Nat.le_of_ble_eq_true rfl) rfl (fun v25 => ?_)
  refine sim_iconst (1) dX10_comment_135 (by decide +kernel) ?_
  refine sim_iadd dX10_comment_136 ?_
  refine sim_pI 10 12 dX10_comment_137 rfl wf_RX10_327 (Nat.le_of_ble_eq_true rfl) rfl (Or.inl rfl) rfl (fun h26 => ?_)
  refine sim_aload_n dX10_comment_140 rfl ?_
  refine sim_gI 10 12 dX10_comment_141 rfl wf_RX10_327 (Nat.le_of_ble_eq_true rfl) rfl (fun v27 => ?_)
  refine sim_iconst (1) dX10_comment_144 (by decide +kernel) ?_
  refine sim_isub dX10_comment_145 ?_
  exact sim_iret dX10_comment_146 rfl
def f_X10_comment_105  (a0 : Nat × Nat) (x1 : Int32) (x2 : Int32) (x5 : Option (Nat × Nat)) (h : am_H) : am_R := f_X10_comment_106 a0 x1 x2 x5 (0 : Int32) h
theorem t_X10_comment_105 (d : Nat) (hd : 8 ≤ d)  (a0 : Nat × Nat) (x1 : Int32) (x2 : Int32) (x5 : Option (Nat × Nat)) (h : am_H) : Sim m_X10_comment d 105 [some (.inr (.inr (some a0))), some (.inl x1), some (.inl x2), none, none, some (.inr (.inr x5)), none] [] h (f_X10_comment_105  a0 x1 x2 x5 h) := by
  unfold f_X10_comment_105
  refine sim_iconst (0) dX10_comment_105 (by decide +kernel) ?_
  exact sim_lv (am_leS (am_leS (am_leS (am_leN (am_leN (am_leS (am_leN am_leT))))))) (t_X10_comment_106 d (by omega) _ _ _ _ _ _)
def f_X10_comment_73   (h : am_H) : am_R := m_ex h 2
theorem t_X10_comment_73 (d : Nat) (hd : 8 ≤ d)   (h : am_H) : Sim m_X10_comment d 73 [none, none, none, none, none, none, none] [] h (f_X10_comment_73   h) := by
  unfold f_X10_comment_73
  exact sim_throwW 2 (by decide) dX10_comment_73 dX10_comment_76 dX10_comment_77 dX10_comment_80 dX10_comment_83 wx_RX10_77 wy_2 ws_RX10_334 at_RX10_81 gd_RX10_81 (by omega) (Nat.le_of_ble_eq_true rfl)
def f_X10_comment_52  (a0 : Nat × Nat) (x1 : Int32) (x2 : Int32) (x4 : Option (Nat × Nat)) (x5 : Option (Nat × Nat)) (h : am_H) : am_R := m_gI (some a0) 10 12 h fun v10 => if (60 : Int32) ≤ v10 then (f_X10_comment_73 h) else (m_ao (some a0) 10 fun a13 => m_bI (f_X10_mayComment a13 x4 x2 x5 h) fun h11 v12 => if v12 = 0 then (f_X10_comment_73 h11) else (m_gI x4 9 10 h11 fun v14 => if v14 = 0 then (f_X10_comment_105 a0 x1 x2 x5 h11) else (m_ao x4 9 fun a17 => m_bI (f_X9_isOwnedBy a17 x2 h11) fun h15 v16 => if v16 = 0 then (f_X10_comment_106 a0 x1 x2 x5 (1 : Int32) h15) else (f_X10_comment_105 a0 x1 x2 x5 h15))))
theorem t_X10_comment_52 (d : Nat) (hd : 8 ≤ d)  (a0 : Nat × Nat) (x1 : Int32) (x2 : Int32) (x4 : Option (Nat × Nat)) (x5 : Option (Nat × Nat)) (h : am_H) : Sim m_X10_comment d 52 [some (.inr (.inr (some a0))), some (.inl x1), some (.inl x2), none, some (.inr (.inr x4)), some (.inr (.inr x5)), none] [] h (f_X10_comment_52  a0 x1 x2 x4 x5 h) := by
  unfold f_X10_comment_52
  refine sim_aload_n dX10_comment_52 rfl ?_
  refine sim_gI 10 12 dX10_comment_53 rfl wf_RX10_327 (Nat.le_of_ble_eq_true rfl) rfl (fun v10 => ?_)
  refine sim_bipush (60) dX10_comment_56 (by decide +kernel) ?_
  refine sim_ic_ge 73 dX10_comment_58 (by decide) (fun c => ?_) (fun c => ?_)
  · exact sim_lv (am_leN (am_leN (am_leN (am_leN (am_leN (am_leN (am_leN am_leT))))))) (t_X10_comment_73 d (by omega) _)
  · refine sim_aload_n dX10_comment_61 rfl ?_
    refine sim_aload dX10_comment_62 rfl ?_
    refine sim_iload_n dX10_comment_64 rfl ?_
    refine sim_aload dX10_comment_65 rfl ?_
    refine sim_ao3 (fun a13 e => ?_)
    refine sim_virt (d - 1) e dX10_comment_67 (k_X10_mayComment (d - 1) (by omega) _ _ _ _ _) q_X10_mayComment rfl rfl wm_RX10_330 rfl rfl (by omega) (Nat.le_of_ble_eq_true rfl) am_nI (am_rI fun h11 v12 => ?_) am_eI
    refine sim_if_ne 84 dX10_comment_70 (by decide) (fun c => ?_) (fun c => ?_)
    · refine sim_aload dX10_comment_84 rfl ?_
      refine sim_gI 9 10 dX10_comment_86 rfl wf_RX10_315 (Nat.le_of_ble_eq_true rfl) rfl (fun v14 => ?_)
      refine sim_if_eq 105 dX10_comment_89 (by decide) (fun c => ?_) (fun c => ?_)
      · exact sim_lv (am_leS (am_leS (am_leS (am_leN (am_leN (am_leS (am_leN am_leT))))))) (t_X10_comment_105 d (by omega) _ _ _ _ _)
      · refine sim_aload dX10_comment_92 rfl ?_
        refine sim_iload_n dX10_comment_94 rfl ?_
        refine sim_ao1 (fun a17 e => ?_)
        refine sim_virt (d - 1) e dX10_comment_95 (k_X9_isOwnedBy (d - 1) (by omega) _ _ _) q_X9_isOwnedBy rfl rfl wm_RX10_125 rfl rfl (by omega) (Nat.le_of_ble_eq_true rfl) am_nI (am_rI fun h15 v16 => ?_) am_eI
        refine sim_if_ne 105 dX10_comment_98 (by decide) (fun c => ?_) (fun c => ?_)
        · exact sim_lv (am_leS (am_leS (am_leS (am_leN (am_leN (am_leS (am_leN am_leT))))))) (t_X10_comment_105 d (by omega) _ _ _ _ _)
        · refine sim_iconst (1) dX10_comment_101 (by decide +kernel) ?_
          refine sim_goto 106 dX10_comment_102 (by decide) ?_
          exact sim_lv (am_leS (am_leS (am_leS (am_leN (am_leN (am_leS (am_leN am_leT))))))) (t_X10_comment_106 d (by omega) _ _ _ _ _ _)
    · exact sim_lv (am_leN (am_leN (am_leN (am_leN (am_leN (am_leN (am_leN am_leT))))))) (t_X10_comment_73 d (by omega) _)
def f_X10_comment_25  (a0 : Nat × Nat) (x1 : Int32) (x2 : Int32) (x4 : Option (Nat × Nat)) (s0 : Option (Nat × Nat)) (h : am_H) : am_R := if s0 = none then (f_X10_comment_52 a0 x1 x2 x4 s0 h) else (m_gI s0 1 0 h fun v9 => if v9 = x1 then (f_X10_comment_52 a0 x1 x2 x4 s0 h) else (m_ex h 1))
theorem t_X10_comment_25 (d : Nat) (hd : 8 ≤ d)  (a0 : Nat × Nat) (x1 : Int32) (x2 : Int32) (x4 : Option (Nat × Nat)) (s0 : Option (Nat × Nat)) (h : am_H) : Sim m_X10_comment d 25 [some (.inr (.inr (some a0))), some (.inl x1), some (.inl x2), none, some (.inr (.inr x4)), none, none] [.inr (.inr s0)] h (f_X10_comment_25  a0 x1 x2 x4 s0 h) := by
  unfold f_X10_comment_25
  refine sim_astore dX10_comment_25 (Nat.le_of_ble_eq_true rfl) ?_
  refine sim_aload dX10_comment_27 rfl ?_
  refine sim_ifnull 52 dX10_comment_29 (by decide) (fun c => ?_) (fun c => ?_)
  · exact sim_lv (am_leS (am_leS (am_leS (am_leN (am_leS (am_leS (am_leN am_leT))))))) (t_X10_comment_52 d (by omega) _ _ _ _ _ _)
  · refine sim_aload dX10_comment_32 rfl ?_
    refine sim_gI 1 0 dX10_comment_34 rfl wf_RX10_322 (Nat.le_of_ble_eq_true rfl) rfl (fun v9 => ?_)
    refine sim_iload_n dX10_comment_37 rfl ?_
    refine sim_ic_eq 52 dX10_comment_38 (by decide) (fun c => ?_) (fun c => ?_)
    · exact sim_lv (am_leS (am_leS (am_leS (am_leN (am_leS (am_leS (am_leN am_leT))))))) (t_X10_comment_52 d (by omega) _ _ _ _ _ _)
    · exact sim_throwW 1 (by decide) dX10_comment_41 dX10_comment_44 dX10_comment_45 dX10_comment_48 dX10_comment_51 wx_RX10_66 wy_1 ws_RX10_325 at_RX10_70 gd_RX10_70 (by omega) (Nat.le_of_ble_eq_true rfl)
def f_X10_comment (a0 : Nat × Nat) (x1 : Int32) (x2 : Int32) (x3 : Int32) (h : am_H) : am_R := m_ao (some a0) 10 fun a3 => m_bR (f_X10_workAt a3 x1 h) fun h1 o2 => m_bV (f_X10_checkFace x2 h1) fun h4 => if x3 = (-1 : Int32) then (f_X10_comment_25 a0 x1 x2 o2 none h4) else (m_ao (some a0) 10 fun a8 => m_bR (f_X10_commentAt a8 x3 h4) fun h6 o7 => f_X10_comment_25 a0 x1 x2 o2 o7 h6)
theorem k_X10_comment (d : Nat) (hd : 8 ≤ d) (a0 : Nat × Nat) (x1 : Int32) (x2 : Int32) (x3 : Int32) (h : am_H) : am_Con m_X10_comment d [.inr (.inr (some a0)), .inl x1, .inl x2, .inl x3] h (f_X10_comment a0 x1 x2 x3 h) := am_con (by decide +kernel) (Nat.le_of_ble_eq_true rfl) (by
  unfold f_X10_comment
  refine sim_aload_n dX10_comment_0 rfl ?_
  refine sim_iload_n dX10_comment_1 rfl ?_
  refine sim_ao1 (fun a3 e => ?_)
  refine sim_virt (d - 1) e dX10_comment_2 (k_X10_workAt (d - 1) (by omega) _ _ _) q_X10_workAt rfl rfl wm_RX10_112 rfl rfl (by omega) (Nat.le_of_ble_eq_true rfl) am_nR (am_rR fun h1 o2 => ?_) am_eR
  refine sim_astore dX10_comment_5 (Nat.le_of_ble_eq_true rfl) ?_
  refine sim_iload_n dX10_comment_7 rfl ?_
  refine sim_static (d - 1) dX10_comment_8 (k_X10_checkFace (d - 1) (by omega) _ _) q_X10_checkFace wm_RX10_99 rfl rfl (by omega) (Nat.le_of_ble_eq_true rfl) am_nV (am_rV fun h4 => ?_) am_eV
  refine sim_iload_n dX10_comment_11 rfl ?_
  refine sim_iconst (-1) dX10_comment_12 (by decide +kernel) ?_
  refine sim_ic_ne 20 dX10_comment_13 (by decide) (fun c => ?_) (fun c => ?_)
  · refine sim_aload_n dX10_comment_20 rfl ?_
    refine sim_iload_n dX10_comment_21 rfl ?_
    refine sim_ao1 (fun a8 e => ?_)
    refine sim_virt (d - 1) e dX10_comment_22 (k_X10_commentAt (d - 1) (by omega) _ _ _) q_X10_commentAt rfl rfl wm_RX10_318 rfl rfl (by omega) (Nat.le_of_ble_eq_true rfl) am_nR (am_rR fun h6 o7 => ?_) am_eR
    exact sim_lv (am_leS (am_leS (am_leS (am_leN (am_leS (am_leN (am_leN am_leT))))))) (t_X10_comment_25 d (by omega) _ _ _ _ _ _)
  · refine sim_null dX10_comment_16 ?_
    refine sim_goto 25 dX10_comment_17 (by decide) ?_
    exact sim_lv (am_leS (am_leS (am_leS (am_leN (am_leS (am_leN (am_leN am_leT))))))) (t_X10_comment_25 d (by omega) _ _ _ _ _ _))
theorem q_X10_comment : am_Cal m_X10_comment 3 2 := ⟨am_mem 862 (w := Cond.code yX10_comment cX10_comment 7 (some .int)) (by decide +kernel) rfl, am_mem 30 (w := Cond.initialized RX10) (by decide +kernel) rfl, fun z => absurd z (by decide), fun _ => am_mem 860 (w := Cond.instanceMethod yX10_comment) (by decide +kernel) rfl, fun z => absurd z (by decide), fun _ => am_mem 861 (w := Cond.selects RX10 yX10_comment yX10_comment) (by decide +kernel) rfl, by decide +kernel, by decide +kernel, Nat.le_of_ble_eq_true rfl⟩
