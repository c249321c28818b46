abbrev m_L_act : am_M := (yL_act, cL_act, 9, some .int, [])
def f_L_act_1083  (s0 : Int32) (s1 : Int32) (s2 : Option (Nat × Nat)) (h : am_H) : am_R := m_bI (f_L_does s2 s1 s0 (0 : Int32) (0 : Int32) (0 : Int32) h) fun h118 v119 => m_ri h118 v119
theorem t_L_act_1083 (d : Nat) (hd : 14 ≤ d)  (s0 : Int32) (s1 : Int32) (s2 : Option (Nat × Nat)) (h : am_H) : Sim m_L_act d 1083 [none, none, none, none, none, none, none, none, none] [.inl s0, .inl s1, .inr (.inr s2)] h (f_L_act_1083  s0 s1 s2 h) := by
  unfold f_L_act_1083
  refine sim_iconst (0) dL_act_1083 (by decide +kernel) ?_
  refine sim_iconst (0) dL_act_1084 (by decide +kernel) ?_
  refine sim_iconst (0) dL_act_1085 (by decide +kernel) ?_
  refine sim_staticX (d - 1) dL_act_1086 (k_L_does (d - 1) (by omega) _ _ _ _ _ _ _) q_L_does wm_RL_152 rfl rfl (by omega) (Nat.le_of_ble_eq_true rfl) am_nI (am_rI fun h118 v119 => ?_) am_eI
  exact sim_iret dL_act_1089 rfl
def f_L_act_1079  (s0 : Int32) (s1 : Int32) (s2 : Int32) (s3 : Int32) (s4 : Option (Nat × Nat)) (h : am_H) : am_R := m_bI (f_L_low s1 s0 h) fun h120 v121 => f_L_act_1083 (s2 + v121) s3 s4 h120
theorem t_L_act_1079 (d : Nat) (hd : 14 ≤ d)  (s0 : Int32) (s1 : Int32) (s2 : Int32) (s3 : Int32) (s4 : Option (Nat × Nat)) (h : am_H) : Sim m_L_act d 1079 [none, none, none, none, none, none, none, none, none] [.inl s0, .inl s1, .inl s2, .inl s3, .inr (.inr s4)] h (f_L_act_1079  s0 s1 s2 s3 s4 h) := by
  unfold f_L_act_1079
  refine sim_static (d - 1) dL_act_1079 (k_L_low (d - 1) (by omega) _ _ _) q_L_low wm_RL_155 rfl rfl (by omega) (Nat.le_of_ble_eq_true rfl) am_nI (am_rI fun h120 v121 => ?_) am_eI
  refine sim_iadd dL_act_1082 ?_
  exact sim_lv (am_leN (am_leN (am_leN (am_leN (am_leN (am_leN (am_leN (am_leN (am_leN am_leT))))))))) (t_L_act_1083 d (by omega) _ _ _ _)
def f_L_act_1078  (s0 : Int32) (s1 : Int32) (s2 : Int32) (s3 : Option (Nat × Nat)) (h : am_H) : am_R := f_L_act_1079 (5 : Int32) s0 s1 s2 s3 h
theorem t_L_act_1078 (d : Nat) (hd : 14 ≤ d)  (s0 : Int32) (s1 : Int32) (s2 : Int32) (s3 : Option (Nat × Nat)) (h : am_H) : Sim m_L_act d 1078 [none, none, none, none, none, none, none, none, none] [.inl s0, .inl s1, .inl s2, .inr (.inr s3)] h (f_L_act_1078  s0 s1 s2 s3 h) := by
  unfold f_L_act_1078
  refine sim_iconst (5) dL_act_1078 (by decide +kernel) ?_
  exact sim_lv (am_leN (am_leN (am_leN (am_leN (am_leN (am_leN (am_leN (am_leN (am_leN am_leT))))))))) (t_L_act_1079 d (by omega) _ _ _ _ _ _)
def f_L_act_1060  (x4 : Int32) (s0 : Int32) (s1 : Option (Nat × Nat)) (h : am_H) : am_R := if ((x4 >>> ((5 : Int32) &&& 31)) &&& (7 : Int32)) = 0 then (f_L_act_1079 (50 : Int32) x4 (1 : Int32) s0 s1 h) else (f_L_act_1078 x4 (1 : Int32) s0 s1 h)
theorem t_L_act_1060 (d : Nat) (hd : 14 ≤ d)  (x4 : Int32) (s0 : Int32) (s1 : Option (Nat × Nat)) (h : am_H) : Sim m_L_act d 1060 [none, none, none, none, some (.inl x4), none, none, none, none] [.inl s0, .inr (.inr s1)] h (f_L_act_1060  x4 s0 s1 h) := by
  unfold f_L_act_1060
  refine sim_iconst (1) dL_act_1060 (by decide +kernel) ?_
  refine sim_iload dL_act_1061 rfl ?_
  refine sim_iload dL_act_1063 rfl ?_
  refine sim_iconst (5) dL_act_1065 (by decide +kernel) ?_
  refine sim_ishr dL_act_1066 ?_
  refine sim_bipush (7) dL_act_1067 (by decide +kernel) ?_
  refine sim_iand dL_act_1069 ?_
  refine sim_if_ne 1078 dL_act_1070 (by decide) (fun c => ?_) (fun c => ?_)
  · exact sim_lv (am_leN (am_leN (am_leN (am_leN (am_leN (am_leN (am_leN (am_leN (am_leN am_leT))))))))) (t_L_act_1078 d (by omega) _ _ _ _ _)
  · refine sim_bipush (50) dL_act_1073 (by decide +kernel) ?_
    refine sim_goto 1079 dL_act_1075 (by decide) ?_
    exact sim_lv (am_leN (am_leN (am_leN (am_leN (am_leN (am_leN (am_leN (am_leN (am_leN am_leT))))))))) (t_L_act_1079 d (by omega) _ _ _ _ _ _)
def f_L_act_1044  (x0 : Option (Nat × Nat)) (x2 : Int32) (x4 : Int32) (h : am_H) : am_R := if x2 = 0 then (f_L_act_1060 x4 (0 : Int32) x0 h) else (m_bI (f_L_low x4 (120 : Int32) h) fun h116 v117 => f_L_act_1083 v117 (0 : Int32) x0 h116)
theorem t_L_act_1044 (d : Nat) (hd : 14 ≤ d)  (x0 : Option (Nat × Nat)) (x2 : Int32) (x4 : Int32) (h : am_H) : Sim m_L_act d 1044 [some (.inr (.inr x0)), none, some (.inl x2), none, some (.inl x4), none, none, none, none] [] h (f_L_act_1044  x0 x2 x4 h) := by
  unfold f_L_act_1044
  refine sim_aload_n dL_act_1044 rfl ?_
  refine sim_iconst (0) dL_act_1045 (by decide +kernel) ?_
  refine sim_iload_n dL_act_1046 rfl ?_
  refine sim_if_eq 1060 dL_act_1047 (by decide) (fun c => ?_) (fun c => ?_)
  · exact sim_lv (am_leN (am_leN (am_leN (am_leN (am_leS (am_leN (am_leN (am_leN (am_leN am_leT))))))))) (t_L_act_1060 d (by omega) _ _ _ _)
  · refine sim_iload dL_act_1050 rfl ?_
    refine sim_bipush (120) dL_act_1052 (by decide +kernel) ?_
    refine sim_static (d - 1) dL_act_1054 (k_L_low (d - 1) (by omega) _ _ _) q_L_low wm_RL_155 rfl rfl (by omega) (Nat.le_of_ble_eq_true rfl) am_nI (am_rI fun h116 v117 => ?_) am_eI
    refine sim_goto 1083 dL_act_1057 (by decide) ?_
    exact sim_lv (am_leN (am_leN (am_leN (am_leN (am_leN (am_leN (am_leN (am_leN (am_leN am_leT))))))))) (t_L_act_1083 d (by omega) _ _ _ _)
def f_L_act_1043  (s0 : Int32) (h : am_H) : am_R := m_ri h s0
theorem t_L_act_1043 (d : Nat) (hd : 14 ≤ d)  (s0 : Int32) (h : am_H) : Sim m_L_act d 1043 [none, none, none, none, none, none, none, none, none] [.inl s0] h (f_L_act_1043  s0 h) := by
  unfold f_L_act_1043
  exact sim_iret dL_act_1043 rfl
def f_L_act_1032  (x0 : Option (Nat × Nat)) (x5 : Int32) (h : am_H) : am_R := m_bI (f_L_does x0 (34 : Int32) x5 (0 : Int32) (0 : Int32) (0 : Int32) h) fun h114 v115 => f_L_act_1043 v115 h114
theorem t_L_act_1032 (d : Nat) (hd : 14 ≤ d)  (x0 : Option (Nat × Nat)) (x5 : Int32) (h : am_H) : Sim m_L_act d 1032 [some (.inr (.inr x0)), none, none, none, none, some (.inl x5), none, none, none] [] h (f_L_act_1032  x0 x5 h) := by
  unfold f_L_act_1032
  refine sim_aload_n dL_act_1032 rfl ?_
  refine sim_bipush (34) dL_act_1033 (by decide +kernel) ?_
  refine sim_iload dL_act_1035 rfl ?_
  refine sim_iconst (0) dL_act_1037 (by decide +kernel) ?_
  refine sim_iconst (0) dL_act_1038 (by decide +kernel) ?_
  refine sim_iconst (0) dL_act_1039 (by decide +kernel) ?_
  refine sim_staticX (d - 1) dL_act_1040 (k_L_does (d - 1) (by omega) _ _ _ _ _ _ _) q_L_does wm_RL_152 rfl rfl (by omega) (Nat.le_of_ble_eq_true rfl) am_nI (am_rI fun h114 v115 => ?_) am_eI
  exact sim_lv (am_leN (am_leN (am_leN (am_leN (am_leN (am_leN (am_leN (am_leN (am_leN am_leT))))))))) (t_L_act_1043 d (by omega) _ _)
def f_L_act_1025  (s0 : Int32) (s1 : Int32) (s2 : Int32) (s3 : Int32) (s4 : Option (Nat × Nat)) (h : am_H) : am_R := m_bI (f_L_does s4 s3 s2 s1 s0 (0 : Int32) h) fun h112 v113 => f_L_act_1043 v113 h112
theorem t_L_act_1025 (d : Nat) (hd : 14 ≤ d)  (s0 : Int32) (s1 : Int32) (s2 : Int32) (s3 : Int32) (s4 : Option (Nat × Nat)) (h : am_H) : Sim m_L_act d 1025 [none, none, none, none, none, none, none, none, none] [.inl s0, .inl s1, .inl s2, .inl s3, .inr (.inr s4)] h (f_L_act_1025  s0 s1 s2 s3 s4 h) := by
  unfold f_L_act_1025
  refine sim_iconst (0) dL_act_1025 (by decide +kernel) ?_
  refine sim_staticX (d - 1) dL_act_1026 (k_L_does (d - 1) (by omega) _ _ _ _ _ _ _) q_L_does wm_RL_152 rfl rfl (by omega) (Nat.le_of_ble_eq_true rfl) am_nI (am_rI fun h112 v113 => ?_) am_eI
  refine sim_goto 1043 dL_act_1029 (by decide) ?_
  exact sim_lv (am_leN (am_leN (am_leN (am_leN (am_leN (am_leN (am_leN (am_leN (am_leN am_leT))))))))) (t_L_act_1043 d (by omega) _ _)
def f_L_act_1023  (x6 : Int32) (s0 : Int32) (s1 : Int32) (s2 : Int32) (s3 : Option (Nat × Nat)) (h : am_H) : am_R := f_L_act_1025 x6 s0 s1 s2 s3 h
theorem t_L_act_1023 (d : Nat) (hd : 14 ≤ d)  (x6 : Int32) (s0 : Int32) (s1 : Int32) (s2 : Int32) (s3 : Option (Nat × Nat)) (h : am_H) : Sim m_L_act d 1023 [none, none, none, none, none, none, some (.inl x6), none, none] [.inl s0, .inl s1, .inl s2, .inr (.inr s3)] h (f_L_act_1023  x6 s0 s1 s2 s3 h) := by
  unfold f_L_act_1023
  refine sim_iload dL_act_1023 rfl ?_
  exact sim_lv (am_leN (am_leN (am_leN (am_leN (am_leN (am_leN (am_leN (am_leN (am_leN am_leT))))))))) (t_L_act_1025 d (by omega) _ _ _ _ _ _)
def f_L_act_1017  (s0 : Int32) (s1 : Int32) (s2 : Int32) (s3 : Int32) (s4 : Int32) (s5 : Option (Nat × Nat)) (h : am_H) : am_R := m_bI (f_L_low s1 s0 h) fun h110 v111 => f_L_act_1025 v111 s2 s3 s4 s5 h110
theorem t_L_act_1017 (d : Nat) (hd : 14 ≤ d)  (s0 : Int32) (s1 : Int32) (s2 : Int32) (s3 : Int32) (s4 : Int32) (s5 : Option (Nat × Nat)) (h : am_H) : Sim m_L_act d 1017 [none, none, none, none, none, none, none, none, none] [.inl s0, .inl s1, .inl s2, .inl s3, .inl s4, .inr (.inr s5)] h (f_L_act_1017  s0 s1 s2 s3 s4 s5 h) := by
  unfold f_L_act_1017
  refine sim_static (d - 1) dL_act_1017 (k_L_low (d - 1) (by omega) _ _ _) q_L_low wm_RL_155 rfl rfl (by omega) (Nat.le_of_ble_eq_true rfl) am_nI (am_rI fun h110 v111 => ?_) am_eI
  refine sim_goto 1025 dL_act_1020 (by decide) ?_
  exact sim_lv (am_leN (am_leN (am_leN (am_leN (am_leN (am_leN (am_leN (am_leN (am_leN am_leT))))))))) (t_L_act_1025 d (by omega) _ _ _ _ _ _)
def f_L_act_1015  (s0 : Int32) (s1 : Int32) (s2 : Int32) (s3 : Int32) (s4 : Option (Nat × Nat)) (h : am_H) : am_R := f_L_act_1017 (12 : Int32) s0 s1 s2 s3 s4 h
theorem t_L_act_1015 (d : Nat) (hd : 14 ≤ d)  (s0 : Int32) (s1 : Int32) (s2 : Int32) (s3 : Int32) (s4 : Option (Nat × Nat)) (h : am_H) : Sim m_L_act d 1015 [none, none, none, none, none, none, none, none, none] [.inl s0, .inl s1, .inl s2, .inl s3, .inr (.inr s4)] h (f_L_act_1015  s0 s1 s2 s3 s4 h) := by
  unfold f_L_act_1015
  refine sim_bipush (12) dL_act_1015 (by decide +kernel) ?_
  exact sim_lv (am_leN (am_leN (am_leN (am_leN (am_leN (am_leN (am_leN (am_leN (am_leN am_leT))))))))) (t_L_act_1017 d (by omega) _ _ _ _ _ _ _)
def f_L_act_973  (x0 : Option (Nat × Nat)) (x2 : Int32) (x3 : Int32) (x4 : Int32) (x5 : Int32) (x6 : Int32) (h : am_H) : am_R := if (68 : Int32) ≤ x3 then (f_L_act_1032 x0 x5 h) else (if ((x4 >>> ((6 : Int32) &&& 31)) &&& (1 : Int32)) = (1 : Int32) then (if x2 = 0 then (f_L_act_1015 (x4 >>> ((3 : Int32) &&& 31)) ((x4 >>> ((6 : Int32) &&& 31)) &&& (1 : Int32)) x5 (32 : Int32) x0 h) else (f_L_act_1017 (14 : Int32) (x4 >>> ((3 : Int32) &&& 31)) ((x4 >>> ((6 : Int32) &&& 31)) &&& (1 : Int32)) x5 (32 : Int32) x0 h)) else (f_L_act_1023 x6 ((x4 >>> ((6 : Int32) &&& 31)) &&& (1 : Int32)) x5 (32 : Int32) x0 h))
theorem t_L_act_973 (d : Nat) (hd : 14 ≤ d)  (x0 : Option (Nat × Nat)) (x2 : Int32) (x3 : Int32) (x4 : Int32) (x5 : Int32) (x6 : Int32) (h : am_H) : Sim m_L_act d 973 [some (.inr (.inr x0)), none, some (.inl x2), some (.inl x3), some (.inl x4), some (.inl x5), some (.inl x6), none, none] [] h (f_L_act_973  x0 x2 x3 x4 x5 x6 h) := by
  unfold f_L_act_973
  refine sim_iload_n dL_act_973 rfl ?_
  refine sim_bipush (68) dL_act_974 (by decide +kernel) ?_
  refine sim_ic_ge 1032 dL_act_976 (by decide) (fun c => ?_) (fun c => ?_)
  · exact sim_lv (am_leS (am_leN (am_leN (am_leN (am_leN (am_leS (am_leN (am_leN (am_leN am_leT))))))))) (t_L_act_1032 d (by omega) _ _ _)
  · refine sim_aload_n dL_act_979 rfl ?_
    refine sim_bipush (32) dL_act_980 (by decide +kernel) ?_
    refine sim_iload dL_act_982 rfl ?_
    refine sim_iload dL_act_984 rfl ?_
    refine sim_bipush (6) dL_act_986 (by decide +kernel) ?_
    refine sim_ishr dL_act_988 ?_
    refine sim_iconst (1) dL_act_989 (by decide +kernel) ?_
    refine sim_iand dL_act_990 ?_
    refine sim_iload dL_act_991 rfl ?_
    refine sim_bipush (6) dL_act_993 (by decide +kernel) ?_
    refine sim_ishr dL_act_995 ?_
    refine sim_iconst (1) dL_act_996 (by decide +kernel) ?_
    refine sim_iand dL_act_997 ?_
    refine sim_iconst (1) dL_act_998 (by decide +kernel) ?_
    refine sim_ic_ne 1023 dL_act_999 (by decide) (fun c => ?_) (fun c => ?_)
    · exact sim_lv (am_leN (am_leN (am_leN (am_leN (am_leN (am_leN (am_leS (am_leN (am_leN am_leT))))))))) (t_L_act_1023 d (by omega) _ _ _ _ _ _)
    · refine sim_iload dL_act_1002 rfl ?_
      refine sim_iconst (3) dL_act_1004 (by decide +kernel) ?_
      refine sim_ishr dL_act_1005 ?_
      refine sim_iload_n dL_act_1006 rfl ?_
      refine sim_if_eq 1015 dL_act_1007 (by decide) (fun c => ?_) (fun c => ?_)
      · exact sim_lv (am_leN (am_leN (am_leN (am_leN (am_leN (am_leN (am_leN (am_leN (am_leN am_leT))))))))) (t_L_act_1015 d (by omega) _ _ _ _ _ _)
      · refine sim_bipush (14) dL_act_1010 (by decide +kernel) ?_
        refine sim_goto 1017 dL_act_1012 (by decide) ?_
        exact sim_lv (am_leN (am_leN (am_leN (am_leN (am_leN (am_leN (am_leN (am_leN (am_leN am_leT))))))))) (t_L_act_1017 d (by omega) _ _ _ _ _ _ _)
def f_L_act_956  (x4 : Int32) (s0 : Int32) (s1 : Int32) (s2 : Option (Nat × Nat)) (h : am_H) : am_R := m_bI (f_L_low (x4 >>> ((5 : Int32) &&& 31)) (32 : Int32) h) fun h104 v105 => m_bI (f_L_does s2 s1 s0 v105 (0 : Int32) (0 : Int32) h104) fun h106 v107 => f_L_act_1043 v107 h106
theorem t_L_act_956 (d : Nat) (hd : 14 ≤ d)  (x4 : Int32) (s0 : Int32) (s1 : Int32) (s2 : Option (Nat × Nat)) (h : am_H) : Sim m_L_act d 956 [none, none, none, none, some (.inl x4), none, none, none, none] [.inl s0, .inl s1, .inr (.inr s2)] h (f_L_act_956  x4 s0 s1 s2 h) := by
  unfold f_L_act_956
  refine sim_iload dL_act_956 rfl ?_
  refine sim_iconst (5) dL_act_958 (by decide +kernel) ?_
  refine sim_ishr dL_act_959 ?_
  refine sim_bipush (32) dL_act_960 (by decide +kernel) ?_
  refine sim_static (d - 1) dL_act_962 (k_L_low (d - 1) (by omega) _ _ _) q_L_low wm_RL_155 rfl rfl (by omega) (Nat.le_of_ble_eq_true rfl) am_nI (am_rI fun h104 v105 => ?_) am_eI
  refine sim_iconst (0) dL_act_965 (by decide +kernel) ?_
  refine sim_iconst (0) dL_act_966 (by decide +kernel) ?_
  refine sim_staticX (d - 1) dL_act_967 (k_L_does (d - 1) (by omega) _ _ _ _ _ _ _) q_L_does wm_RL_152 rfl rfl (by omega) (Nat.le_of_ble_eq_true rfl) am_nI (am_rI fun h106 v107 => ?_) am_eI
  refine sim_goto 1043 dL_act_970 (by decide) ?_
  exact sim_lv (am_leN (am_leN (am_leN (am_leN (am_leN (am_leN (am_leN (am_leN (am_leN am_leT))))))))) (t_L_act_1043 d (by omega) _ _)
def f_L_act_949  (x4 : Int32) (s0 : Int32) (s1 : Option (Nat × Nat)) (h : am_H) : am_R := m_bI (f_L_low x4 (32 : Int32) h) fun h108 v109 => f_L_act_956 x4 v109 s0 s1 h108
theorem t_L_act_949 (d : Nat) (hd : 14 ≤ d)  (x4 : Int32) (s0 : Int32) (s1 : Option (Nat × Nat)) (h : am_H) : Sim m_L_act d 949 [none, none, none, none, some (.inl x4), none, none, none, none] [.inl s0, .inr (.inr s1)] h (f_L_act_949  x4 s0 s1 h) := by
  unfold f_L_act_949
  refine sim_iload dL_act_949 rfl ?_
  refine sim_bipush (32) dL_act_951 (by decide +kernel) ?_
  refine sim_static (d - 1) dL_act_953 (k_L_low (d - 1) (by omega) _ _ _) q_L_low wm_RL_155 rfl rfl (by omega) (Nat.le_of_ble_eq_true rfl) am_nI (am_rI fun h108 v109 => ?_) am_eI
  exact sim_lv (am_leN (am_leN (am_leN (am_leN (am_leS (am_leN (am_leN (am_leN (am_leN am_leT))))))))) (t_L_act_956 d (by omega) _ _ _ _ _)
def f_L_act_932  (x0 : Option (Nat × Nat)) (x2 : Int32) (x3 : Int32) (x4 : Int32) (x5 : Int32) (x6 : Int32) (h : am_H) : am_R := if (64 : Int32) ≤ x3 then (f_L_act_973 x0 x2 x3 x4 x5 x6 h) else (if x2 = 0 then (f_L_act_949 x4 (2 : Int32) x0 h) else (f_L_act_956 x4 x5 (2 : Int32) x0 h))
theorem t_L_act_932 (d : Nat) (hd : 14 ≤ d)  (x0 : Option (Nat × Nat)) (x2 : Int32) (x3 : Int32) (x4 : Int32) (x5 : Int32) (x6 : Int32) (h : am_H) : Sim m_L_act d 932 [some (.inr (.inr x0)), none, some (.inl x2), some (.inl x3), some (.inl x4), some (.inl x5), some (.inl x6), none, none] [] h (f_L_act_932  x0 x2 x3 x4 x5 x6 h) := by
  unfold f_L_act_932
  refine sim_iload_n dL_act_932 rfl ?_
  refine sim_bipush (64) dL_act_933 (by decide +kernel) ?_
  refine sim_ic_ge 973 dL_act_935 (by decide) (fun c => ?_) (fun c => ?_)
  · exact sim_lv (am_leS (am_leN (am_leS (am_leS (am_leS (am_leS (am_leS (am_leN (am_leN am_leT))))))))) (t_L_act_973 d (by omega) _ _ _ _ _ _ _)
  · refine sim_aload_n dL_act_938 rfl ?_
    refine sim_iconst (2) dL_act_939 (by decide +kernel) ?_
    refine sim_iload_n dL_act_940 rfl ?_
    refine sim_if_eq 949 dL_act_941 (by decide) (fun c => ?_) (fun c => ?_)
    · exact sim_lv (am_leN (am_leN (am_leN (am_leN (am_leS (am_leN (am_leN (am_leN (am_leN am_leT))))))))) (t_L_act_949 d (by omega) _ _ _ _)
    · refine sim_iload dL_act_944 rfl ?_
      refine sim_goto 956 dL_act_946 (by decide) ?_
      exact sim_lv (am_leN (am_leN (am_leN (am_leN (am_leS (am_leN (am_leN (am_leN (am_leN am_leT))))))))) (t_L_act_956 d (by omega) _ _ _ _ _)
def f_L_act_924  (s0 : Int32) (s1 : Int32) (s2 : Int32) (s3 : Option (Nat × Nat)) (h : am_H) : am_R := m_bI (f_L_does s3 s2 s1 s0 (0 : Int32) (0 : Int32) h) fun h100 v101 => f_L_act_1043 v101 h100
theorem t_L_act_924 (d : Nat) (hd : 14 ≤ d)  (s0 : Int32) (s1 : Int32) (s2 : Int32) (s3 : Option (Nat × Nat)) (h : am_H) : Sim m_L_act d 924 [none, none, none, none, none, none, none, none, none] [.inl s0, .inl s1, .inl s2, .inr (.inr s3)] h (f_L_act_924  s0 s1 s2 s3 h) := by
  unfold f_L_act_924
  refine sim_iconst (0) dL_act_924 (by decide +kernel) ?_
  refine sim_iconst (0) dL_act_925 (by decide +kernel) ?_
  refine sim_staticX (d - 1) dL_act_926 (k_L_does (d - 1) (by omega) _ _ _ _ _ _ _) q_L_does wm_RL_152 rfl rfl (by omega) (Nat.le_of_ble_eq_true rfl) am_nI (am_rI fun h100 v101 => ?_) am_eI
  refine sim_goto 1043 dL_act_929 (by decide) ?_
  exact sim_lv (am_leN (am_leN (am_leN (am_leN (am_leN (am_leN (am_leN (am_leN (am_leN am_leT))))))))) (t_L_act_1043 d (by omega) _ _)
def f_L_act_917  (x4 : Int32) (s0 : Int32) (s1 : Int32) (s2 : Option (Nat × Nat)) (h : am_H) : am_R := m_bI (f_L_low x4 (32 : Int32) h) fun h102 v103 => f_L_act_924 v103 s0 s1 s2 h102
theorem t_L_act_917 (d : Nat) (hd : 14 ≤ d)  (x4 : Int32) (s0 : Int32) (s1 : Int32) (s2 : Option (Nat × Nat)) (h : am_H) : Sim m_L_act d 917 [none, none, none, none, some (.inl x4), none, none, none, none] [.inl s0, .inl s1, .inr (.inr s2)] h (f_L_act_917  x4 s0 s1 s2 h) := by
  unfold f_L_act_917
  refine sim_iload dL_act_917 rfl ?_
  refine sim_bipush (32) dL_act_919 (by decide +kernel) ?_
  refine sim_static (d - 1) dL_act_921 (k_L_low (d - 1) (by omega) _ _ _) q_L_low wm_RL_155 rfl rfl (by omega) (Nat.le_of_ble_eq_true rfl) am_nI (am_rI fun h102 v103 => ?_) am_eI
  exact sim_lv (am_leN (am_leN (am_leN (am_leN (am_leN (am_leN (am_leN (am_leN (am_leN am_leT))))))))) (t_L_act_924 d (by omega) _ _ _ _ _)
def f_L_act_891  (x0 : Option (Nat × Nat)) (x2 : Int32) (x3 : Int32) (x4 : Int32) (x5 : Int32) (x6 : Int32) (h : am_H) : am_R := if (71 : Int32) ≤ x3 then (f_L_act_1044 x0 x2 x4 h) else (if (63 : Int32) ≤ x3 then (f_L_act_932 x0 x2 x3 x4 x5 x6 h) else (if x2 = 0 then (f_L_act_917 x4 x6 (30 : Int32) x0 h) else (f_L_act_924 x5 x6 (30 : Int32) x0 h)))
theorem t_L_act_891 (d : Nat) (hd : 14 ≤ d)  (x0 : Option (Nat × Nat)) (x2 : Int32) (x3 : Int32) (x4 : Int32) (x5 : Int32) (x6 : Int32) (h : am_H) : Sim m_L_act d 891 [some (.inr (.inr x0)), none, some (.inl x2), some (.inl x3), some (.inl x4), some (.inl x5), some (.inl x6), none, none] [] h (f_L_act_891  x0 x2 x3 x4 x5 x6 h) := by
  unfold f_L_act_891
  refine sim_iload_n dL_act_891 rfl ?_
  refine sim_bipush (71) dL_act_892 (by decide +kernel) ?_
  refine sim_ic_ge 1044 dL_act_894 (by decide) (fun c => ?_) (fun c => ?_)
  · exact sim_lv (am_leS (am_leN (am_leS (am_leN (am_leS (am_leN (am_leN (am_leN (am_leN am_leT))))))))) (t_L_act_1044 d (by omega) _ _ _ _)
  · refine sim_iload_n dL_act_897 rfl ?_
    refine sim_bipush (63) dL_act_898 (by decide +kernel) ?_
    refine sim_ic_ge 932 dL_act_900 (by decide) (fun c => ?_) (fun c => ?_)
    · exact sim_lv (am_leS (am_leN (am_leS (am_leS (am_leS (am_leS (am_leS (am_leN (am_leN am_leT))))))))) (t_L_act_932 d (by omega) _ _ _ _ _ _ _)
    · refine sim_aload_n dL_act_903 rfl ?_
      refine sim_bipush (30) dL_act_904 (by decide +kernel) ?_
      refine sim_iload dL_act_906 rfl ?_
      refine sim_iload_n dL_act_908 rfl ?_
      refine sim_if_eq 917 dL_act_909 (by decide) (fun c => ?_) (fun c => ?_)
      · exact sim_lv (am_leN (am_leN (am_leN (am_leN (am_leS (am_leN (am_leN (am_leN (am_leN am_leT))))))))) (t_L_act_917 d (by omega) _ _ _ _ _)
      · refine sim_iload dL_act_912 rfl ?_
        refine sim_goto 924 dL_act_914 (by decide) ?_
        exact sim_lv (am_leN (am_leN (am_leN (am_leN (am_leN (am_leN (am_leN (am_leN (am_leN am_leT))))))))) (t_L_act_924 d (by omega) _ _ _ _ _)
def f_L_act_890  (s0 : Int32) (h : am_H) : am_R := m_ri h s0
theorem t_L_act_890 (d : Nat) (hd : 14 ≤ d)  (s0 : Int32) (h : am_H) : Sim m_L_act d 890 [none, none, none, none, none, none, none, none, none] [.inl s0] h (f_L_act_890  s0 h) := by
  unfold f_L_act_890
  exact sim_iret dL_act_890 rfl
def f_L_act_866  (x0 : Option (Nat × Nat)) (x4 : Int32) (x5 : Int32) (h : am_H) : am_R := m_bI (f_L_low (x4 >>> ((5 : Int32) &&& 31)) (12 : Int32) h) fun h96 v97 => m_bI (f_L_does x0 (1 : Int32) x5 v97 ((x4 >>> ((8 : Int32) &&& 31)) &&& (1 : Int32)) (0 : Int32) h96) fun h98 v99 => f_L_act_890 v99 h98
theorem t_L_act_866 (d : Nat) (hd : 14 ≤ d)  (x0 : Option (Nat × Nat)) (x4 : Int32) (x5 : Int32) (h : am_H) : Sim m_L_act d 866 [some (.inr (.inr x0)), none, none, none, some (.inl x4), some (.inl x5), none, none, none] [] h (f_L_act_866  x0 x4 x5 h) := by
  unfold f_L_act_866
  refine sim_aload_n dL_act_866 rfl ?_
  refine sim_iconst (1) dL_act_867 (by decide +kernel) ?_
  refine sim_iload dL_act_868 rfl ?_
  refine sim_iload dL_act_870 rfl ?_
  refine sim_iconst (5) dL_act_872 (by decide +kernel) ?_
  refine sim_ishr dL_act_873 ?_
  refine sim_bipush (12) dL_act_874 (by decide +kernel) ?_
  refine sim_static (d - 1) dL_act_876 (k_L_low (d - 1) (by omega) _ _ _) q_L_low wm_RL_155 rfl rfl (by omega) (Nat.le_of_ble_eq_true rfl) am_nI (am_rI fun h96 v97 => ?_) am_eI
  refine sim_iload dL_act_879 rfl ?_
  refine sim_bipush (8) dL_act_881 (by decide +kernel) ?_
  refine sim_ishr dL_act_883 ?_
  refine sim_iconst (1) dL_act_884 (by decide +kernel) ?_
  refine sim_iand dL_act_885 ?_
  refine sim_iconst (0) dL_act_886 (by decide +kernel) ?_
  refine sim_staticX (d - 1) dL_act_887 (k_L_does (d - 1) (by omega) _ _ _ _ _ _ _) q_L_does wm_RL_152 rfl rfl (by omega) (Nat.le_of_ble_eq_true rfl) am_nI (am_rI fun h98 v99 => ?_) am_eI
  exact sim_lv (am_leN (am_leN (am_leN (am_leN (am_leN (am_leN (am_leN (am_leN (am_leN am_leT))))))))) (t_L_act_890 d (by omega) _ _)
def f_L_act_843  (x0 : Option (Nat × Nat)) (x3 : Int32) (x4 : Int32) (x5 : Int32) (x6 : Int32) (h : am_H) : am_R := if x3 = (58 : Int32) then (m_bI (f_L_does x0 (26 : Int32) x6 (x4 &&& (1 : Int32)) (0 : Int32) (0 : Int32) h) fun h94 v95 => f_L_act_890 v95 h94) else (f_L_act_866 x0 x4 x5 h)
theorem t_L_act_843 (d : Nat) (hd : 14 ≤ d)  (x0 : Option (Nat × Nat)) (x3 : Int32) (x4 : Int32) (x5 : Int32) (x6 : Int32) (h : am_H) : Sim m_L_act d 843 [some (.inr (.inr x0)), none, none, some (.inl x3), some (.inl x4), some (.inl x5), some (.inl x6), none, none] [] h (f_L_act_843  x0 x3 x4 x5 x6 h) := by
  unfold f_L_act_843
  refine sim_iload_n dL_act_843 rfl ?_
  refine sim_bipush (58) dL_act_844 (by decide +kernel) ?_
  refine sim_ic_ne 866 dL_act_846 (by decide) (fun c => ?_) (fun c => ?_)
  · exact sim_lv (am_leS (am_leN (am_leN (am_leN (am_leS (am_leS (am_leN (am_leN (am_leN am_leT))))))))) (t_L_act_866 d (by omega) _ _ _ _)
  · refine sim_aload_n dL_act_849 rfl ?_
    refine sim_bipush (26) dL_act_850 (by decide +kernel) ?_
    refine sim_iload dL_act_852 rfl ?_
    refine sim_iload dL_act_854 rfl ?_
    refine sim_iconst (1) dL_act_856 (by decide +kernel) ?_
    refine sim_iand dL_act_857 ?_
    refine sim_iconst (0) dL_act_858 (by decide +kernel) ?_
    refine sim_iconst (0) dL_act_859 (by decide +kernel) ?_
    refine sim_staticX (d - 1) dL_act_860 (k_L_does (d - 1) (by omega) _ _ _ _ _ _ _) q_L_does wm_RL_152 rfl rfl (by omega) (Nat.le_of_ble_eq_true rfl) am_nI (am_rI fun h94 v95 => ?_) am_eI
    refine sim_goto 890 dL_act_863 (by decide) ?_
    exact sim_lv (am_leN (am_leN (am_leN (am_leN (am_leN (am_leN (am_leN (am_leN (am_leN am_leT))))))))) (t_L_act_890 d (by omega) _ _)
def f_L_act_832  (s0 : Int32) (s1 : Int32) (s2 : Int32) (s3 : Int32) (s4 : Option (Nat × Nat)) (h : am_H) : am_R := m_bI (f_L_low s1 s0 h) fun h90 v91 => m_bI (f_L_does s4 s3 s2 v91 (0 : Int32) (0 : Int32) h90) fun h92 v93 => f_L_act_890 v93 h92
theorem t_L_act_832 (d : Nat) (hd : 14 ≤ d)  (s0 : Int32) (s1 : Int32) (s2 : Int32) (s3 : Int32) (s4 : Option (Nat × Nat)) (h : am_H) : Sim m_L_act d 832 [none, none, none, none, none, none, none, none, none] [.inl s0, .inl s1, .inl s2, .inl s3, .inr (.inr s4)] h (f_L_act_832  s0 s1 s2 s3 s4 h) := by
  unfold f_L_act_832
  refine sim_static (d - 1) dL_act_832 (k_L_low (d - 1) (by omega) _ _ _) q_L_low wm_RL_155 rfl rfl (by omega) (Nat.le_of_ble_eq_true rfl) am_nI (am_rI fun h90 v91 => ?_) am_eI
  refine sim_iconst (0) dL_act_835 (by decide +kernel) ?_
  refine sim_iconst (0) dL_act_836 (by decide +kernel) ?_
  refine sim_staticX (d - 1) dL_act_837 (k_L_does (d - 1) (by omega) _ _ _ _ _ _ _) q_L_does wm_RL_152 rfl rfl (by omega) (Nat.le_of_ble_eq_true rfl) am_nI (am_rI fun h92 v93 => ?_) am_eI
  refine sim_goto 890 dL_act_840 (by decide) ?_
  exact sim_lv (am_leN (am_leN (am_leN (am_leN (am_leN (am_leN (am_leN (am_leN (am_leN am_leT))))))))) (t_L_act_890 d (by omega) _ _)
def f_L_act_831  (s0 : Int32) (s1 : Int32) (s2 : Int32) (s3 : Option (Nat × Nat)) (h : am_H) : am_R := f_L_act_832 (4 : Int32) s0 s1 s2 s3 h
theorem t_L_act_831 (d : Nat) (hd : 14 ≤ d)  (s0 : Int32) (s1 : Int32) (s2 : Int32) (s3 : Option (Nat × Nat)) (h : am_H) : Sim m_L_act d 831 [none, none, none, none, none, none, none, none, none] [.inl s0, .inl s1, .inl s2, .inr (.inr s3)] h (f_L_act_831  s0 s1 s2 s3 h) := by
  unfold f_L_act_831
  refine sim_iconst (4) dL_act_831 (by decide +kernel) ?_
  exact sim_lv (am_leN (am_leN (am_leN (am_leN (am_leN (am_leN (am_leN (am_leN (am_leN am_leT))))))))) (t_L_act_832 d (by omega) _ _ _ _ _ _)
def f_L_act_802  (x0 : Option (Nat × Nat)) (x2 : Int32) (x3 : Int32) (x4 : Int32) (x5 : Int32) (x6 : Int32) (h : am_H) : am_R := if x3 = (57 : Int32) then (m_bI (f_L_low x4 (20 : Int32) h) fun h88 v89 => if x2 = 0 then (f_L_act_831 (x4 >>> ((3 : Int32) &&& 31)) v89 (28 : Int32) x0 h88) else (f_L_act_832 (6 : Int32) (x4 >>> ((3 : Int32) &&& 31)) v89 (28 : Int32) x0 h88)) else (f_L_act_843 x0 x3 x4 x5 x6 h)
theorem t_L_act_802 (d : Nat) (hd : 14 ≤ d)  (x0 : Option (Nat × Nat)) (x2 : Int32) (x3 : Int32) (x4 : Int32) (x5 : Int32) (x6 : Int32) (h : am_H) : Sim m_L_act d 802 [some (.inr (.inr x0)), none, some (.inl x2), some (.inl x3), some (.inl x4), some (.inl x5), some (.inl x6), none, none] [] h (f_L_act_802  x0 x2 x3 x4 x5 x6 h) := by
  unfold f_L_act_802
  refine sim_iload_n dL_act_802 rfl ?_
  refine sim_bipush (57) dL_act_803 (by decide +kernel) ?_
  refine sim_ic_ne 843 dL_act_805 (by decide) (fun c => ?_) (fun c => ?_)
  · exact sim_lv (am_leS (am_leN (am_leN (am_leS (am_leS (am_leS (am_leS (am_leN (am_leN am_leT))))))))) (t_L_act_843 d (by omega) _ _ _ _ _ _)
  · refine sim_aload_n dL_act_808 rfl ?_
    refine sim_bipush (28) dL_act_809 (by decide +kernel) ?_
    refine sim_iload dL_act_811 rfl ?_
    refine sim_bipush (20) dL_act_813 (by decide +kernel) ?_
    refine sim_static (d - 1) dL_act_815 (k_L_low (d - 1) (by omega) _ _ _) q_L_low wm_RL_155 rfl rfl (by omega) (Nat.le_of_ble_eq_true rfl) am_nI (am_rI fun h88 v89 => ?_) am_eI
    refine sim_iload dL_act_818 rfl ?_
    refine sim_iconst (3) dL_act_820 (by decide +kernel) ?_
    refine sim_ishr dL_act_821 ?_
    refine sim_iload_n dL_act_822 rfl ?_
    refine sim_if_eq 831 dL_act_823 (by decide) (fun c => ?_) (fun c => ?_)
    · exact sim_lv (am_leN (am_leN (am_leN (am_leN (am_leN (am_leN (am_leN (am_leN (am_leN am_leT))))))))) (t_L_act_831 d (by omega) _ _ _ _ _)
    · refine sim_bipush (6) dL_act_826 (by decide +kernel) ?_
      refine sim_goto 832 dL_act_828 (by decide) ?_
      exact sim_lv (am_leN (am_leN (am_leN (am_leN (am_leN (am_leN (am_leN (am_leN (am_leN am_leT))))))))) (t_L_act_832 d (by omega) _ _ _ _ _ _)
def f_L_act_795  (s0 : Int32) (s1 : Int32) (s2 : Int32) (s3 : Int32) (s4 : Option (Nat × Nat)) (h : am_H) : am_R := m_bI (f_L_does s4 s3 s2 s1 s0 (0 : Int32) h) fun h84 v85 => f_L_act_890 v85 h84
theorem t_L_act_795 (d : Nat) (hd : 14 ≤ d)  (s0 : Int32) (s1 : Int32) (s2 : Int32) (s3 : Int32) (s4 : Option (Nat × Nat)) (h : am_H) : Sim m_L_act d 795 [none, none, none, none, none, none, none, none, none] [.inl s0, .inl s1, .inl s2, .inl s3, .inr (.inr s4)] h (f_L_act_795  s0 s1 s2 s3 s4 h) := by
  unfold f_L_act_795
  refine sim_iconst (0) dL_act_795 (by decide +kernel) ?_
  refine sim_staticX (d - 1) dL_act_796 (k_L_does (d - 1) (by omega) _ _ _ _ _ _ _) q_L_does wm_RL_152 rfl rfl (by omega) (Nat.le_of_ble_eq_true rfl) am_nI (am_rI fun h84 v85 => ?_) am_eI
  refine sim_goto 890 dL_act_799 (by decide) ?_
  exact sim_lv (am_leN (am_leN (am_leN (am_leN (am_leN (am_leN (am_leN (am_leN (am_leN am_leT))))))))) (t_L_act_890 d (by omega) _ _)
def f_L_act_792  (s0 : Int32) (s1 : Int32) (s2 : Int32) (s3 : Int32) (s4 : Int32) (s5 : Option (Nat × Nat)) (h : am_H) : am_R := m_bI (f_L_low s1 s0 h) fun h86 v87 => f_L_act_795 v87 s2 s3 s4 s5 h86
theorem t_L_act_792 (d : Nat) (hd : 14 ≤ d)  (s0 : Int32) (s1 : Int32) (s2 : Int32) (s3 : Int32) (s4 : Int32) (s5 : Option (Nat × Nat)) (h : am_H) : Sim m_L_act d 792 [none, none, none, none, none, none, none, none, none] [.inl s0, .inl s1, .inl s2, .inl s3, .inl s4, .inr (.inr s5)] h (f_L_act_792  s0 s1 s2 s3 s4 s5 h) := by
  unfold f_L_act_792
  refine sim_static (d - 1) dL_act_792 (k_L_low (d - 1) (by omega) _ _ _) q_L_low wm_RL_155 rfl rfl (by omega) (Nat.le_of_ble_eq_true rfl) am_nI (am_rI fun h86 v87 => ?_) am_eI
  exact sim_lv (am_leN (am_leN (am_leN (am_leN (am_leN (am_leN (am_leN (am_leN (am_leN am_leT))))))))) (t_L_act_795 d (by omega) _ _ _ _ _ _)
def f_L_act_790  (s0 : Int32) (s1 : Int32) (s2 : Int32) (s3 : Int32) (s4 : Option (Nat × Nat)) (h : am_H) : am_R := f_L_act_792 (20 : Int32) s0 s1 s2 s3 s4 h
theorem t_L_act_790 (d : Nat) (hd : 14 ≤ d)  (s0 : Int32) (s1 : Int32) (s2 : Int32) (s3 : Int32) (s4 : Option (Nat × Nat)) (h : am_H) : Sim m_L_act d 790 [none, none, none, none, none, none, none, none, none] [.inl s0, .inl s1, .inl s2, .inl s3, .inr (.inr s4)] h (f_L_act_790  s0 s1 s2 s3 s4 h) := by
  unfold f_L_act_790
  refine sim_bipush (20) dL_act_790 (by decide +kernel) ?_
  exact sim_lv (am_leN (am_leN (am_leN (am_leN (am_leN (am_leN (am_leN (am_leN (am_leN am_leT))))))))) (t_L_act_792 d (by omega) _ _ _ _ _ _ _)
def f_L_act_777  (x2 : Int32) (x4 : Int32) (s0 : Int32) (s1 : Int32) (s2 : Int32) (s3 : Option (Nat × Nat)) (h : am_H) : am_R := if x2 = 0 then (f_L_act_790 (x4 >>> ((2 : Int32) &&& 31)) s0 s1 s2 s3 h) else (f_L_act_792 (62 : Int32) (x4 >>> ((2 : Int32) &&& 31)) s0 s1 s2 s3 h)
theorem t_L_act_777 (d : Nat) (hd : 14 ≤ d)  (x2 : Int32) (x4 : Int32) (s0 : Int32) (s1 : Int32) (s2 : Int32) (s3 : Option (Nat × Nat)) (h : am_H) : Sim m_L_act d 777 [none, none, some (.inl x2), none, some (.inl x4), none, none, none, none] [.inl s0, .inl s1, .inl s2, .inr (.inr s3)] h (f_L_act_777  x2 x4 s0 s1 s2 s3 h) := by
  unfold f_L_act_777
  refine sim_iload dL_act_777 rfl ?_
  refine sim_iconst (2) dL_act_779 (by decide +kernel) ?_
  refine sim_ishr dL_act_780 ?_
  refine sim_iload_n dL_act_781 rfl ?_
  refine sim_if_eq 790 dL_act_782 (by decide) (fun c => ?_) (fun c => ?_)
  · exact sim_lv (am_leN (am_leN (am_leN (am_leN (am_leN (am_leN (am_leN (am_leN (am_leN am_leT))))))))) (t_L_act_790 d (by omega) _ _ _ _ _ _)
  · refine sim_bipush (62) dL_act_785 (by decide +kernel) ?_
    refine sim_goto 792 dL_act_787 (by decide) ?_
    exact sim_lv (am_leN (am_leN (am_leN (am_leN (am_leN (am_leN (am_leN (am_leN (am_leN am_leT))))))))) (t_L_act_792 d (by omega) _ _ _ _ _ _ _)
def f_L_act_750  (x0 : Option (Nat × Nat)) (x2 : Int32) (x3 : Int32) (x4 : Int32) (x5 : Int32) (x6 : Int32) (h : am_H) : am_R := if (57 : Int32) ≤ x3 then (f_L_act_802 x0 x2 x3 x4 x5 x6 h) else (if ((x4 >>> ((8 : Int32) &&& 31)) &&& (1 : Int32)) = 0 then (f_L_act_795 (-1 : Int32) x5 x6 (27 : Int32) x0 h) else (f_L_act_777 x2 x4 x5 x6 (27 : Int32) x0 h))
theorem t_L_act_750 (d : Nat) (hd : 14 ≤ d)  (x0 : Option (Nat × Nat)) (x2 : Int32) (x3 : Int32) (x4 : Int32) (x5 : Int32) (x6 : Int32) (h : am_H) : Sim m_L_act d 750 [some (.inr (.inr x0)), none, some (.inl x2), some (.inl x3), some (.inl x4), some (.inl x5), some (.inl x6), none, none] [] h (f_L_act_750  x0 x2 x3 x4 x5 x6 h) := by
  unfold f_L_act_750
  refine sim_iload_n dL_act_750 rfl ?_
  refine sim_bipush (57) dL_act_751 (by decide +kernel) ?_
  refine sim_ic_ge 802 dL_act_753 (by decide) (fun c => ?_) (fun c => ?_)
  · exact sim_lv (am_leS (am_leN (am_leS (am_leS (am_leS (am_leS (am_leS (am_leN (am_leN am_leT))))))))) (t_L_act_802 d (by omega) _ _ _ _ _ _ _)
  · refine sim_aload_n dL_act_756 rfl ?_
    refine sim_bipush (27) dL_act_757 (by decide +kernel) ?_
    refine sim_iload dL_act_759 rfl ?_
    refine sim_iload dL_act_761 rfl ?_
    refine sim_iload dL_act_763 rfl ?_
    refine sim_bipush (8) dL_act_765 (by decide +kernel) ?_
    refine sim_ishr dL_act_767 ?_
    refine sim_iconst (1) dL_act_768 (by decide +kernel) ?_
    refine sim_iand dL_act_769 ?_
    refine sim_if_ne 777 dL_act_770 (by decide) (fun c => ?_) (fun c => ?_)
    · exact sim_lv (am_leN (am_leN (am_leS (am_leN (am_leS (am_leN (am_leN (am_leN (am_leN am_leT))))))))) (t_L_act_777 d (by omega) _ _ _ _ _ _ _)
    · refine sim_iconst (-1) dL_act_773 (by decide +kernel) ?_
      refine sim_goto 795 dL_act_774 (by decide) ?_
      exact sim_lv (am_leN (am_leN (am_leN (am_leN (am_leN (am_leN (am_leN (am_leN (am_leN am_leT))))))))) (t_L_act_795 d (by omega) _ _ _ _ _ _)
def f_L_act_744  (s0 : Int32) (s1 : Int32) (s2 : Int32) (s3 : Int32) (s4 : Int32) (s5 : Option (Nat × Nat)) (h : am_H) : am_R := m_bI (f_L_does s5 s4 s3 s2 s1 s0 h) fun h80 v81 => f_L_act_890 v81 h80
theorem t_L_act_744 (d : Nat) (hd : 14 ≤ d)  (s0 : Int32) (s1 : Int32) (s2 : Int32) (s3 : Int32) (s4 : Int32) (s5 : Option (Nat × Nat)) (h : am_H) : Sim m_L_act d 744 [none, none, none, none, none, none, none, none, none] [.inl s0, .inl s1, .inl s2, .inl s3, .inl s4, .inr (.inr s5)] h (f_L_act_744  s0 s1 s2 s3 s4 s5 h) := by
  unfold f_L_act_744
  refine sim_staticX (d - 1) dL_act_744 (k_L_does (d - 1) (by omega) _ _ _ _ _ _ _) q_L_does wm_RL_152 rfl rfl (by omega) (Nat.le_of_ble_eq_true rfl) am_nI (am_rI fun h80 v81 => ?_) am_eI
  refine sim_goto 890 dL_act_747 (by decide) ?_
  exact sim_lv (am_leN (am_leN (am_leN (am_leN (am_leN (am_leN (am_leN (am_leN (am_leN am_leT))))))))) (t_L_act_890 d (by omega) _ _)
