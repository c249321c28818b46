abbrev m_X11_isNews : am_M := (yX11_isNews, cX11_isNews, 9, some .boolean, [])
def f_X11_isNews_164 (rc93 : Nat × Nat → Int32 → Int32 → Int32 → Int32 → Int32 → am_H → am_R) (a0 : Nat × Nat) (x1 : Int32) (x2 : Int32) (x4 : Int32) (x7 : Int32) (s0 : Int32) (h : am_H) : am_R := rc93 a0 x1 x2 x4 s0 (x7 + 1) h
theorem t_X11_isNews_164 (d : Nat) (hd : 4 ≤ d) (rc93 : Nat × Nat → Int32 → Int32 → Int32 → Int32 → Int32 → am_H → am_R) (hrc93 : ∀ a0 x1 x2 x4 x6 x7 h, Sim m_X11_isNews d 93 [some (.inr (.inr (some a0))), some (.inl x1), some (.inl x2), none, some (.inl x4), none, some (.inl x6), some (.inl x7), none] [] h (rc93 a0 x1 x2 x4 x6 x7 h)) (a0 : Nat × Nat) (x1 : Int32) (x2 : Int32) (x4 : Int32) (x7 : Int32) (s0 : Int32) (h : am_H) : Sim m_X11_isNews d 164 [some (.inr (.inr (some a0))), some (.inl x1), some (.inl x2), none, some (.inl x4), none, none, some (.inl x7), none] [.inl s0] h (f_X11_isNews_164 rc93 a0 x1 x2 x4 x7 s0 h) := by
  unfold f_X11_isNews_164
  refine sim_istore dX11_isNews_164 (Nat.le_of_ble_eq_true rfl) ?_
  refine sim_iinc (1) dX11_isNews_166 rfl (by decide +kernel) (Nat.le_of_ble_eq_true rfl) ?_
  refine sim_goto 93 dX11_isNews_169 (by decide) ?_
  exact sim_lv (am_leS (am_leS (am_leS (am_leN (am_leS (am_leN (am_leS (am_leS (am_leN am_leT))))))))) (hrc93 _ _ _ _ _ _ _)
def f_X11_isNews_163 (rc93 : Nat × Nat → Int32 → Int32 → Int32 → Int32 → Int32 → am_H → am_R) (a0 : Nat × Nat) (x1 : Int32) (x2 : Int32) (x4 : Int32) (x7 : Int32) (h : am_H) : am_R := f_X11_isNews_164 rc93 a0 x1 x2 x4 x7 (0 : Int32) h
theorem t_X11_isNews_163 (d : Nat) (hd : 4 ≤ d) (rc93 : Nat × Nat → Int32 → Int32 → Int32 → Int32 → Int32 → am_H → am_R) (hrc93 : ∀ a0 x1 x2 x4 x6 x7 h, Sim m_X11_isNews d 93 [some (.inr (.inr (some a0))), some (.inl x1), some (.inl x2), none, some (.inl x4), none, some (.inl x6), some (.inl x7), none] [] h (rc93 a0 x1 x2 x4 x6 x7 h)) (a0 : Nat × Nat) (x1 : Int32) (x2 : Int32) (x4 : Int32) (x7 : Int32) (h : am_H) : Sim m_X11_isNews d 163 [some (.inr (.inr (some a0))), some (.inl x1), some (.inl x2), none, some (.inl x4), none, none, some (.inl x7), none] [] h (f_X11_isNews_163 rc93 a0 x1 x2 x4 x7 h) := by
  unfold f_X11_isNews_163
  refine sim_iconst (0) dX11_isNews_163 (by decide +kernel) ?_
  exact sim_lv (am_leS (am_leS (am_leS (am_leN (am_leS (am_leN (am_leN (am_leS (am_leN am_leT))))))))) (t_X11_isNews_164 d (by omega) _ hrc93 _ _ _ _ _ _ _)
def f_X11_isNews_159 (rc93 : Nat × Nat → Int32 → Int32 → Int32 → Int32 → Int32 → am_H → am_R) (a0 : Nat × Nat) (x1 : Int32) (x2 : Int32) (x4 : Int32) (x7 : Int32) (h : am_H) : am_R := f_X11_isNews_164 rc93 a0 x1 x2 x4 x7 (1 : Int32) h
theorem t_X11_isNews_159 (d : Nat) (hd : 4 ≤ d) (rc93 : Nat × Nat → Int32 → Int32 → Int32 → Int32 → Int32 → am_H → am_R) (hrc93 : ∀ a0 x1 x2 x4 x6 x7 h, Sim m_X11_isNews d 93 [some (.inr (.inr (some a0))), some (.inl x1), some (.inl x2), none, some (.inl x4), none, some (.inl x6), some (.inl x7), none] [] h (rc93 a0 x1 x2 x4 x6 x7 h)) (a0 : Nat × Nat) (x1 : Int32) (x2 : Int32) (x4 : Int32) (x7 : Int32) (h : am_H) : Sim m_X11_isNews d 159 [some (.inr (.inr (some a0))), some (.inl x1), some (.inl x2), none, some (.inl x4), none, none, some (.inl x7), none] [] h (f_X11_isNews_159 rc93 a0 x1 x2 x4 x7 h) := by
  unfold f_X11_isNews_159
  refine sim_iconst (1) dX11_isNews_159 (by decide +kernel) ?_
  refine sim_goto 164 dX11_isNews_160 (by decide) ?_
  exact sim_lv (am_leS (am_leS (am_leS (am_leN (am_leS (am_leN (am_leN (am_leS (am_leN am_leT))))))))) (t_X11_isNews_164 d (by omega) _ hrc93 _ _ _ _ _ _ _)
def f_X11_isNews_139 (rc93 : Nat × Nat → Int32 → Int32 → Int32 → Int32 → Int32 → am_H → am_R) (a0 : Nat × Nat) (x1 : Int32) (x2 : Int32) (x4 : Int32) (x6 : Int32) (x7 : Int32) (s0 : Int32) (h : am_H) : am_R := if x6 = 0 then (if s0 = (-1 : Int32) then (f_X11_isNews_163 rc93 a0 x1 x2 x4 x7 h) else (if x4 < s0 then (f_X11_isNews_163 rc93 a0 x1 x2 x4 x7 h) else (f_X11_isNews_159 rc93 a0 x1 x2 x4 x7 h))) else (f_X11_isNews_159 rc93 a0 x1 x2 x4 x7 h)
theorem t_X11_isNews_139 (d : Nat) (hd : 4 ≤ d) (rc93 : Nat × Nat → Int32 → Int32 → Int32 → Int32 → Int32 → am_H → am_R) (hrc93 : ∀ a0 x1 x2 x4 x6 x7 h, Sim m_X11_isNews d 93 [some (.inr (.inr (some a0))), some (.inl x1), some (.inl x2), none, some (.inl x4), none, some (.inl x6), some (.inl x7), none] [] h (rc93 a0 x1 x2 x4 x6 x7 h)) (a0 : Nat × Nat) (x1 : Int32) (x2 : Int32) (x4 : Int32) (x6 : Int32) (x7 : Int32) (s0 : Int32) (h : am_H) : Sim m_X11_isNews d 139 [some (.inr (.inr (some a0))), some (.inl x1), some (.inl x2), none, some (.inl x4), none, some (.inl x6), some (.inl x7), none] [.inl s0] h (f_X11_isNews_139 rc93 a0 x1 x2 x4 x6 x7 s0 h) := by
  unfold f_X11_isNews_139
  refine sim_istore dX11_isNews_139 (Nat.le_of_ble_eq_true rfl) ?_
  refine sim_iload dX11_isNews_141 rfl ?_
  refine sim_if_ne 159 dX11_isNews_143 (by decide) (fun c => ?_) (fun c => ?_)
  · exact sim_lv (am_leS (am_leS (am_leS (am_leN (am_leS (am_leN (am_leN (am_leS (am_leN am_leT))))))))) (t_X11_isNews_159 d (by omega) _ hrc93 _ _ _ _ _ _)
  · refine sim_iload dX11_isNews_146 rfl ?_
    refine sim_iconst (-1) dX11_isNews_148 (by decide +kernel) ?_
    refine sim_ic_eq 163 dX11_isNews_149 (by decide) (fun c => ?_) (fun c => ?_)
    · exact sim_lv (am_leS (am_leS (am_leS (am_leN (am_leS (am_leN (am_leN (am_leS (am_leN am_leT))))))))) (t_X11_isNews_163 d (by omega) _ hrc93 _ _ _ _ _ _)
    · refine sim_iload dX11_isNews_152 rfl ?_
      refine sim_iload dX11_isNews_154 rfl ?_
      refine sim_ic_lt 163 dX11_isNews_156 (by decide) (fun c => ?_) (fun c => ?_)
      · exact sim_lv (am_leS (am_leS (am_leS (am_leN (am_leS (am_leN (am_leN (am_leS (am_leN am_leT))))))))) (t_X11_isNews_163 d (by omega) _ hrc93 _ _ _ _ _ _)
      · exact sim_lv (am_leS (am_leS (am_leS (am_leN (am_leS (am_leN (am_leN (am_leS (am_leN am_leT))))))))) (t_X11_isNews_159 d (by omega) _ hrc93 _ _ _ _ _ _)
def f_X11_isNews_138 (rc93 : Nat × Nat → Int32 → Int32 → Int32 → Int32 → Int32 → am_H → am_R) (a0 : Nat × Nat) (x1 : Int32) (x2 : Int32) (x4 : Int32) (x6 : Int32) (x7 : Int32) (h : am_H) : am_R := f_X11_isNews_139 rc93 a0 x1 x2 x4 x6 x7 (-1 : Int32) h
theorem t_X11_isNews_138 (d : Nat) (hd : 4 ≤ d) (rc93 : Nat × Nat → Int32 → Int32 → Int32 → Int32 → Int32 → am_H → am_R) (hrc93 : ∀ a0 x1 x2 x4 x6 x7 h, Sim m_X11_isNews d 93 [some (.inr (.inr (some a0))), some (.inl x1), some (.inl x2), none, some (.inl x4), none, some (.inl x6), some (.inl x7), none] [] h (rc93 a0 x1 x2 x4 x6 x7 h)) (a0 : Nat × Nat) (x1 : Int32) (x2 : Int32) (x4 : Int32) (x6 : Int32) (x7 : Int32) (h : am_H) : Sim m_X11_isNews d 138 [some (.inr (.inr (some a0))), some (.inl x1), some (.inl x2), none, some (.inl x4), none, some (.inl x6), some (.inl x7), none] [] h (f_X11_isNews_138 rc93 a0 x1 x2 x4 x6 x7 h) := by
  unfold f_X11_isNews_138
  refine sim_iconst (-1) dX11_isNews_138 (by decide +kernel) ?_
  exact sim_lv (am_leS (am_leS (am_leS (am_leN (am_leS (am_leN (am_leS (am_leS (am_leN am_leT))))))))) (t_X11_isNews_139 d (by omega) _ hrc93 _ _ _ _ _ _ _ _)
def f_X11_isNews_93  : Nat → Nat × Nat → Int32 → Int32 → Int32 → Int32 → Int32 → am_H → am_R
  | 0, _, _, _, _, _, _, _ => none
  | n + 1, a0, x1, x2, x4, x6, x7, h => if (12 : Int32) ≤ x7 then (m_rz h x6) else (m_gR (some a0) 11 6 h fun o16 => m_aI o16 0 x2 h fun v17 => m_bI (f_X11_has v17 x7 h) fun h18 v19 => if v19 = 0 then (f_X11_isNews_138 (f_X11_isNews_93  n) a0 x1 x2 x4 x6 x7 h18) else (m_ao (some a0) 11 fun a22 => m_bI (f_X11_areTold a22 x1 x2 h18) fun h20 v21 => if v21 = 0 then (f_X11_isNews_138 (f_X11_isNews_93  n) a0 x1 x2 x4 x6 x7 h20) else (m_gR (some a0) 11 45 h20 fun o23 => m_aI o23 0 (((12 : Int32) * x1) + x7) h20 fun v24 => f_X11_isNews_139 (f_X11_isNews_93  n) a0 x1 x2 x4 x6 x7 v24 h20)))
theorem t_X11_isNews_93 (d : Nat) (hd : 4 ≤ d)  : ∀ (n : Nat) (a0 : Nat × Nat) (x1 : Int32) (x2 : Int32) (x4 : Int32) (x6 : Int32) (x7 : Int32) (h : am_H), Sim m_X11_isNews d 93 [some (.inr (.inr (some a0))), some (.inl x1), some (.inl x2), none, some (.inl x4), none, some (.inl x6), some (.inl x7), none] [] h (f_X11_isNews_93  n a0 x1 x2 x4 x6 x7 h) := by
  intro n
  induction n with
  | zero => intros; exact sim_none
  | succ n hrc93 =>
    intro a0 x1 x2 x4 x6 x7 h
    rw [f_X11_isNews_93]
    refine sim_iload dX11_isNews_93 rfl ?_
    refine sim_bipush (12) dX11_isNews_95 (by decide +kernel) ?_
    refine sim_ic_ge 172 dX11_isNews_97 (by decide) (fun c => ?_) (fun c => ?_)
    · refine sim_iload dX11_isNews_172 rfl ?_
      exact sim_zret dX11_isNews_174 rfl
    · refine sim_aload_n dX11_isNews_100 rfl ?_
      refine sim_gR 11 6 dX11_isNews_101 rfl wf_RX11_20 (Nat.le_of_ble_eq_true rfl) rfl (fun o16 => ?_)
      refine sim_iload_n dX11_isNews_104 rfl ?_
      refine sim_aI dX11_isNews_105 (fun v17 => ?_)
      refine sim_iload dX11_isNews_106 rfl ?_
      refine sim_static (d - 1) dX11_isNews_108 (k_X11_has (d - 1) (by omega) _ _ _) q_X11_has wm_RX11_155 rfl rfl (by omega) (Nat.le_of_ble_eq_true rfl) am_nI (am_rI fun h18 v19 => ?_) am_eI
      refine sim_if_eq 138 dX11_isNews_111 (by decide) (fun c => ?_) (fun c => ?_)
      · exact sim_lv (am_leS (am_leS (am_leS (am_leN (am_leS (am_leN (am_leS (am_leS (am_leN am_leT))))))))) (t_X11_isNews_138 d (by omega) _ hrc93 _ _ _ _ _ _ _)
      · refine sim_aload_n dX11_isNews_114 rfl ?_
        refine sim_iload_n dX11_isNews_115 rfl ?_
        refine sim_iload_n dX11_isNews_116 rfl ?_
        refine sim_ao2 (fun a22 e => ?_)
        refine sim_virt (d - 1) e dX11_isNews_117 (k_X11_areTold (d - 1) (by omega) _ _ _ _) q_X11_areTold rfl rfl wm_RX11_172 rfl rfl (by omega) (Nat.le_of_ble_eq_true rfl) am_nI (am_rI fun h20 v21 => ?_) am_eI
        refine sim_if_eq 138 dX11_isNews_120 (by decide) (fun c => ?_) (fun c => ?_)
        · exact sim_lv (am_leS (am_leS (am_leS (am_leN (am_leS (am_leN (am_leS (am_leS (am_leN am_leT))))))))) (t_X11_isNews_138 d (by omega) _ hrc93 _ _ _ _ _ _ _)
        · refine sim_aload_n dX11_isNews_123 rfl ?_
          refine sim_gR 11 45 dX11_isNews_124 rfl wf_RX11_119 (Nat.le_of_ble_eq_true rfl) rfl (fun o23 => ?_)
          refine sim_bipush (12) dX11_isNews_127 (by decide +kernel) ?_
          refine sim_iload_n dX11_isNews_129 rfl ?_
          refine sim_imul dX11_isNews_130 ?_
          refine sim_iload dX11_isNews_131 rfl ?_
          refine sim_iadd dX11_isNews_133 ?_
          refine sim_aI dX11_isNews_134 (fun v24 => ?_)
          refine sim_goto 139 dX11_isNews_135 (by decide) ?_
          exact sim_lv (am_leS (am_leS (am_leS (am_leN (am_leS (am_leN (am_leS (am_leS (am_leN am_leT))))))))) (t_X11_isNews_139 d (by omega) _ hrc93 _ _ _ _ _ _ _ _)
def f_X11_isNews_88  (a0 : Nat × Nat) (x1 : Int32) (x2 : Int32) (x4 : Int32) (s0 : Int32) (h : am_H) : am_R := f_X11_isNews_93 5000 a0 x1 x2 x4 s0 (0 : Int32) h
theorem t_X11_isNews_88 (d : Nat) (hd : 4 ≤ d)  (a0 : Nat × Nat) (x1 : Int32) (x2 : Int32) (x4 : Int32) (s0 : Int32) (h : am_H) : Sim m_X11_isNews d 88 [some (.inr (.inr (some a0))), some (.inl x1), some (.inl x2), none, some (.inl x4), none, none, none, none] [.inl s0] h (f_X11_isNews_88  a0 x1 x2 x4 s0 h) := by
  unfold f_X11_isNews_88
  refine sim_istore dX11_isNews_88 (Nat.le_of_ble_eq_true rfl) ?_
  refine sim_iconst (0) dX11_isNews_90 (by decide +kernel) ?_
  refine sim_istore dX11_isNews_91 (Nat.le_of_ble_eq_true rfl) ?_
  exact sim_lv (am_leS (am_leS (am_leS (am_leN (am_leS (am_leN (am_leS (am_leS (am_leN am_leT))))))))) (t_X11_isNews_93 d (by omega) _ _ _ _ _ _ _ _)
def f_X11_isNews_87  (a0 : Nat × Nat) (x1 : Int32) (x2 : Int32) (x4 : Int32) (h : am_H) : am_R := f_X11_isNews_88 a0 x1 x2 x4 (0 : Int32) h
theorem t_X11_isNews_87 (d : Nat) (hd : 4 ≤ d)  (a0 : Nat × Nat) (x1 : Int32) (x2 : Int32) (x4 : Int32) (h : am_H) : Sim m_X11_isNews d 87 [some (.inr (.inr (some a0))), some (.inl x1), some (.inl x2), none, some (.inl x4), none, none, none, none] [] h (f_X11_isNews_87  a0 x1 x2 x4 h) := by
  unfold f_X11_isNews_87
  refine sim_iconst (0) dX11_isNews_87 (by decide +kernel) ?_
  exact sim_lv (am_leS (am_leS (am_leS (am_leN (am_leS (am_leN (am_leN (am_leN (am_leN am_leT))))))))) (t_X11_isNews_88 d (by omega) _ _ _ _ _ _)
def f_X11_isNews_47   (h : am_H) : am_R := m_rz h (0 : Int32)
theorem t_X11_isNews_47 (d : Nat) (hd : 4 ≤ d)   (h : am_H) : Sim m_X11_isNews d 47 [none, none, none, none, none, none, none, none, none] [] h (f_X11_isNews_47   h) := by
  unfold f_X11_isNews_47
  refine sim_iconst (0) dX11_isNews_47 (by decide +kernel) ?_
  exact sim_zret dX11_isNews_48 rfl
def f_X11_isNews (a0 : Nat × Nat) (x1 : Int32) (x2 : Int32) (x3 : Int32) (h : am_H) : am_R := m_gR (some a0) 11 9 h fun o1 => m_aI o1 0 x2 h fun v2 => if v2 = (-1 : Int32) then (f_X11_isNews_47 h) else (m_ao (some a0) 11 fun a5 => m_bI (f_X11_isSeen a5 x1 x2 h) fun h3 v4 => if v4 = 0 then (f_X11_isNews_47 h3) else (m_ao (some a0) 11 fun a8 => m_bI (f_X11_isOwner a8 x1 x2 h3) fun h6 v7 => if v7 = 0 then (m_gR (some a0) 11 46 h6 fun o9 => m_aI o9 1 (((8 : Int32) * (((20 : Int32) * x1) + x2)) + x3) h6 fun v10 => if v10 = 0 then (m_ao (some a0) 11 fun a13 => m_bI (f_X11_outDay a13 x2 x3 h6) fun h11 v12 => m_gR (some a0) 11 44 h11 fun o14 => m_aI o14 0 (((20 : Int32) * x1) + x2) h11 fun v15 => if v15 = (-1 : Int32) then (f_X11_isNews_87 a0 x1 x2 v12 h11) else (if v12 < v15 then (f_X11_isNews_87 a0 x1 x2 v12 h11) else (f_X11_isNews_88 a0 x1 x2 v12 (1 : Int32) h11))) else (f_X11_isNews_47 h6)) else (f_X11_isNews_47 h6)))
theorem k_X11_isNews (d : Nat) (hd : 4 ≤ d) (a0 : Nat × Nat) (x1 : Int32) (x2 : Int32) (x3 : Int32) (h : am_H) : am_Con m_X11_isNews d [.inr (.inr (some a0)), .inl x1, .inl x2, .inl x3] h (f_X11_isNews a0 x1 x2 x3 h) := am_con (by decide +kernel) (Nat.le_of_ble_eq_true rfl) (by
  unfold f_X11_isNews
  refine sim_aload_n dX11_isNews_0 rfl ?_
  refine sim_gR 11 9 dX11_isNews_1 rfl wf_RX11_29 (Nat.le_of_ble_eq_true rfl) rfl (fun o1 => ?_)
  refine sim_iload_n dX11_isNews_4 rfl ?_
  refine sim_aI dX11_isNews_5 (fun v2 => ?_)
  refine sim_iconst (-1) dX11_isNews_6 (by decide +kernel) ?_
  refine sim_ic_eq 47 dX11_isNews_7 (by decide) (fun c => ?_) (fun c => ?_)
  · exact sim_lv (am_leN (am_leN (am_leN (am_leN (am_leN (am_leN (am_leN (am_leN (am_leN am_leT))))))))) (t_X11_isNews_47 d (by omega) _)
  · refine sim_aload_n dX11_isNews_10 rfl ?_
    refine sim_iload_n dX11_isNews_11 rfl ?_
    refine sim_iload_n dX11_isNews_12 rfl ?_
    refine sim_ao2 (fun a5 e => ?_)
    refine sim_virt (d - 1) e dX11_isNews_13 (k_X11_isSeen (d - 1) (by omega) _ _ _ _) q_X11_isSeen rfl rfl wm_RX11_169 rfl rfl (by omega) (Nat.le_of_ble_eq_true rfl) am_nI (am_rI fun h3 v4 => ?_) am_eI
    refine sim_if_eq 47 dX11_isNews_16 (by decide) (fun c => ?_) (fun c => ?_)
    · exact sim_lv (am_leN (am_leN (am_leN (am_leN (am_leN (am_leN (am_leN (am_leN (am_leN am_leT))))))))) (t_X11_isNews_47 d (by omega) _)
    · refine sim_aload_n dX11_isNews_19 rfl ?_
      refine sim_iload_n dX11_isNews_20 rfl ?_
      refine sim_iload_n dX11_isNews_21 rfl ?_
      refine sim_ao2 (fun a8 e => ?_)
      refine sim_virt (d - 1) e dX11_isNews_22 (k_X11_isOwner (d - 1) (by omega) _ _ _ _) q_X11_isOwner rfl rfl wm_RX11_166 rfl rfl (by omega) (Nat.le_of_ble_eq_true rfl) am_nI (am_rI fun h6 v7 => ?_) am_eI
      refine sim_if_ne 47 dX11_isNews_25 (by decide) (fun c => ?_) (fun c => ?_)
      · exact sim_lv (am_leN (am_leN (am_leN (am_leN (am_leN (am_leN (am_leN (am_leN (am_leN am_leT))))))))) (t_X11_isNews_47 d (by omega) _)
      · refine sim_aload_n dX11_isNews_28 rfl ?_
        refine sim_gR 11 46 dX11_isNews_29 rfl wf_RX11_122 (Nat.le_of_ble_eq_true rfl) rfl (fun o9 => ?_)
        refine sim_bipush (8) dX11_isNews_32 (by decide +kernel) ?_
        refine sim_bipush (20) dX11_isNews_34 (by decide +kernel) ?_
        refine sim_iload_n dX11_isNews_36 rfl ?_
        refine sim_imul dX11_isNews_37 ?_
        refine sim_iload_n dX11_isNews_38 rfl ?_
        refine sim_iadd dX11_isNews_39 ?_
        refine sim_imul dX11_isNews_40 ?_
        refine sim_iload_n dX11_isNews_41 rfl ?_
        refine sim_iadd dX11_isNews_42 ?_
        refine sim_aZ dX11_isNews_43 (fun v10 => ?_)
        refine sim_if_eq 49 dX11_isNews_44 (by decide) (fun c => ?_) (fun c => ?_)
        · refine sim_aload_n dX11_isNews_49 rfl ?_
          refine sim_iload_n dX11_isNews_50 rfl ?_
          refine sim_iload_n dX11_isNews_51 rfl ?_
          refine sim_ao2 (fun a13 e => ?_)
          refine sim_virt (d - 1) e dX11_isNews_52 (k_X11_outDay (d - 1) (by omega) _ _ _ _) q_X11_outDay rfl rfl wm_RX11_233 rfl rfl (by omega) (Nat.le_of_ble_eq_true rfl) am_nI (am_rI fun h11 v12 => ?_) am_eI
          refine sim_istore dX11_isNews_55 (Nat.le_of_ble_eq_true rfl) ?_
          refine sim_aload_n dX11_isNews_57 rfl ?_
          refine sim_gR 11 44 dX11_isNews_58 rfl wf_RX11_116 (Nat.le_of_ble_eq_true rfl) rfl (fun o14 => ?_)
          refine sim_bipush (20) dX11_isNews_61 (by decide +kernel) ?_
          refine sim_iload_n dX11_isNews_63 rfl ?_
          refine sim_imul dX11_isNews_64 ?_
          refine sim_iload_n dX11_isNews_65 rfl ?_
          refine sim_iadd dX11_isNews_66 ?_
          refine sim_aI dX11_isNews_67 (fun v15 => ?_)
          refine sim_istore dX11_isNews_68 (Nat.le_of_ble_eq_true rfl) ?_
          refine sim_iload dX11_isNews_70 rfl ?_
          refine sim_iconst (-1) dX11_isNews_72 (by decide +kernel) ?_
          refine sim_ic_eq 87 dX11_isNews_73 (by decide) (fun c => ?_) (fun c => ?_)
          · exact sim_lv (am_leS (am_leS (am_leS (am_leN (am_leS (am_leN (am_leN (am_leN (am_leN am_leT))))))))) (t_X11_isNews_87 d (by omega) _ _ _ _ _)
          · refine sim_iload dX11_isNews_76 rfl ?_
            refine sim_iload dX11_isNews_78 rfl ?_
            refine sim_ic_lt 87 dX11_isNews_80 (by decide) (fun c => ?_) (fun c => ?_)
            · exact sim_lv (am_leS (am_leS (am_leS (am_leN (am_leS (am_leN (am_leN (am_leN (am_leN am_leT))))))))) (t_X11_isNews_87 d (by omega) _ _ _ _ _)
            · refine sim_iconst (1) dX11_isNews_83 (by decide +kernel) ?_
              refine sim_goto 88 dX11_isNews_84 (by decide) ?_
              exact sim_lv (am_leS (am_leS (am_leS (am_leN (am_leS (am_leN (am_leN (am_leN (am_leN am_leT))))))))) (t_X11_isNews_88 d (by omega) _ _ _ _ _ _)
        · exact sim_lv (am_leN (am_leN (am_leN (am_leN (am_leN (am_leN (am_leN (am_leN (am_leN am_leT))))))))) (t_X11_isNews_47 d (by omega) _))
theorem q_X11_isNews : am_Cal m_X11_isNews 3 2 := ⟨am_mem 1528 (w := Cond.code yX11_isNews cX11_isNews 9 (some .boolean)) (by decide +kernel) rfl, am_mem 64 (w := Cond.initialized RX11) (by decide +kernel) rfl, fun z => absurd z (by decide), fun _ => am_mem 1527 (w := Cond.instanceMethod yX11_isNews) (by decide +kernel) rfl, fun z => absurd z (by decide), fun _ => am_mem 54 (w := Cond.selects RX11 yX11_isNews yX11_isNews) (by decide +kernel) rfl, by decide +kernel, by decide +kernel, Nat.le_of_ble_eq_true rfl⟩
abbrev m_X11_digest : am_M := (yX11_digest, cX11_digest, 6, some .int, [])
def f_X11_digest_96  (x2 : Int32) (h : am_H) : am_R := m_ri h x2
theorem t_X11_digest_96 (d : Nat) (hd : 5 ≤ d)  (x2 : Int32) (h : am_H) : Sim m_X11_digest d 96 [none, none, some (.inl x2), none, none, none] [] h (f_X11_digest_96  x2 h) := by
  unfold f_X11_digest_96
  refine sim_iload_n dX11_digest_96 rfl ?_
  exact sim_iret dX11_digest_97 rfl
def f_X11_digest_84 (rc22 : Nat × Nat → Int32 → Int32 → Int32 → Int32 → am_H → am_R) (rc38 : Nat × Nat → Int32 → Int32 → Int32 → Int32 → Int32 → am_H → am_R) (a0 : Nat × Nat) (x1 : Int32) (x2 : Int32) (x3 : Int32) (x4 : Int32) (x5 : Int32) (h : am_H) : am_R := rc38 a0 x1 x2 x3 x4 (x5 + 1) h
theorem t_X11_digest_84 (d : Nat) (hd : 5 ≤ d) (rc22 : Nat × Nat → Int32 → Int32 → Int32 → Int32 → am_H → am_R) (hrc22 : ∀ a0 x1 x2 x3 x4 h, Sim m_X11_digest d 22 [some (.inr (.inr (some a0))), some (.inl x1), some (.inl x2), some (.inl x3), some (.inl x4), none] [] h (rc22 a0 x1 x2 x3 x4 h)) (rc38 : Nat × Nat → Int32 → Int32 → Int32 → Int32 → Int32 → am_H → am_R) (hrc38 : ∀ a0 x1 x2 x3 x4 x5 h, Sim m_X11_digest d 38 [some (.inr (.inr (some a0))), some (.inl x1), some (.inl x2), some (.inl x3), some (.inl x4), some (.inl x5)] [] h (rc38 a0 x1 x2 x3 x4 x5 h)) (a0 : Nat × Nat) (x1 : Int32) (x2 : Int32) (x3 : Int32) (x4 : Int32) (x5 : Int32) (h : am_H) : Sim m_X11_digest d 84 [some (.inr (.inr (some a0))), some (.inl x1), some (.inl x2), some (.inl x3), some (.inl x4), some (.inl x5)] [] h (f_X11_digest_84 rc22 rc38 a0 x1 x2 x3 x4 x5 h) := by
  unfold f_X11_digest_84
  refine sim_iinc (1) dX11_digest_84 rfl (by decide +kernel) (Nat.le_of_ble_eq_true rfl) ?_
  refine sim_goto 38 dX11_digest_87 (by decide) ?_
  exact sim_lv (am_leS (am_leS (am_leS (am_leS (am_leS (am_leS am_leT)))))) (hrc38 _ _ _ _ _ _ _)
def f_X11_digest_38 (rc22 : Nat × Nat → Int32 → Int32 → Int32 → Int32 → am_H → am_R) : Nat → Nat × Nat → Int32 → Int32 → Int32 → Int32 → Int32 → am_H → am_R
  | 0, _, _, _, _, _, _, _ => none
  | n + 1, a0, x1, x2, x3, x4, x5, h => m_gR (some a0) 11 7 h fun o7 => m_aI o7 0 x4 h fun v8 => if v8 ≤ x5 then (rc22 a0 x1 x2 x3 (x4 + 1) h) else (m_ao (some a0) 11 fun a11 => m_bI (f_X11_isNews a11 x1 x4 x5 h) fun h9 v10 => if v10 = 0 then (f_X11_digest_84 rc22 (f_X11_digest_38 rc22 n) a0 x1 x2 x3 x4 x5 h9) else (m_gR (some a0) 11 46 h9 fun o12 => m_sZ o12 (((8 : Int32) * (((20 : Int32) * x1) + x4)) + x5) (1 : Int32) h9 fun h13 => f_X11_digest_84 rc22 (f_X11_digest_38 rc22 n) a0 x1 (x2 + 1) x3 x4 x5 h13))
theorem t_X11_digest_38 (d : Nat) (hd : 5 ≤ d) (rc22 : Nat × Nat → Int32 → Int32 → Int32 → Int32 → am_H → am_R) (hrc22 : ∀ a0 x1 x2 x3 x4 h, Sim m_X11_digest d 22 [some (.inr (.inr (some a0))), some (.inl x1), some (.inl x2), some (.inl x3), some (.inl x4), none] [] h (rc22 a0 x1 x2 x3 x4 h)) : ∀ (n : Nat) (a0 : Nat × Nat) (x1 : Int32) (x2 : Int32) (x3 : Int32) (x4 : Int32) (x5 : Int32) (h : am_H), Sim m_X11_digest d 38 [some (.inr (.inr (some a0))), some (.inl x1), some (.inl x2), some (.inl x3), some (.inl x4), some (.inl x5)] [] h (f_X11_digest_38 rc22 n a0 x1 x2 x3 x4 x5 h) := by
  intro n
  induction n with
  | zero => intros; exact sim_none
  | succ n hrc38 =>
    intro a0 x1 x2 x3 x4 x5 h
    rw [f_X11_digest_38]
    refine sim_iload dX11_digest_38 rfl ?_
    refine sim_aload_n dX11_digest_40 rfl ?_
    refine sim_gR 11 7 dX11_digest_41 rfl wf_RX11_23 (Nat.le_of_ble_eq_true rfl) rfl (fun o7 => ?_)
    refine sim_iload dX11_digest_44 rfl ?_
    refine sim_aI dX11_digest_46 (fun v8 => ?_)
    refine sim_ic_ge 90 dX11_digest_47 (by decide) (fun c => ?_) (fun c => ?_)
    · refine sim_iinc (1) dX11_digest_90 rfl (by decide +kernel) (Nat.le_of_ble_eq_true rfl) ?_
      refine sim_goto 22 dX11_digest_93 (by decide) ?_
      exact sim_lv (am_leS (am_leS (am_leS (am_leS (am_leS (am_leN am_leT)))))) (hrc22 _ _ _ _ _ _)
    · refine sim_aload_n dX11_digest_50 rfl ?_
      refine sim_iload_n dX11_digest_51 rfl ?_
      refine sim_iload dX11_digest_52 rfl ?_
      refine sim_iload dX11_digest_54 rfl ?_
      refine sim_ao3 (fun a11 e => ?_)
      refine sim_virt (d - 1) e dX11_digest_56 (k_X11_isNews (d - 1) (by omega) _ _ _ _ _) q_X11_isNews rfl rfl wm_RX11_263 rfl rfl (by omega) (Nat.le_of_ble_eq_true rfl) am_nI (am_rI fun h9 v10 => ?_) am_eI
      refine sim_if_eq 84 dX11_digest_59 (by decide) (fun c => ?_) (fun c => ?_)
      · exact sim_lv (am_leS (am_leS (am_leS (am_leS (am_leS (am_leS am_leT)))))) (t_X11_digest_84 d (by omega) _ hrc22 _ hrc38 _ _ _ _ _ _ _)
      · refine sim_aload_n dX11_digest_62 rfl ?_
        refine sim_gR 11 46 dX11_digest_63 rfl wf_RX11_122 (Nat.le_of_ble_eq_true rfl) rfl (fun o12 => ?_)
        refine sim_bipush (8) dX11_digest_66 (by decide +kernel) ?_
        refine sim_bipush (20) dX11_digest_68 (by decide +kernel) ?_
        refine sim_iload_n dX11_digest_70 rfl ?_
        refine sim_imul dX11_digest_71 ?_
        refine sim_iload dX11_digest_72 rfl ?_
        refine sim_iadd dX11_digest_74 ?_
        refine sim_imul dX11_digest_75 ?_
        refine sim_iload dX11_digest_76 rfl ?_
        refine sim_iadd dX11_digest_78 ?_
        refine sim_iconst (1) dX11_digest_79 (by decide +kernel) ?_
        refine sim_sZ dX11_digest_80 (fun h13 => ?_)
        refine sim_iinc (1) dX11_digest_81 rfl (by decide +kernel) (Nat.le_of_ble_eq_true rfl) ?_
        exact sim_lv (am_leS (am_leS (am_leS (am_leS (am_leS (am_leS am_leT)))))) (t_X11_digest_84 d (by omega) _ hrc22 _ hrc38 _ _ _ _ _ _ _)
def f_X11_digest_22  : Nat → Nat × Nat → Int32 → Int32 → Int32 → Int32 → am_H → am_R
  | 0, _, _, _, _, _, _ => none
  | n + 1, a0, x1, x2, x3, x4, h => m_gI (some a0) 11 4 h fun v6 => if v6 ≤ x4 then (f_X11_digest_96 x2 h) else (if x3 = 0 then (f_X11_digest_96 x2 h) else (f_X11_digest_38 (f_X11_digest_22  n) 5000 a0 x1 x2 x3 x4 (0 : Int32) h))
theorem t_X11_digest_22 (d : Nat) (hd : 5 ≤ d)  : ∀ (n : Nat) (a0 : Nat × Nat) (x1 : Int32) (x2 : Int32) (x3 : Int32) (x4 : Int32) (h : am_H), Sim m_X11_digest d 22 [some (.inr (.inr (some a0))), some (.inl x1), some (.inl x2), some (.inl x3), some (.inl x4), none] [] h (f_X11_digest_22  n a0 x1 x2 x3 x4 h) := by
  intro n
  induction n with
  | zero => intros; exact sim_none
  | succ n hrc22 =>
    intro a0 x1 x2 x3 x4 h
    rw [f_X11_digest_22]
    refine sim_iload dX11_digest_22 rfl ?_
    refine sim_aload_n dX11_digest_24 rfl ?_
    refine sim_gI 11 4 dX11_digest_25 rfl wf_RX11_133 (Nat.le_of_ble_eq_true rfl) rfl (fun v6 => ?_)
    refine sim_ic_ge 96 dX11_digest_28 (by decide) (fun c => ?_) (fun c => ?_)
    · exact sim_lv (am_leN (am_leN (am_leS (am_leN (am_leN (am_leN am_leT)))))) (t_X11_digest_96 d (by omega) _ _)
    · refine sim_iload_n dX11_digest_31 rfl ?_
      refine sim_if_eq 96 dX11_digest_32 (by decide) (fun c => ?_) (fun c => ?_)
      · exact sim_lv (am_leN (am_leN (am_leS (am_leN (am_leN (am_leN am_leT)))))) (t_X11_digest_96 d (by omega) _ _)
      · refine sim_iconst (0) dX11_digest_35 (by decide +kernel) ?_
        refine sim_istore dX11_digest_36 (Nat.le_of_ble_eq_true rfl) ?_
        exact sim_lv (am_leS (am_leS (am_leS (am_leS (am_leS (am_leS am_leT)))))) (t_X11_digest_38 d (by omega) _ hrc22 _ _ _ _ _ _ _ _)
def f_X11_digest_15  (a0 : Nat × Nat) (x1 : Int32) (x2 : Int32) (s0 : Int32) (s1 : Option (Nat × Nat)) (h : am_H) : am_R := m_ao s1 11 fun a5 => m_bI (f_X11_holds a5 s0 h) fun h3 v4 => f_X11_digest_22 5000 a0 x1 x2 v4 (0 : Int32) h3
theorem t_X11_digest_15 (d : Nat) (hd : 5 ≤ d)  (a0 : Nat × Nat) (x1 : Int32) (x2 : Int32) (s0 : Int32) (s1 : Option (Nat × Nat)) (h : am_H) : Sim m_X11_digest d 15 [some (.inr (.inr (some a0))), some (.inl x1), some (.inl x2), none, none, none] [.inl s0, .inr (.inr s1)] h (f_X11_digest_15  a0 x1 x2 s0 s1 h) := by
  unfold f_X11_digest_15
  refine sim_ao1 (fun a5 e => ?_)
  refine sim_virt (d - 1) e dX11_digest_15 (k_X11_holds (d - 1) (by omega) _ _ _) q_X11_holds rfl rfl wm_RX11_142 rfl rfl (by omega) (Nat.le_of_ble_eq_true rfl) am_nI (am_rI fun h3 v4 => ?_) am_eI
  refine sim_istore_n dX11_digest_18 (Nat.le_of_ble_eq_true rfl) ?_
  refine sim_iconst (0) dX11_digest_19 (by decide +kernel) ?_
  refine sim_istore dX11_digest_20 (Nat.le_of_ble_eq_true rfl) ?_
  exact sim_lv (am_leS (am_leS (am_leS (am_leS (am_leS (am_leN am_leT)))))) (t_X11_digest_22 d (by omega) _ _ _ _ _ _ _)
def f_X11_digest (a0 : Nat × Nat) (x1 : Int32) (h : am_H) : am_R := m_bI (f_X11_isPerson x1 h) fun h1 v2 => if v2 = 0 then (f_X11_digest_15 a0 x1 (0 : Int32) (1 : Int32) (some a0) h1) else (f_X11_digest_15 a0 x1 (0 : Int32) (0 : Int32) (some a0) h1)
theorem k_X11_digest (d : Nat) (hd : 5 ≤ d) (a0 : Nat × Nat) (x1 : Int32) (h : am_H) : am_Con m_X11_digest d [.inr (.inr (some a0)), .inl x1] h (f_X11_digest a0 x1 h) := am_con (by decide +kernel) (Nat.le_of_ble_eq_true rfl) (by
  unfold f_X11_digest
  refine sim_iconst (0) dX11_digest_0 (by decide +kernel) ?_
  refine sim_istore_n dX11_digest_1 (Nat.le_of_ble_eq_true rfl) ?_
  refine sim_aload_n dX11_digest_2 rfl ?_
  refine sim_iload_n dX11_digest_3 rfl ?_
  refine sim_static (d - 1) dX11_digest_4 (k_X11_isPerson (d - 1) (by omega) _ _) q_X11_isPerson wm_RX11_146 rfl rfl (by omega) (Nat.le_of_ble_eq_true rfl) am_nI (am_rI fun h1 v2 => ?_) am_eI
  refine sim_if_eq 14 dX11_digest_7 (by decide) (fun c => ?_) (fun c => ?_)
  · refine sim_iconst (1) dX11_digest_14 (by decide +kernel) ?_
    exact sim_lv (am_leS (am_leS (am_leS (am_leN (am_leN (am_leN am_leT)))))) (t_X11_digest_15 d (by omega) _ _ _ _ _ _)
  · refine sim_iconst (0) dX11_digest_10 (by decide +kernel) ?_
    refine sim_goto 15 dX11_digest_11 (by decide) ?_
    exact sim_lv (am_leS (am_leS (am_leS (am_leN (am_leN (am_leN am_leT)))))) (t_X11_digest_15 d (by omega) _ _ _ _ _ _))
theorem q_X11_digest : am_Cal m_X11_digest 1 2 := ⟨am_mem 1532 (w := Cond.code yX11_digest cX11_digest 6 (some .int)) (by decide +kernel) rfl, am_mem 64 (w := Cond.initialized RX11) (by decide +kernel) rfl, fun z => absurd z (by decide), fun _ => am_mem 1530 (w := Cond.instanceMethod yX11_digest) (by decide +kernel) rfl, fun z => absurd z (by decide), fun _ => am_mem 1531 (w := Cond.selects RX11 yX11_digest yX11_digest) (by decide +kernel) rfl, by decide +kernel, by decide +kernel, Nat.le_of_ble_eq_true rfl⟩
abbrev m_X11_isFigure : am_M := (yX11_isFigure, cX11_isFigure, 1, some .boolean, [])
def f_X11_isFigure (x0 : Int32) (h : am_H) : am_R := m_bI (f_X11_in x0 (48 : Int32) (57 : Int32) h) fun h1 v2 => m_rz h1 v2
theorem k_X11_isFigure (d : Nat) (hd : 1 ≤ d) (x0 : Int32) (h : am_H) : am_Con m_X11_isFigure d [.inl x0] h (f_X11_isFigure x0 h) := am_con (by decide +kernel) (Nat.le_of_ble_eq_true rfl) (by
  unfold f_X11_isFigure
  refine sim_iload_n dX11_isFigure_0 rfl ?_
  refine sim_bipush (48) dX11_isFigure_1 (by decide +kernel) ?_
  refine sim_bipush (57) dX11_isFigure_3 (by decide +kernel) ?_
  refine sim_static (d - 1) dX11_isFigure_5 (k_X11_in (d - 1) (by omega) _ _ _ _) q_X11_in wm_RX11_129 rfl rfl (by omega) (Nat.le_of_ble_eq_true rfl) am_nI (am_rI fun h1 v2 => ?_) am_eI
  exact sim_zret dX11_isFigure_8 rfl)
theorem q_X11_isFigure : am_Cal m_X11_isFigure 1 0 := ⟨am_mem 1405 (w := Cond.code yX11_isFigure cX11_isFigure 1 (some .boolean)) (by decide +kernel) rfl, am_mem 64 (w := Cond.initialized RX11) (by decide +kernel) rfl, fun _ => am_mem 1404 (w := Cond.static yX11_isFigure) (by decide +kernel) rfl, fun z => absurd rfl z, fun z => absurd z (by decide), fun z => absurd z (by decide), by decide +kernel, by decide +kernel, Nat.le_of_ble_eq_true rfl⟩
abbrev m_X11_behind : am_M := (yX11_behind, cX11_behind, 2, some .int, [])
def f_X11_behind_211  (s0 : Int32) (h : am_H) : am_R := m_ri h s0
theorem t_X11_behind_211 (d : Nat) (hd : 2 ≤ d)  (s0 : Int32) (h : am_H) : Sim m_X11_behind d 211 [none, none] [.inl s0] h (f_X11_behind_211  s0 h) := by
  unfold f_X11_behind_211
  exact sim_iret dX11_behind_211 rfl
def f_X11_behind_199  (x1 : Int32) (h : am_H) : am_R := m_bI (f_X11_isFigure x1 h) fun h7 v8 => if v8 = 0 then (f_X11_behind_211 (-1 : Int32) h7) else (f_X11_behind_211 (1 : Int32) h7)
theorem t_X11_behind_199 (d : Nat) (hd : 2 ≤ d)  (x1 : Int32) (h : am_H) : Sim m_X11_behind d 199 [none, some (.inl x1)] [] h (f_X11_behind_199  x1 h) := by
  unfold f_X11_behind_199
  refine sim_iload_n dX11_behind_199 rfl ?_
  refine sim_static (d - 1) dX11_behind_200 (k_X11_isFigure (d - 1) (by omega) _ _) q_X11_isFigure wm_RX11_194 rfl rfl (by omega) (Nat.le_of_ble_eq_true rfl) am_nI (am_rI fun h7 v8 => ?_) am_eI
  refine sim_if_eq 210 dX11_behind_203 (by decide) (fun c => ?_) (fun c => ?_)
  · refine sim_iconst (-1) dX11_behind_210 (by decide +kernel) ?_
    exact sim_lv (am_leN (am_leN am_leT)) (t_X11_behind_211 d (by omega) _ _)
  · refine sim_iconst (1) dX11_behind_206 (by decide +kernel) ?_
    refine sim_goto 211 dX11_behind_207 (by decide) ?_
    exact sim_lv (am_leN (am_leN am_leT)) (t_X11_behind_211 d (by omega) _ _)
def f_X11_behind_198  (s0 : Int32) (h : am_H) : am_R := m_ri h s0
theorem t_X11_behind_198 (d : Nat) (hd : 2 ≤ d)  (s0 : Int32) (h : am_H) : Sim m_X11_behind d 198 [none, none] [.inl s0] h (f_X11_behind_198  s0 h) := by
  unfold f_X11_behind_198
  exact sim_iret dX11_behind_198 rfl
def f_X11_behind_181  (s0 : Int32) (h : am_H) : am_R := m_ri h s0
theorem t_X11_behind_181 (d : Nat) (hd : 2 ≤ d)  (s0 : Int32) (h : am_H) : Sim m_X11_behind d 181 [none, none] [.inl s0] h (f_X11_behind_181  s0 h) := by
  unfold f_X11_behind_181
  exact sim_iret dX11_behind_181 rfl
def f_X11_behind_164  (s0 : Int32) (h : am_H) : am_R := m_ri h s0
theorem t_X11_behind_164 (d : Nat) (hd : 2 ≤ d)  (s0 : Int32) (h : am_H) : Sim m_X11_behind d 164 [none, none] [.inl s0] h (f_X11_behind_164  s0 h) := by
  unfold f_X11_behind_164
  exact sim_iret dX11_behind_164 rfl
def f_X11_behind_141  (s0 : Int32) (h : am_H) : am_R := m_ri h s0
theorem t_X11_behind_141 (d : Nat) (hd : 2 ≤ d)  (s0 : Int32) (h : am_H) : Sim m_X11_behind d 141 [none, none] [.inl s0] h (f_X11_behind_141  s0 h) := by
  unfold f_X11_behind_141
  exact sim_iret dX11_behind_141 rfl
def f_X11_behind_124  (s0 : Int32) (h : am_H) : am_R := m_ri h s0
theorem t_X11_behind_124 (d : Nat) (hd : 2 ≤ d)  (s0 : Int32) (h : am_H) : Sim m_X11_behind d 124 [none, none] [.inl s0] h (f_X11_behind_124  s0 h) := by
  unfold f_X11_behind_124
  exact sim_iret dX11_behind_124 rfl
def f_X11_behind_109   (h : am_H) : am_R := f_X11_behind_124 (0 : Int32) h
theorem t_X11_behind_109 (d : Nat) (hd : 2 ≤ d)   (h : am_H) : Sim m_X11_behind d 109 [none, none] [] h (f_X11_behind_109   h) := by
  unfold f_X11_behind_109
  refine sim_iconst (0) dX11_behind_109 (by decide +kernel) ?_
  refine sim_goto 124 dX11_behind_110 (by decide) ?_
  exact sim_lv (am_leN (am_leN am_leT)) (t_X11_behind_124 d (by omega) _ _)
def f_X11_behind_96  (s0 : Int32) (h : am_H) : am_R := m_ri h s0
theorem t_X11_behind_96 (d : Nat) (hd : 2 ≤ d)  (s0 : Int32) (h : am_H) : Sim m_X11_behind d 96 [none, none] [.inl s0] h (f_X11_behind_96  s0 h) := by
  unfold f_X11_behind_96
  exact sim_iret dX11_behind_96 rfl
def f_X11_behind_60   (h : am_H) : am_R := f_X11_behind_96 (0 : Int32) h
theorem t_X11_behind_60 (d : Nat) (hd : 2 ≤ d)   (h : am_H) : Sim m_X11_behind d 60 [none, none] [] h (f_X11_behind_60   h) := by
  unfold f_X11_behind_60
  refine sim_iconst (0) dX11_behind_60 (by decide +kernel) ?_
  refine sim_goto 96 dX11_behind_61 (by decide) ?_
  exact sim_lv (am_leN (am_leN am_leT)) (t_X11_behind_96 d (by omega) _ _)
def f_X11_behind (x0 : Int32) (x1 : Int32) (h : am_H) : am_R := if x0 = 0 then (if x1 = (33 : Int32) then (f_X11_behind_60 h) else (if x1 = (40 : Int32) then (f_X11_behind_60 h) else (if x1 = (116 : Int32) then (f_X11_behind_96 (2 : Int32) h) else (if x1 = (97 : Int32) then (f_X11_behind_96 (4 : Int32) h) else (if x1 = (114 : Int32) then (f_X11_behind_96 (7 : Int32) h) else (f_X11_behind_96 (-1 : Int32) h)))))) else if x0 = 1 then (if x1 = (38 : Int32) then (f_X11_behind_109 h) else (if x1 = (124 : Int32) then (f_X11_behind_109 h) else (if x1 = (41 : Int32) then (f_X11_behind_124 (1 : Int32) h) else (f_X11_behind_124 (-1 : Int32) h)))) else if x0 = 2 then (m_bI (f_X11_in x1 (48 : Int32) (50 : Int32) h) fun h1 v2 => if v2 = 0 then (f_X11_behind_141 (-1 : Int32) h1) else (f_X11_behind_141 (3 : Int32) h1)) else if x0 = 3 then (f_X11_behind_199 x1 h) else if x0 = 4 then (if x1 = (48 : Int32) then (f_X11_behind_164 (5 : Int32) h) else (if x1 = (49 : Int32) then (f_X11_behind_164 (6 : Int32) h) else (f_X11_behind_164 (-1 : Int32) h))) else if x0 = 5 then (f_X11_behind_199 x1 h) else if x0 = 6 then (m_bI (f_X11_in x1 (48 : Int32) (49 : Int32) h) fun h3 v4 => if v4 = 0 then (f_X11_behind_181 (-1 : Int32) h3) else (f_X11_behind_181 (1 : Int32) h3)) else if x0 = 7 then (m_bI (f_X11_in x1 (48 : Int32) (51 : Int32) h) fun h5 v6 => if v6 = 0 then (f_X11_behind_198 (-1 : Int32) h5) else (f_X11_behind_198 (1 : Int32) h5)) else (f_X11_behind_199 x1 h)
theorem k_X11_behind (d : Nat) (hd : 2 ≤ d) (x0 : Int32) (x1 : Int32) (h : am_H) : am_Con m_X11_behind d [.inl x0, .inl x1] h (f_X11_behind x0 x1 h) := am_con (by decide +kernel) (Nat.le_of_ble_eq_true rfl) (by
  unfold f_X11_behind
  refine sim_iload_n dX11_behind_0 rfl ?_
  refine sim_case (fun c1_0 => ?_) (fun c1_0 => ?_)
  · refine sim_tableIn (off := 47) (0) 48 c1_0 dX11_behind_1 (by decide +kernel) (by decide +kernel) (by decide +kernel) (by decide) ?_
    refine sim_iload_n dX11_behind_48 rfl ?_
    refine sim_bipush (33) dX11_behind_49 (by decide +kernel) ?_
    refine sim_ic_eq 60 dX11_behind_51 (by decide) (fun c => ?_) (fun c => ?_)
    · exact sim_lv (am_leN (am_leN am_leT)) (t_X11_behind_60 d (by omega) _)
    · refine sim_iload_n dX11_behind_54 rfl ?_
      refine sim_bipush (40) dX11_behind_55 (by decide +kernel) ?_
      refine sim_ic_ne 64 dX11_behind_57 (by decide) (fun c => ?_) (fun c => ?_)
      · refine sim_iload_n dX11_behind_64 rfl ?_
        refine sim_bipush (116) dX11_behind_65 (by decide +kernel) ?_
        refine sim_ic_ne 74 dX11_behind_67 (by decide) (fun c => ?_) (fun c => ?_)
        · refine sim_iload_n dX11_behind_74 rfl ?_
          refine sim_bipush (97) dX11_behind_75 (by decide +kernel) ?_
          refine sim_ic_ne 84 dX11_behind_77 (by decide) (fun c => ?_) (fun c => ?_)
          · refine sim_iload_n dX11_behind_84 rfl ?_
            refine sim_bipush (114) dX11_behind_85 (by decide +kernel) ?_
            refine sim_ic_ne 95 dX11_behind_87 (by decide) (fun c => ?_) (fun c => ?_)
            · refine sim_iconst (-1) dX11_behind_95 (by decide +kernel) ?_
              exact sim_lv (am_leN (am_leN am_leT)) (t_X11_behind_96 d (by omega) _ _)
            · refine sim_bipush (7) dX11_behind_90 (by decide +kernel) ?_
              refine sim_goto 96 dX11_behind_92 (by decide) ?_
              exact sim_lv (am_leN (am_leN am_leT)) (t_X11_behind_96 d (by omega) _ _)
          · refine sim_iconst (4) dX11_behind_80 (by decide +kernel) ?_
            refine sim_goto 96 dX11_behind_81 (by decide) ?_
            exact sim_lv (am_leN (am_leN am_leT)) (t_X11_behind_96 d (by omega) _ _)
        · refine sim_iconst (2) dX11_behind_70 (by decide +kernel) ?_
          refine sim_goto 96 dX11_behind_71 (by decide) ?_
          exact sim_lv (am_leN (am_leN am_leT)) (t_X11_behind_96 d (by omega) _ _)
      · exact sim_lv (am_leN (am_leN am_leT)) (t_X11_behind_60 d (by omega) _)
  refine sim_case (fun c1_1 => ?_) (fun c1_1 => ?_)
  · refine sim_tableIn (off := 96) (1) 97 c1_1 dX11_behind_1 (by decide +kernel) (by decide +kernel) (by decide +kernel) (by decide) ?_
    refine sim_iload_n dX11_behind_97 rfl ?_
    refine sim_bipush (38) dX11_behind_98 (by decide +kernel) ?_
    refine sim_ic_eq 109 dX11_behind_100 (by decide) (fun c => ?_) (fun c => ?_)
    · exact sim_lv (am_leN (am_leN am_leT)) (t_X11_behind_109 d (by omega) _)
    · refine sim_iload_n dX11_behind_103 rfl ?_
      refine sim_bipush (124) dX11_behind_104 (by decide +kernel) ?_
      refine sim_ic_ne 113 dX11_behind_106 (by decide) (fun c => ?_) (fun c => ?_)
      · refine sim_iload_n dX11_behind_113 rfl ?_
        refine sim_bipush (41) dX11_behind_114 (by decide +kernel) ?_
        refine sim_ic_ne 123 dX11_behind_116 (by decide) (fun c => ?_) (fun c => ?_)
        · refine sim_iconst (-1) dX11_behind_123 (by decide +kernel) ?_
          exact sim_lv (am_leN (am_leN am_leT)) (t_X11_behind_124 d (by omega) _ _)
        · refine sim_iconst (1) dX11_behind_119 (by decide +kernel) ?_
          refine sim_goto 124 dX11_behind_120 (by decide) ?_
          exact sim_lv (am_leN (am_leN am_leT)) (t_X11_behind_124 d (by omega) _ _)
      · exact sim_lv (am_leN (am_leN am_leT)) (t_X11_behind_109 d (by omega) _)
  refine sim_case (fun c1_2 => ?_) (fun c1_2 => ?_)
  · refine sim_tableIn (off := 124) (2) 125 c1_2 dX11_behind_1 (by decide +kernel) (by decide +kernel) (by decide +kernel) (by decide) ?_
    refine sim_iload_n dX11_behind_125 rfl ?_
    refine sim_bipush (48) dX11_behind_126 (by decide +kernel) ?_
    refine sim_bipush (50) dX11_behind_128 (by decide +kernel) ?_
    refine sim_static (d - 1) dX11_behind_130 (k_X11_in (d - 1) (by omega) _ _ _ _) q_X11_in wm_RX11_129 rfl rfl (by omega) (Nat.le_of_ble_eq_true rfl) am_nI (am_rI fun h1 v2 => ?_) am_eI
    refine sim_if_eq 140 dX11_behind_133 (by decide) (fun c => ?_) (fun c => ?_)
    · refine sim_iconst (-1) dX11_behind_140 (by decide +kernel) ?_
      exact sim_lv (am_leN (am_leN am_leT)) (t_X11_behind_141 d (by omega) _ _)
    · refine sim_iconst (3) dX11_behind_136 (by decide +kernel) ?_
      refine sim_goto 141 dX11_behind_137 (by decide) ?_
      exact sim_lv (am_leN (am_leN am_leT)) (t_X11_behind_141 d (by omega) _ _)
  refine sim_case (fun c1_3 => ?_) (fun c1_3 => ?_)
  · refine sim_tableIn (off := 198) (3) 199 c1_3 dX11_behind_1 (by decide +kernel) (by decide +kernel) (by decide +kernel) (by decide) ?_
    exact sim_lv (am_leN (am_leS am_leT)) (t_X11_behind_199 d (by omega) _ _)
  refine sim_case (fun c1_4 => ?_) (fun c1_4 => ?_)
  · refine sim_tableIn (off := 141) (4) 142 c1_4 dX11_behind_1 (by decide +kernel) (by decide +kernel) (by decide +kernel) (by decide) ?_
    refine sim_iload_n dX11_behind_142 rfl ?_
    refine sim_bipush (48) dX11_behind_143 (by decide +kernel) ?_
    refine sim_ic_ne 152 dX11_behind_145 (by decide) (fun c => ?_) (fun c => ?_)
    · refine sim_iload_n dX11_behind_152 rfl ?_
      refine sim_bipush (49) dX11_behind_153 (by decide +kernel) ?_
      refine sim_ic_ne 163 dX11_behind_155 (by decide) (fun c => ?_) (fun c => ?_)
      · refine sim_iconst (-1) dX11_behind_163 (by decide +kernel) ?_
        exact sim_lv (am_leN (am_leN am_leT)) (t_X11_behind_164 d (by omega) _ _)
      · refine sim_bipush (6) dX11_behind_158 (by decide +kernel) ?_
        refine sim_goto 164 dX11_behind_160 (by decide) ?_
        exact sim_lv (am_leN (am_leN am_leT)) (t_X11_behind_164 d (by omega) _ _)
    · refine sim_iconst (5) dX11_behind_148 (by decide +kernel) ?_
      refine sim_goto 164 dX11_behind_149 (by decide) ?_
      exact sim_lv (am_leN (am_leN am_leT)) (t_X11_behind_164 d (by omega) _ _)
  refine sim_case (fun c1_5 => ?_) (fun c1_5 => ?_)
  · refine sim_tableIn (off := 198) (5) 199 c1_5 dX11_behind_1 (by decide +kernel) (by decide +kernel) (by decide +kernel) (by decide) ?_
    exact sim_lv (am_leN (am_leS am_leT)) (t_X11_behind_199 d (by omega) _ _)
  refine sim_case (fun c1_6 => ?_) (fun c1_6 => ?_)
  · refine sim_tableIn (off := 164) (6) 165 c1_6 dX11_behind_1 (by decide +kernel) (by decide +kernel) (by decide +kernel) (by decide) ?_
    refine sim_iload_n dX11_behind_165 rfl ?_
    refine sim_bipush (48) dX11_behind_166 (by decide +kernel) ?_
    refine sim_bipush (49) dX11_behind_168 (by decide +kernel) ?_
    refine sim_static (d - 1) dX11_behind_170 (k_X11_in (d - 1) (by omega) _ _ _ _) q_X11_in wm_RX11_129 rfl rfl (by omega) (Nat.le_of_ble_eq_true rfl) am_nI (am_rI fun h3 v4 => ?_) am_eI
    refine sim_if_eq 180 dX11_behind_173 (by decide) (fun c => ?_) (fun c => ?_)
    · refine sim_iconst (-1) dX11_behind_180 (by decide +kernel) ?_
      exact sim_lv (am_leN (am_leN am_leT)) (t_X11_behind_181 d (by omega) _ _)
    · refine sim_iconst (1) dX11_behind_176 (by decide +kernel) ?_
      refine sim_goto 181 dX11_behind_177 (by decide) ?_
      exact sim_lv (am_leN (am_leN am_leT)) (t_X11_behind_181 d (by omega) _ _)
  refine sim_case (fun c1_7 => ?_) (fun c1_7 => ?_)
  · refine sim_tableIn (off := 181) (7) 182 c1_7 dX11_behind_1 (by decide +kernel) (by decide +kernel) (by decide +kernel) (by decide) ?_
    refine sim_iload_n dX11_behind_182 rfl ?_
    refine sim_bipush (48) dX11_behind_183 (by decide +kernel) ?_
    refine sim_bipush (51) dX11_behind_185 (by decide +kernel) ?_
    refine sim_static (d - 1) dX11_behind_187 (k_X11_in (d - 1) (by omega) _ _ _ _) q_X11_in wm_RX11_129 rfl rfl (by omega) (Nat.le_of_ble_eq_true rfl) am_nI (am_rI fun h5 v6 => ?_) am_eI
    refine sim_if_eq 197 dX11_behind_190 (by decide) (fun c => ?_) (fun c => ?_)
    · refine sim_iconst (-1) dX11_behind_197 (by decide +kernel) ?_
      exact sim_lv (am_leN (am_leN am_leT)) (t_X11_behind_198 d (by omega) _ _)
    · refine sim_iconst (1) dX11_behind_193 (by decide +kernel) ?_
      refine sim_goto 198 dX11_behind_194 (by decide) ?_
      exact sim_lv (am_leN (am_leN am_leT)) (t_X11_behind_198 d (by omega) _ _)
  refine sim_tableOut 199 dX11_behind_1 ((am_out (N := 8) (by decide) (lt_s (lt_s (lt_s (lt_s (lt_s (lt_s (lt_s (lt_s lt_0 c1_0) c1_1) c1_2) c1_3) c1_4) c1_5) c1_6) c1_7)).imp id (fun z => by omega)) (by decide) ?_
  exact sim_lv (am_leN (am_leS am_leT)) (t_X11_behind_199 d (by omega) _ _))
theorem q_X11_behind : am_Cal m_X11_behind 2 0 := ⟨am_mem 1420 (w := Cond.code yX11_behind cX11_behind 2 (some .int)) (by decide +kernel) rfl, am_mem 64 (w := Cond.initialized RX11) (by decide +kernel) rfl, fun _ => am_mem 1419 (w := Cond.static yX11_behind) (by decide +kernel) rfl, fun z => absurd rfl z, fun z => absurd z (by decide), fun z => absurd z (by decide), by decide +kernel, by decide +kernel, Nat.le_of_ble_eq_true rfl⟩
abbrev m_X11_faultOf : am_M := (yX11_faultOf, cX11_faultOf, 4, some .int, [])
def f_X11_faultOf_93  (s0 : Int32) (h : am_H) : am_R := m_ri h s0
theorem t_X11_faultOf_93 (d : Nat) (hd : 3 ≤ d)  (s0 : Int32) (h : am_H) : Sim m_X11_faultOf d 93 [none, none, none, none] [.inl s0] h (f_X11_faultOf_93  s0 h) := by
  unfold f_X11_faultOf_93
  exact sim_iret dX11_faultOf_93 rfl
def f_X11_faultOf_89  (a0 : Nat × Nat) (h : am_H) : am_R := m_gI (some a0) 11 24 h fun v10 => f_X11_faultOf_93 v10 h
theorem t_X11_faultOf_89 (d : Nat) (hd : 3 ≤ d)  (a0 : Nat × Nat) (h : am_H) : Sim m_X11_faultOf d 89 [some (.inr (.inr (some a0))), none, none, none] [] h (f_X11_faultOf_89  a0 h) := by
  unfold f_X11_faultOf_89
  refine sim_aload_n dX11_faultOf_89 rfl ?_
  refine sim_gI 11 24 dX11_faultOf_90 rfl wf_RX11_202 (Nat.le_of_ble_eq_true rfl) rfl (fun v10 => ?_)
  exact sim_lv (am_leN (am_leN (am_leN (am_leN am_leT)))) (t_X11_faultOf_93 d (by omega) _ _)
def f_X11_faultOf_68  (x3 : Int32) (h : am_H) : am_R := m_ri h x3
theorem t_X11_faultOf_68 (d : Nat) (hd : 3 ≤ d)  (x3 : Int32) (h : am_H) : Sim m_X11_faultOf d 68 [none, none, none, some (.inl x3)] [] h (f_X11_faultOf_68  x3 h) := by
  unfold f_X11_faultOf_68
  refine sim_iload_n dX11_faultOf_68 rfl ?_
  exact sim_iret dX11_faultOf_69 rfl
def f_X11_faultOf_57 (rc6 : Nat × Nat → Int32 → Int32 → Int32 → am_H → am_R) (a0 : Nat × Nat) (x1 : Int32) (x3 : Int32) (s0 : Int32) (s1 : Int32) (h : am_H) : am_R := if x1 = (-1 : Int32) then (f_X11_faultOf_68 x3 h) else (if 0 ≤ (s1 + s0) then (rc6 a0 x1 (s1 + s0) (x3 + 1) h) else (f_X11_faultOf_68 x3 h))
theorem t_X11_faultOf_57 (d : Nat) (hd : 3 ≤ d) (rc6 : Nat × Nat → Int32 → Int32 → Int32 → am_H → am_R) (hrc6 : ∀ a0 x1 x2 x3 h, Sim m_X11_faultOf d 6 [some (.inr (.inr (some a0))), some (.inl x1), some (.inl x2), some (.inl x3)] [] h (rc6 a0 x1 x2 x3 h)) (a0 : Nat × Nat) (x1 : Int32) (x3 : Int32) (s0 : Int32) (s1 : Int32) (h : am_H) : Sim m_X11_faultOf d 57 [some (.inr (.inr (some a0))), some (.inl x1), none, some (.inl x3)] [.inl s0, .inl s1] h (f_X11_faultOf_57 rc6 a0 x1 x3 s0 s1 h) := by
  unfold f_X11_faultOf_57
  refine sim_iadd dX11_faultOf_57 ?_
  refine sim_istore_n dX11_faultOf_58 (Nat.le_of_ble_eq_true rfl) ?_
  refine sim_iload_n dX11_faultOf_59 rfl ?_
  refine sim_iconst (-1) dX11_faultOf_60 (by decide +kernel) ?_
  refine sim_ic_eq 68 dX11_faultOf_61 (by decide) (fun c => ?_) (fun c => ?_)
  · exact sim_lv (am_leN (am_leN (am_leN (am_leS am_leT)))) (t_X11_faultOf_68 d (by omega) _ _)
  · refine sim_iload_n dX11_faultOf_64 rfl ?_
    refine sim_if_ge 70 dX11_faultOf_65 (by decide) (fun c => ?_) (fun c => ?_)
    · refine sim_iinc (1) dX11_faultOf_70 rfl (by decide +kernel) (Nat.le_of_ble_eq_true rfl) ?_
      refine sim_goto 6 dX11_faultOf_73 (by decide) ?_
      exact sim_lv (am_leS (am_leS (am_leS (am_leS am_leT)))) (hrc6 _ _ _ _ _)
    · exact sim_lv (am_leN (am_leN (am_leN (am_leS am_leT)))) (t_X11_faultOf_68 d (by omega) _ _)
def f_X11_faultOf_6  : Nat → Nat × Nat → Int32 → Int32 → Int32 → am_H → am_R
  | 0, _, _, _, _, _ => none
  | n + 1, a0, x1, x2, x3, h => m_gI (some a0) 11 24 h fun v1 => if v1 ≤ x3 then (if x1 = (1 : Int32) then (if x2 = 0 then (f_X11_faultOf_93 (-1 : Int32) h) else (f_X11_faultOf_89 a0 h)) else (f_X11_faultOf_89 a0 h)) else (m_gR (some a0) 11 25 h fun o2 => m_aI o2 0 x3 h fun v3 => m_bI (f_X11_behind x1 v3 h) fun h4 v5 => m_gR (some a0) 11 25 h4 fun o6 => m_aI o6 0 x3 h4 fun v7 => if v7 = (40 : Int32) then (f_X11_faultOf_57 (f_X11_faultOf_6  n) a0 v5 x3 (1 : Int32) x2 h4) else (m_gR (some a0) 11 25 h4 fun o8 => m_aI o8 0 x3 h4 fun v9 => if v9 = (41 : Int32) then (f_X11_faultOf_57 (f_X11_faultOf_6  n) a0 v5 x3 (-1 : Int32) x2 h4) else (f_X11_faultOf_57 (f_X11_faultOf_6  n) a0 v5 x3 (0 : Int32) x2 h4)))
theorem t_X11_faultOf_6 (d : Nat) (hd : 3 ≤ d)  : ∀ (n : Nat) (a0 : Nat × Nat) (x1 : Int32) (x2 : Int32) (x3 : Int32) (h : am_H), Sim m_X11_faultOf d 6 [some (.inr (.inr (some a0))), some (.inl x1), some (.inl x2), some (.inl x3)] [] h (f_X11_faultOf_6  n a0 x1 x2 x3 h) := by
  intro n
  induction n with
  | zero => intros; exact sim_none
  | succ n hrc6 =>
    intro a0 x1 x2 x3 h
    rw [f_X11_faultOf_6]
    refine sim_iload_n dX11_faultOf_6 rfl ?_
    refine sim_aload_n dX11_faultOf_7 rfl ?_
    refine sim_gI 11 24 dX11_faultOf_8 rfl wf_RX11_202 (Nat.le_of_ble_eq_true rfl) rfl (fun v1 => ?_)
    refine sim_ic_ge 76 dX11_faultOf_11 (by decide) (fun c => ?_) (fun c => ?_)
    · refine sim_iload_n dX11_faultOf_76 rfl ?_
      refine sim_iconst (1) dX11_faultOf_77 (by decide +kernel) ?_
      refine sim_ic_ne 89 dX11_faultOf_78 (by decide) (fun c => ?_) (fun c => ?_)
      · exact sim_lv (am_leS (am_leN (am_leN (am_leN am_leT)))) (t_X11_faultOf_89 d (by omega) _ _)
      · refine sim_iload_n dX11_faultOf_81 rfl ?_
        refine sim_if_ne 89 dX11_faultOf_82 (by decide) (fun c => ?_) (fun c => ?_)
        · exact sim_lv (am_leS (am_leN (am_leN (am_leN am_leT)))) (t_X11_faultOf_89 d (by omega) _ _)
        · refine sim_iconst (-1) dX11_faultOf_85 (by decide +kernel) ?_
          refine sim_goto 93 dX11_faultOf_86 (by decide) ?_
          exact sim_lv (am_leN (am_leN (am_leN (am_leN am_leT)))) (t_X11_faultOf_93 d (by omega) _ _)
    · refine sim_iload_n dX11_faultOf_14 rfl ?_
      refine sim_aload_n dX11_faultOf_15 rfl ?_
      refine sim_gR 11 25 dX11_faultOf_16 rfl wf_RX11_68 (Nat.le_of_ble_eq_true rfl) rfl (fun o2 => ?_)
      refine sim_iload_n dX11_faultOf_19 rfl ?_
      refine sim_aI dX11_faultOf_20 (fun v3 => ?_)
      refine sim_static (d - 1) dX11_faultOf_21 (k_X11_behind (d - 1) (by omega) _ _ _) q_X11_behind wm_RX11_205 rfl rfl (by omega) (Nat.le_of_ble_eq_true rfl) am_nI (am_rI fun h4 v5 => ?_) am_eI
      refine sim_istore_n dX11_faultOf_24 (Nat.le_of_ble_eq_true rfl) ?_
      refine sim_iload_n dX11_faultOf_25 rfl ?_
      refine sim_aload_n dX11_faultOf_26 rfl ?_
      refine sim_gR 11 25 dX11_faultOf_27 rfl wf_RX11_68 (Nat.le_of_ble_eq_true rfl) rfl (fun o6 => ?_)
      refine sim_iload_n dX11_faultOf_30 rfl ?_
      refine sim_aI dX11_faultOf_31 (fun v7 => ?_)
      refine sim_bipush (40) dX11_faultOf_32 (by decide +kernel) ?_
      refine sim_ic_ne 41 dX11_faultOf_34 (by decide) (fun c => ?_) (fun c => ?_)
      · refine sim_aload_n dX11_faultOf_41 rfl ?_
        refine sim_gR 11 25 dX11_faultOf_42 rfl wf_RX11_68 (Nat.le_of_ble_eq_true rfl) rfl (fun o8 => ?_)
        refine sim_iload_n dX11_faultOf_45 rfl ?_
        refine sim_aI dX11_faultOf_46 (fun v9 => ?_)
        refine sim_bipush (41) dX11_faultOf_47 (by decide +kernel) ?_
        refine sim_ic_ne 56 dX11_faultOf_49 (by decide) (fun c => ?_) (fun c => ?_)
        · refine sim_iconst (0) dX11_faultOf_56 (by decide +kernel) ?_
          exact sim_lv (am_leS (am_leS (am_leN (am_leS am_leT)))) (t_X11_faultOf_57 d (by omega) _ hrc6 _ _ _ _ _ _)
        · refine sim_iconst (-1) dX11_faultOf_52 (by decide +kernel) ?_
          refine sim_goto 57 dX11_faultOf_53 (by decide) ?_
          exact sim_lv (am_leS (am_leS (am_leN (am_leS am_leT)))) (t_X11_faultOf_57 d (by omega) _ hrc6 _ _ _ _ _ _)
      · refine sim_iconst (1) dX11_faultOf_37 (by decide +kernel) ?_
        refine sim_goto 57 dX11_faultOf_38 (by decide) ?_
        exact sim_lv (am_leS (am_leS (am_leN (am_leS am_leT)))) (t_X11_faultOf_57 d (by omega) _ hrc6 _ _ _ _ _ _)
def f_X11_faultOf (a0 : Nat × Nat) (h : am_H) : am_R := f_X11_faultOf_6 5000 a0 (0 : Int32) (0 : Int32) (0 : Int32) h
theorem k_X11_faultOf (d : Nat) (hd : 3 ≤ d) (a0 : Nat × Nat) (h : am_H) : am_Con m_X11_faultOf d [.inr (.inr (some a0))] h (f_X11_faultOf a0 h) := am_con (by decide +kernel) (Nat.le_of_ble_eq_true rfl) (by
  unfold f_X11_faultOf
  refine sim_iconst (0) dX11_faultOf_0 (by decide +kernel) ?_
  refine sim_istore_n dX11_faultOf_1 (Nat.le_of_ble_eq_true rfl) ?_
  refine sim_iconst (0) dX11_faultOf_2 (by decide +kernel) ?_
  refine sim_istore_n dX11_faultOf_3 (Nat.le_of_ble_eq_true rfl) ?_
  refine sim_iconst (0) dX11_faultOf_4 (by decide +kernel) ?_
  refine sim_istore_n dX11_faultOf_5 (Nat.le_of_ble_eq_true rfl) ?_
  exact sim_lv (am_leS (am_leS (am_leS (am_leS am_leT)))) (t_X11_faultOf_6 d (by omega) _ _ _ _ _ _))
theorem q_X11_faultOf : am_Cal m_X11_faultOf 0 2 := ⟨am_mem 1417 (w := Cond.code yX11_faultOf cX11_faultOf 4 (some .int)) (by decide +kernel) rfl, am_mem 64 (w := Cond.initialized RX11) (by decide +kernel) rfl, fun z => absurd z (by decide), fun _ => am_mem 1416 (w := Cond.instanceMethod yX11_faultOf) (by decide +kernel) rfl, fun z => absurd z (by decide), fun _ => am_mem 40 (w := Cond.selects RX11 yX11_faultOf yX11_faultOf) (by decide +kernel) rfl, by decide +kernel, by decide +kernel, Nat.le_of_ble_eq_true rfl⟩
abbrev m_X11_fault : am_M := (yX11_fault, cX11_fault, 1, some .int, [])
def f_X11_fault (a0 : Nat × Nat) (h : am_H) : am_R := m_pI (some a0) 11 0 (0 : Int32) h fun h1 => m_ao (some a0) 11 fun a4 => m_bI (f_X11_faultOf a4 h1) fun h2 v3 => m_ri h2 v3
theorem k_X11_fault (d : Nat) (hd : 4 ≤ d) (a0 : Nat × Nat) (h : am_H) : am_Con m_X11_fault d [.inr (.inr (some a0))] h (f_X11_fault a0 h) := am_con (by decide +kernel) (Nat.le_of_ble_eq_true rfl) (by
  unfold f_X11_fault
  refine sim_aload_n dX11_fault_0 rfl ?_
  refine sim_iconst (0) dX11_fault_1 (by decide +kernel) ?_
  refine sim_pI 11 0 dX11_fault_2 rfl wf_RX11_125 (Nat.le_of_ble_eq_true rfl) rfl (Or.inl rfl) rfl (fun h1 => ?_)
  refine sim_aload_n dX11_fault_5 rfl ?_
  refine sim_ao0 (fun a4 e => ?_)
  refine sim_virt (d - 1) e dX11_fault_6 (k_X11_faultOf (d - 1) (by omega) _  _) q_X11_faultOf rfl rfl wm_RX11_209 rfl rfl (by omega) (Nat.le_of_ble_eq_true rfl) am_nI (am_rI fun h2 v3 => ?_) am_eI
  exact sim_iret dX11_fault_9 rfl)
theorem q_X11_fault : am_Cal m_X11_fault 0 2 := ⟨am_mem 1413 (w := Cond.code yX11_fault cX11_fault 1 (some .int)) (by decide +kernel) rfl, am_mem 64 (w := Cond.initialized RX11) (by decide +kernel) rfl, fun z => absurd z (by decide), fun _ => am_mem 1411 (w := Cond.instanceMethod yX11_fault) (by decide +kernel) rfl, fun z => absurd z (by decide), fun _ => am_mem 1412 (w := Cond.selects RX11 yX11_fault yX11_fault) (by decide +kernel) rfl, by decide +kernel, by decide +kernel, Nat.le_of_ble_eq_true rfl⟩
