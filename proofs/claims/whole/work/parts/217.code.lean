abbrev m_X11_sign : am_M := (yX11_sign, cX11_sign, 9, some .int, [])
def f_X11_sign_121  (a0 : Nat × Nat) (x1 : Int32) (x2 : Int32) (x3 : Int32) (x4 : Int32) (s0 : Int32) (s1 : Option (Nat × Nat)) (h : am_H) : am_R := m_ao s1 11 fun a11 => m_bI (f_X11_holds a11 s0 h) fun h9 v10 => if v10 = 0 then (m_ri h9 (0 : Int32)) else (m_gR (some a0) 11 31 h9 fun o12 => m_gI (some a0) 11 30 h9 fun v13 => m_sI o12 v13 x1 h9 fun h14 => m_gR (some a0) 11 32 h14 fun o15 => m_gI (some a0) 11 30 h14 fun v16 => m_sI o15 v16 x2 h14 fun h17 => m_gR (some a0) 11 33 h17 fun o18 => m_gI (some a0) 11 30 h17 fun v19 => m_sI o18 v19 x3 h17 fun h20 => m_gR (some a0) 11 34 h20 fun o21 => m_gI (some a0) 11 30 h20 fun v22 => m_sI o21 v22 x4 h20 fun h23 => m_gI (some a0) 11 30 h23 fun v24 => m_pI (some a0) 11 30 (v24 + (1 : Int32)) h23 fun h25 => m_gI (some a0) 11 30 h25 fun v26 => m_ri h25 (v26 - (1 : Int32)))
theorem t_X11_sign_121 (d : Nat) (hd : 2 ≤ d)  (a0 : Nat × Nat) (x1 : Int32) (x2 : Int32) (x3 : Int32) (x4 : Int32) (s0 : Int32) (s1 : Option (Nat × Nat)) (h : am_H) : Sim m_X11_sign d 121 [some (.inr (.inr (some a0))), some (.inl x1), some (.inl x2), some (.inl x3), some (.inl x4), none, none, none, none] [.inl s0, .inr (.inr s1)] h (f_X11_sign_121  a0 x1 x2 x3 x4 s0 s1 h) := by
  unfold f_X11_sign_121
  refine sim_ao1 (fun a11 e => ?_)
  refine sim_virt (d - 1) e dX11_sign_121 (k_X11_holds (d - 1) (by omega) _ _ _) q_X11_holds rfl rfl wm_RX11_142 rfl rfl (by omega) (Nat.le_of_ble_eq_true rfl) am_nI (am_rI fun h9 v10 => ?_) am_eI
  refine sim_if_ne 129 dX11_sign_124 (by decide) (fun c => ?_) (fun c => ?_)
  · refine sim_aload_n dX11_sign_129 rfl ?_
    refine sim_gR 11 31 dX11_sign_130 rfl wf_RX11_80 (Nat.le_of_ble_eq_true rfl) rfl (fun o12 => ?_)
    refine sim_aload_n dX11_sign_133 rfl ?_
    refine sim_gI 11 30 dX11_sign_134 rfl wf_RX11_239 (Nat.le_of_ble_eq_true rfl) rfl (fun v13 => ?_)
    refine sim_iload_n dX11_sign_137 rfl ?_
    refine sim_sI dX11_sign_138 (fun h14 => ?_)
    refine sim_aload_n dX11_sign_139 rfl ?_
    refine sim_gR 11 32 dX11_sign_140 rfl wf_RX11_83 (Nat.le_of_ble_eq_true rfl) rfl (fun o15 => ?_)
    refine sim_aload_n dX11_sign_143 rfl ?_
    refine sim_gI 11 30 dX11_sign_144 rfl wf_RX11_239 (Nat.le_of_ble_eq_true rfl) rfl (fun v16 => ?_)
    refine sim_iload_n dX11_sign_147 rfl ?_
    refine sim_sI dX11_sign_148 (fun h17 => ?_)
    refine sim_aload_n dX11_sign_149 rfl ?_
    refine sim_gR 11 33 dX11_sign_150 rfl wf_RX11_86 (Nat.le_of_ble_eq_true rfl) rfl (fun o18 => ?_)
    refine sim_aload_n dX11_sign_153 rfl ?_
    refine sim_gI 11 30 dX11_sign_154 rfl wf_RX11_239 (Nat.le_of_ble_eq_true rfl) rfl (fun v19 => ?_)
    refine sim_iload_n dX11_sign_157 rfl ?_
    refine sim_sI dX11_sign_158 (fun h20 => ?_)
    refine sim_aload_n dX11_sign_159 rfl ?_
    refine sim_gR 11 34 dX11_sign_160 rfl wf_RX11_89 (Nat.le_of_ble_eq_true rfl) rfl (fun o21 => ?_)
    refine sim_aload_n dX11_sign_163 rfl ?_
    refine sim_gI 11 30 dX11_sign_164 rfl wf_RX11_239 (Nat.le_of_ble_eq_true rfl) rfl (fun v22 => ?_)
    refine sim_iload dX11_sign_167 rfl ?_
    refine sim_sI dX11_sign_169 (fun h23 => ?_)
    refine sim_aload_n dX11_sign_170 rfl ?_
    refine sim_dup_r dX11_sign_171 ?_
    refine sim_gI 11 30 dX11_sign_172 rfl wf_RX11_239 (Nat.le_of_ble_eq_true rfl) rfl (fun v24 => ?_)
    refine sim_iconst (1) dX11_sign_175 (by decide +kernel) ?_
    refine sim_iadd dX11_sign_176 ?_
    refine sim_pI 11 30 dX11_sign_177 rfl wf_RX11_239 (Nat.le_of_ble_eq_true rfl) rfl (Or.inl rfl) rfl (fun h25 => ?_)
    refine sim_aload_n dX11_sign_180 rfl ?_
    refine sim_gI 11 30 dX11_sign_181 rfl wf_RX11_239 (Nat.le_of_ble_eq_true rfl) rfl (fun v26 => ?_)
    refine sim_iconst (1) dX11_sign_184 (by decide +kernel) ?_
    refine sim_isub dX11_sign_185 ?_
    exact sim_iret dX11_sign_186 rfl
  · refine sim_iconst (0) dX11_sign_127 (by decide +kernel) ?_
    exact sim_iret dX11_sign_128 rfl
def f_X11_sign_116  (a0 : Nat × Nat) (x1 : Int32) (x2 : Int32) (x3 : Int32) (x4 : Int32) (s0 : Option (Nat × Nat)) (h : am_H) : am_R := f_X11_sign_121 a0 x1 x2 x3 x4 (3 : Int32) s0 h
theorem t_X11_sign_116 (d : Nat) (hd : 2 ≤ d)  (a0 : Nat × Nat) (x1 : Int32) (x2 : Int32) (x3 : Int32) (x4 : Int32) (s0 : Option (Nat × Nat)) (h : am_H) : Sim m_X11_sign d 116 [some (.inr (.inr (some a0))), some (.inl x1), some (.inl x2), some (.inl x3), some (.inl x4), none, none, none, none] [.inr (.inr s0)] h (f_X11_sign_116  a0 x1 x2 x3 x4 s0 h) := by
  unfold f_X11_sign_116
  refine sim_iconst (3) dX11_sign_116 (by decide +kernel) ?_
  refine sim_goto 121 dX11_sign_117 (by decide) ?_
  exact sim_lv (am_leS (am_leS (am_leS (am_leS (am_leS (am_leN (am_leN (am_leN (am_leN am_leT))))))))) (t_X11_sign_121 d (by omega) _ _ _ _ _ _ _ _)
def f_X11_sign_75 (rc45 : Nat × Nat → Int32 → Int32 → Int32 → Int32 → Int32 → Int32 → Int32 → Int32 → am_H → am_R) (a0 : Nat × Nat) (x1 : Int32) (x2 : Int32) (x3 : Int32) (x4 : Int32) (x5 : Int32) (x6 : Int32) (x8 : Int32) (s0 : Int32) (h : am_H) : am_R := rc45 a0 x1 x2 x3 x4 x5 x6 s0 (x8 + 1) h
theorem t_X11_sign_75 (d : Nat) (hd : 2 ≤ d) (rc45 : Nat × Nat → Int32 → Int32 → Int32 → Int32 → Int32 → Int32 → Int32 → Int32 → am_H → am_R) (hrc45 : ∀ a0 x1 x2 x3 x4 x5 x6 x7 x8 h, Sim m_X11_sign d 45 [some (.inr (.inr (some a0))), some (.inl x1), some (.inl x2), some (.inl x3), some (.inl x4), some (.inl x5), some (.inl x6), some (.inl x7), some (.inl x8)] [] h (rc45 a0 x1 x2 x3 x4 x5 x6 x7 x8 h)) (a0 : Nat × Nat) (x1 : Int32) (x2 : Int32) (x3 : Int32) (x4 : Int32) (x5 : Int32) (x6 : Int32) (x8 : Int32) (s0 : Int32) (h : am_H) : Sim m_X11_sign d 75 [some (.inr (.inr (some a0))), some (.inl x1), some (.inl x2), some (.inl x3), some (.inl x4), some (.inl x5), some (.inl x6), none, some (.inl x8)] [.inl s0] h (f_X11_sign_75 rc45 a0 x1 x2 x3 x4 x5 x6 x8 s0 h) := by
  unfold f_X11_sign_75
  refine sim_istore dX11_sign_75 (Nat.le_of_ble_eq_true rfl) ?_
  refine sim_iinc (1) dX11_sign_77 rfl (by decide +kernel) (Nat.le_of_ble_eq_true rfl) ?_
  refine sim_goto 45 dX11_sign_80 (by decide) ?_
  exact sim_lv (am_leS (am_leS (am_leS (am_leS (am_leS (am_leS (am_leS (am_leS (am_leS am_leT))))))))) (hrc45 _ _ _ _ _ _ _ _ _ _)
def f_X11_sign_70 (rc45 : Nat × Nat → Int32 → Int32 → Int32 → Int32 → Int32 → Int32 → Int32 → Int32 → am_H → am_R) (a0 : Nat × Nat) (x1 : Int32) (x2 : Int32) (x3 : Int32) (x4 : Int32) (x5 : Int32) (x6 : Int32) (x8 : Int32) (h : am_H) : am_R := f_X11_sign_75 rc45 a0 x1 x2 x3 x4 x5 x6 x8 (1 : Int32) h
theorem t_X11_sign_70 (d : Nat) (hd : 2 ≤ d) (rc45 : Nat × Nat → Int32 → Int32 → Int32 → Int32 → Int32 → Int32 → Int32 → Int32 → am_H → am_R) (hrc45 : ∀ a0 x1 x2 x3 x4 x5 x6 x7 x8 h, Sim m_X11_sign d 45 [some (.inr (.inr (some a0))), some (.inl x1), some (.inl x2), some (.inl x3), some (.inl x4), some (.inl x5), some (.inl x6), some (.inl x7), some (.inl x8)] [] h (rc45 a0 x1 x2 x3 x4 x5 x6 x7 x8 h)) (a0 : Nat × Nat) (x1 : Int32) (x2 : Int32) (x3 : Int32) (x4 : Int32) (x5 : Int32) (x6 : Int32) (x8 : Int32) (h : am_H) : Sim m_X11_sign d 70 [some (.inr (.inr (some a0))), some (.inl x1), some (.inl x2), some (.inl x3), some (.inl x4), some (.inl x5), some (.inl x6), none, some (.inl x8)] [] h (f_X11_sign_70 rc45 a0 x1 x2 x3 x4 x5 x6 x8 h) := by
  unfold f_X11_sign_70
  refine sim_iconst (1) dX11_sign_70 (by decide +kernel) ?_
  refine sim_goto 75 dX11_sign_71 (by decide) ?_
  exact sim_lv (am_leS (am_leS (am_leS (am_leS (am_leS (am_leS (am_leS (am_leN (am_leS am_leT))))))))) (t_X11_sign_75 d (by omega) _ hrc45 _ _ _ _ _ _ _ _ _ _)
def f_X11_sign_45  : Nat → Nat × Nat → Int32 → Int32 → Int32 → Int32 → Int32 → Int32 → Int32 → Int32 → am_H → am_R
  | 0, _, _, _, _, _, _, _, _, _, _ => none
  | n + 1, a0, x1, x2, x3, x4, x5, x6, x7, x8, h => m_gI (some a0) 11 30 h fun v5 => if v5 ≤ x8 then (if x5 = 0 then (f_X11_sign_121 a0 x1 x2 x3 x4 (1 : Int32) (some a0) h) else (if x6 = 0 then (f_X11_sign_121 a0 x1 x2 x3 x4 (2 : Int32) (some a0) h) else (if x7 = 0 then (m_gI (some a0) 11 30 h fun v6 => if v6 = (8 : Int32) then (f_X11_sign_116 a0 x1 x2 x3 x4 (some a0) h) else (f_X11_sign_121 a0 x1 x2 x3 x4 (0 : Int32) (some a0) h)) else (f_X11_sign_116 a0 x1 x2 x3 x4 (some a0) h)))) else (if x7 = 0 then (m_gR (some a0) 11 31 h fun o7 => m_aI o7 0 x8 h fun v8 => if v8 = x1 then (f_X11_sign_70 (f_X11_sign_45  n) a0 x1 x2 x3 x4 x5 x6 x8 h) else (f_X11_sign_75 (f_X11_sign_45  n) a0 x1 x2 x3 x4 x5 x6 x8 (0 : Int32) h)) else (f_X11_sign_70 (f_X11_sign_45  n) a0 x1 x2 x3 x4 x5 x6 x8 h))
theorem t_X11_sign_45 (d : Nat) (hd : 2 ≤ d)  : ∀ (n : Nat) (a0 : Nat × Nat) (x1 : Int32) (x2 : Int32) (x3 : Int32) (x4 : Int32) (x5 : Int32) (x6 : Int32) (x7 : Int32) (x8 : Int32) (h : am_H), Sim m_X11_sign d 45 [some (.inr (.inr (some a0))), some (.inl x1), some (.inl x2), some (.inl x3), some (.inl x4), some (.inl x5), some (.inl x6), some (.inl x7), some (.inl x8)] [] h (f_X11_sign_45  n a0 x1 x2 x3 x4 x5 x6 x7 x8 h) := by
  intro n
  induction n with
  | zero => intros; exact sim_none
  | succ n hrc45 =>
    intro a0 x1 x2 x3 x4 x5 x6 x7 x8 h
    rw [f_X11_sign_45]
    refine sim_iload dX11_sign_45 rfl ?_
    refine sim_aload_n dX11_sign_47 rfl ?_
    refine sim_gI 11 30 dX11_sign_48 rfl wf_RX11_239 (Nat.le_of_ble_eq_true rfl) rfl (fun v5 => ?_)
    refine sim_ic_ge 83 dX11_sign_51 (by decide) (fun c => ?_) (fun c => ?_)
    · refine sim_aload_n dX11_sign_83 rfl ?_
      refine sim_iload dX11_sign_84 rfl ?_
      refine sim_if_ne 93 dX11_sign_86 (by decide) (fun c => ?_) (fun c => ?_)
      · refine sim_iload dX11_sign_93 rfl ?_
        refine sim_if_ne 102 dX11_sign_95 (by decide) (fun c => ?_) (fun c => ?_)
        · refine sim_iload dX11_sign_102 rfl ?_
          refine sim_if_ne 116 dX11_sign_104 (by decide) (fun c => ?_) (fun c => ?_)
          · exact sim_lv (am_leS (am_leS (am_leS (am_leS (am_leS (am_leN (am_leN (am_leN (am_leN am_leT))))))))) (t_X11_sign_116 d (by omega) _ _ _ _ _ _ _)
          · refine sim_aload_n dX11_sign_107 rfl ?_
            refine sim_gI 11 30 dX11_sign_108 rfl wf_RX11_239 (Nat.le_of_ble_eq_true rfl) rfl (fun v6 => ?_)
            refine sim_bipush (8) dX11_sign_111 (by decide +kernel) ?_
            refine sim_ic_ne 120 dX11_sign_113 (by decide) (fun c => ?_) (fun c => ?_)
            · refine sim_iconst (0) dX11_sign_120 (by decide +kernel) ?_
              exact sim_lv (am_leS (am_leS (am_leS (am_leS (am_leS (am_leN (am_leN (am_leN (am_leN am_leT))))))))) (t_X11_sign_121 d (by omega) _ _ _ _ _ _ _ _)
            · exact sim_lv (am_leS (am_leS (am_leS (am_leS (am_leS (am_leN (am_leN (am_leN (am_leN am_leT))))))))) (t_X11_sign_116 d (by omega) _ _ _ _ _ _ _)
        · refine sim_iconst (2) dX11_sign_98 (by decide +kernel) ?_
          refine sim_goto 121 dX11_sign_99 (by decide) ?_
          exact sim_lv (am_leS (am_leS (am_leS (am_leS (am_leS (am_leN (am_leN (am_leN (am_leN am_leT))))))))) (t_X11_sign_121 d (by omega) _ _ _ _ _ _ _ _)
      · refine sim_iconst (1) dX11_sign_89 (by decide +kernel) ?_
        refine sim_goto 121 dX11_sign_90 (by decide) ?_
        exact sim_lv (am_leS (am_leS (am_leS (am_leS (am_leS (am_leN (am_leN (am_leN (am_leN am_leT))))))))) (t_X11_sign_121 d (by omega) _ _ _ _ _ _ _ _)
    · refine sim_iload dX11_sign_54 rfl ?_
      refine sim_if_ne 70 dX11_sign_56 (by decide) (fun c => ?_) (fun c => ?_)
      · exact sim_lv (am_leS (am_leS (am_leS (am_leS (am_leS (am_leS (am_leS (am_leN (am_leS am_leT))))))))) (t_X11_sign_70 d (by omega) _ hrc45 _ _ _ _ _ _ _ _ _)
      · refine sim_aload_n dX11_sign_59 rfl ?_
        refine sim_gR 11 31 dX11_sign_60 rfl wf_RX11_80 (Nat.le_of_ble_eq_true rfl) rfl (fun o7 => ?_)
        refine sim_iload dX11_sign_63 rfl ?_
        refine sim_aI dX11_sign_65 (fun v8 => ?_)
        refine sim_iload_n dX11_sign_66 rfl ?_
        refine sim_ic_ne 74 dX11_sign_67 (by decide) (fun c => ?_) (fun c => ?_)
        · refine sim_iconst (0) dX11_sign_74 (by decide +kernel) ?_
          exact sim_lv (am_leS (am_leS (am_leS (am_leS (am_leS (am_leS (am_leS (am_leN (am_leS am_leT))))))))) (t_X11_sign_75 d (by omega) _ hrc45 _ _ _ _ _ _ _ _ _ _)
        · exact sim_lv (am_leS (am_leS (am_leS (am_leS (am_leS (am_leS (am_leS (am_leN (am_leS am_leT))))))))) (t_X11_sign_70 d (by omega) _ hrc45 _ _ _ _ _ _ _ _ _)
def f_X11_sign_37  (a0 : Nat × Nat) (x1 : Int32) (x2 : Int32) (x3 : Int32) (x4 : Int32) (x5 : Int32) (s0 : Int32) (h : am_H) : am_R := f_X11_sign_45 5000 a0 x1 x2 x3 x4 x5 s0 (0 : Int32) (0 : Int32) h
theorem t_X11_sign_37 (d : Nat) (hd : 2 ≤ d)  (a0 : Nat × Nat) (x1 : Int32) (x2 : Int32) (x3 : Int32) (x4 : Int32) (x5 : Int32) (s0 : Int32) (h : am_H) : Sim m_X11_sign d 37 [some (.inr (.inr (some a0))), some (.inl x1), some (.inl x2), some (.inl x3), some (.inl x4), some (.inl x5), none, none, none] [.inl s0] h (f_X11_sign_37  a0 x1 x2 x3 x4 x5 s0 h) := by
  unfold f_X11_sign_37
  refine sim_istore dX11_sign_37 (Nat.le_of_ble_eq_true rfl) ?_
  refine sim_iconst (0) dX11_sign_39 (by decide +kernel) ?_
  refine sim_istore dX11_sign_40 (Nat.le_of_ble_eq_true rfl) ?_
  refine sim_iconst (0) dX11_sign_42 (by decide +kernel) ?_
  refine sim_istore dX11_sign_43 (Nat.le_of_ble_eq_true rfl) ?_
  exact sim_lv (am_leS (am_leS (am_leS (am_leS (am_leS (am_leS (am_leS (am_leS (am_leS am_leT))))))))) (t_X11_sign_45 d (by omega) _ _ _ _ _ _ _ _ _ _ _)
def f_X11_sign_36  (a0 : Nat × Nat) (x1 : Int32) (x2 : Int32) (x3 : Int32) (x4 : Int32) (x5 : Int32) (h : am_H) : am_R := f_X11_sign_37 a0 x1 x2 x3 x4 x5 (0 : Int32) h
theorem t_X11_sign_36 (d : Nat) (hd : 2 ≤ d)  (a0 : Nat × Nat) (x1 : Int32) (x2 : Int32) (x3 : Int32) (x4 : Int32) (x5 : Int32) (h : am_H) : Sim m_X11_sign d 36 [some (.inr (.inr (some a0))), some (.inl x1), some (.inl x2), some (.inl x3), some (.inl x4), some (.inl x5), none, none, none] [] h (f_X11_sign_36  a0 x1 x2 x3 x4 x5 h) := by
  unfold f_X11_sign_36
  refine sim_iconst (0) dX11_sign_36 (by decide +kernel) ?_
  exact sim_lv (am_leS (am_leS (am_leS (am_leS (am_leS (am_leS (am_leN (am_leN (am_leN am_leT))))))))) (t_X11_sign_37 d (by omega) _ _ _ _ _ _ _ _)
def f_X11_sign (a0 : Nat × Nat) (x1 : Int32) (x2 : Int32) (x3 : Int32) (x4 : Int32) (h : am_H) : am_R := m_bI (f_X11_isPerson x1 h) fun h1 v2 => m_gI (some a0) 11 20 h1 fun v3 => if (x2 >>> (v3 &&& 31)) = 0 then (m_gI (some a0) 11 20 h1 fun v4 => if (x3 >>> (v4 &&& 31)) = 0 then (if (x4 >>> ((12 : Int32) &&& 31)) = 0 then (f_X11_sign_37 a0 x1 x2 x3 x4 v2 (1 : Int32) h1) else (f_X11_sign_36 a0 x1 x2 x3 x4 v2 h1)) else (f_X11_sign_36 a0 x1 x2 x3 x4 v2 h1)) else (f_X11_sign_36 a0 x1 x2 x3 x4 v2 h1)
theorem k_X11_sign (d : Nat) (hd : 2 ≤ d) (a0 : Nat × Nat) (x1 : Int32) (x2 : Int32) (x3 : Int32) (x4 : Int32) (h : am_H) : am_Con m_X11_sign d [.inr (.inr (some a0)), .inl x1, .inl x2, .inl x3, .inl x4] h (f_X11_sign a0 x1 x2 x3 x4 h) := am_con (by decide +kernel) (Nat.le_of_ble_eq_true rfl) (by
  unfold f_X11_sign
  refine sim_iload_n dX11_sign_0 rfl ?_
  refine sim_static (d - 1) dX11_sign_1 (k_X11_isPerson (d - 1) (by omega) _ _) q_X11_isPerson wm_RX11_146 rfl rfl (by omega) (Nat.le_of_ble_eq_true rfl) am_nI (am_rI fun h1 v2 => ?_) am_eI
  refine sim_istore dX11_sign_4 (Nat.le_of_ble_eq_true rfl) ?_
  refine sim_iload_n dX11_sign_6 rfl ?_
  refine sim_aload_n dX11_sign_7 rfl ?_
  refine sim_gI 11 20 dX11_sign_8 rfl wf_RX11_136 (Nat.le_of_ble_eq_true rfl) rfl (fun v3 => ?_)
  refine sim_ishr dX11_sign_11 ?_
  refine sim_if_ne 36 dX11_sign_12 (by decide) (fun c => ?_) (fun c => ?_)
  · exact sim_lv (am_leS (am_leS (am_leS (am_leS (am_leS (am_leS (am_leN (am_leN (am_leN am_leT))))))))) (t_X11_sign_36 d (by omega) _ _ _ _ _ _ _)
  · refine sim_iload_n dX11_sign_15 rfl ?_
    refine sim_aload_n dX11_sign_16 rfl ?_
    refine sim_gI 11 20 dX11_sign_17 rfl wf_RX11_136 (Nat.le_of_ble_eq_true rfl) rfl (fun v4 => ?_)
    refine sim_ishr dX11_sign_20 ?_
    refine sim_if_ne 36 dX11_sign_21 (by decide) (fun c => ?_) (fun c => ?_)
    · exact sim_lv (am_leS (am_leS (am_leS (am_leS (am_leS (am_leS (am_leN (am_leN (am_leN am_leT))))))))) (t_X11_sign_36 d (by omega) _ _ _ _ _ _ _)
    · refine sim_iload dX11_sign_24 rfl ?_
      refine sim_bipush (12) dX11_sign_26 (by decide +kernel) ?_
      refine sim_ishr dX11_sign_28 ?_
      refine sim_if_ne 36 dX11_sign_29 (by decide) (fun c => ?_) (fun c => ?_)
      · exact sim_lv (am_leS (am_leS (am_leS (am_leS (am_leS (am_leS (am_leN (am_leN (am_leN am_leT))))))))) (t_X11_sign_36 d (by omega) _ _ _ _ _ _ _)
      · refine sim_iconst (1) dX11_sign_32 (by decide +kernel) ?_
        refine sim_goto 37 dX11_sign_33 (by decide) ?_
        exact sim_lv (am_leS (am_leS (am_leS (am_leS (am_leS (am_leS (am_leN (am_leN (am_leN am_leT))))))))) (t_X11_sign_37 d (by omega) _ _ _ _ _ _ _ _))
theorem q_X11_sign : am_Cal m_X11_sign 4 2 := ⟨am_mem 1460 (w := Cond.code yX11_sign cX11_sign 9 (some .int)) (by decide +kernel) rfl, am_mem 64 (w := Cond.initialized RX11) (by decide +kernel) rfl, fun z => absurd z (by decide), fun _ => am_mem 1458 (w := Cond.instanceMethod yX11_sign) (by decide +kernel) rfl, fun z => absurd z (by decide), fun _ => am_mem 1459 (w := Cond.selects RX11 yX11_sign yX11_sign) (by decide +kernel) rfl, by decide +kernel, by decide +kernel, Nat.le_of_ble_eq_true rfl⟩
abbrev m_X11_subscribe : am_M := (yX11_subscribe, cX11_subscribe, 6, some .boolean, [])
def f_X11_subscribe_146  (s0 : Int32) (h : am_H) : am_R := m_rz h s0
theorem t_X11_subscribe_146 (d : Nat) (hd : 2 ≤ d)  (s0 : Int32) (h : am_H) : Sim m_X11_subscribe d 146 [none, none, none, none, none, none] [.inl s0] h (f_X11_subscribe_146  s0 h) := by
  unfold f_X11_subscribe_146
  exact sim_zret dX11_subscribe_146 rfl
def f_X11_subscribe_135  (x5 : Int32) (h : am_H) : am_R := if x5 = (-1 : Int32) then (f_X11_subscribe_146 (1 : Int32) h) else (f_X11_subscribe_146 (0 : Int32) h)
theorem t_X11_subscribe_135 (d : Nat) (hd : 2 ≤ d)  (x5 : Int32) (h : am_H) : Sim m_X11_subscribe d 135 [none, none, none, none, none, some (.inl x5)] [] h (f_X11_subscribe_135  x5 h) := by
  unfold f_X11_subscribe_135
  refine sim_iload dX11_subscribe_135 rfl ?_
  refine sim_iconst (-1) dX11_subscribe_137 (by decide +kernel) ?_
  refine sim_ic_ne 145 dX11_subscribe_138 (by decide) (fun c => ?_) (fun c => ?_)
  · refine sim_iconst (0) dX11_subscribe_145 (by decide +kernel) ?_
    exact sim_lv (am_leN (am_leN (am_leN (am_leN (am_leN (am_leN am_leT)))))) (t_X11_subscribe_146 d (by omega) _ _)
  · refine sim_iconst (1) dX11_subscribe_141 (by decide +kernel) ?_
    refine sim_goto 146 dX11_subscribe_142 (by decide) ?_
    exact sim_lv (am_leN (am_leN (am_leN (am_leN (am_leN (am_leN am_leT)))))) (t_X11_subscribe_146 d (by omega) _ _)
def f_X11_subscribe_114  (a0 : Nat × Nat) (x1 : Int32) (x3 : Int32) (x5 : Int32) (h : am_H) : am_R := if x5 = (-1 : Int32) then (m_gR (some a0) 11 44 h fun o18 => m_gI (some a0) 11 1 h fun v19 => m_sI o18 (((20 : Int32) * x1) + x3) v19 h fun h20 => f_X11_subscribe_135 x5 h20) else (f_X11_subscribe_135 x5 h)
theorem t_X11_subscribe_114 (d : Nat) (hd : 2 ≤ d)  (a0 : Nat × Nat) (x1 : Int32) (x3 : Int32) (x5 : Int32) (h : am_H) : Sim m_X11_subscribe d 114 [some (.inr (.inr (some a0))), some (.inl x1), none, some (.inl x3), none, some (.inl x5)] [] h (f_X11_subscribe_114  a0 x1 x3 x5 h) := by
  unfold f_X11_subscribe_114
  refine sim_iload dX11_subscribe_114 rfl ?_
  refine sim_iconst (-1) dX11_subscribe_116 (by decide +kernel) ?_
  refine sim_ic_ne 135 dX11_subscribe_117 (by decide) (fun c => ?_) (fun c => ?_)
  · exact sim_lv (am_leN (am_leN (am_leN (am_leN (am_leN (am_leS am_leT)))))) (t_X11_subscribe_135 d (by omega) _ _)
  · refine sim_aload_n dX11_subscribe_120 rfl ?_
    refine sim_gR 11 44 dX11_subscribe_121 rfl wf_RX11_116 (Nat.le_of_ble_eq_true rfl) rfl (fun o18 => ?_)
    refine sim_bipush (20) dX11_subscribe_124 (by decide +kernel) ?_
    refine sim_iload_n dX11_subscribe_126 rfl ?_
    refine sim_imul dX11_subscribe_127 ?_
    refine sim_iload_n dX11_subscribe_128 rfl ?_
    refine sim_iadd dX11_subscribe_129 ?_
    refine sim_aload_n dX11_subscribe_130 rfl ?_
    refine sim_gI 11 1 dX11_subscribe_131 rfl wf_RX11_139 (Nat.le_of_ble_eq_true rfl) rfl (fun v19 => ?_)
    refine sim_sI dX11_subscribe_134 (fun h20 => ?_)
    exact sim_lv (am_leN (am_leN (am_leN (am_leN (am_leN (am_leS am_leT)))))) (t_X11_subscribe_135 d (by omega) _ _)
def f_X11_subscribe_84  (a0 : Nat × Nat) (x1 : Int32) (x2 : Int32) (x3 : Int32) (s0 : Int32) (h : am_H) : am_R := if s0 = (-1 : Int32) then (if x2 = 0 then (f_X11_subscribe_114 a0 x1 x3 s0 h) else (m_gR (some a0) 11 45 h fun o15 => m_gI (some a0) 11 1 h fun v16 => m_sI o15 (((12 : Int32) * x1) + x3) v16 h fun h17 => f_X11_subscribe_135 s0 h17)) else (f_X11_subscribe_114 a0 x1 x3 s0 h)
theorem t_X11_subscribe_84 (d : Nat) (hd : 2 ≤ d)  (a0 : Nat × Nat) (x1 : Int32) (x2 : Int32) (x3 : Int32) (s0 : Int32) (h : am_H) : Sim m_X11_subscribe d 84 [some (.inr (.inr (some a0))), some (.inl x1), some (.inl x2), some (.inl x3), none, none] [.inl s0] h (f_X11_subscribe_84  a0 x1 x2 x3 s0 h) := by
  unfold f_X11_subscribe_84
  refine sim_istore dX11_subscribe_84 (Nat.le_of_ble_eq_true rfl) ?_
  refine sim_iload dX11_subscribe_86 rfl ?_
  refine sim_iconst (-1) dX11_subscribe_88 (by decide +kernel) ?_
  refine sim_ic_ne 114 dX11_subscribe_89 (by decide) (fun c => ?_) (fun c => ?_)
  · exact sim_lv (am_leS (am_leS (am_leN (am_leS (am_leN (am_leS am_leT)))))) (t_X11_subscribe_114 d (by omega) _ _ _ _ _)
  · refine sim_iload_n dX11_subscribe_92 rfl ?_
    refine sim_if_eq 114 dX11_subscribe_93 (by decide) (fun c => ?_) (fun c => ?_)
    · exact sim_lv (am_leS (am_leS (am_leN (am_leS (am_leN (am_leS am_leT)))))) (t_X11_subscribe_114 d (by omega) _ _ _ _ _)
    · refine sim_aload_n dX11_subscribe_96 rfl ?_
      refine sim_gR 11 45 dX11_subscribe_97 rfl wf_RX11_119 (Nat.le_of_ble_eq_true rfl) rfl (fun o15 => ?_)
      refine sim_bipush (12) dX11_subscribe_100 (by decide +kernel) ?_
      refine sim_iload_n dX11_subscribe_102 rfl ?_
      refine sim_imul dX11_subscribe_103 ?_
      refine sim_iload_n dX11_subscribe_104 rfl ?_
      refine sim_iadd dX11_subscribe_105 ?_
      refine sim_aload_n dX11_subscribe_106 rfl ?_
      refine sim_gI 11 1 dX11_subscribe_107 rfl wf_RX11_139 (Nat.le_of_ble_eq_true rfl) rfl (fun v16 => ?_)
      refine sim_sI dX11_subscribe_110 (fun h17 => ?_)
      refine sim_goto 135 dX11_subscribe_111 (by decide) ?_
      exact sim_lv (am_leN (am_leN (am_leN (am_leN (am_leN (am_leS am_leT)))))) (t_X11_subscribe_135 d (by omega) _ _)
def f_X11_subscribe_47  (a0 : Nat × Nat) (x1 : Int32) (x2 : Int32) (x3 : Int32) (s0 : Int32) (s1 : Option (Nat × Nat)) (h : am_H) : am_R := m_ao s1 11 fun a10 => m_bI (f_X11_holds a10 s0 h) fun h8 v9 => if v9 = 0 then (m_rz h8 (0 : Int32)) else (if x2 = 0 then (m_gR (some a0) 11 44 h8 fun o11 => m_aI o11 0 (((20 : Int32) * x1) + x3) h8 fun v12 => f_X11_subscribe_84 a0 x1 x2 x3 v12 h8) else (m_gR (some a0) 11 45 h8 fun o13 => m_aI o13 0 (((12 : Int32) * x1) + x3) h8 fun v14 => f_X11_subscribe_84 a0 x1 x2 x3 v14 h8))
theorem t_X11_subscribe_47 (d : Nat) (hd : 2 ≤ d)  (a0 : Nat × Nat) (x1 : Int32) (x2 : Int32) (x3 : Int32) (s0 : Int32) (s1 : Option (Nat × Nat)) (h : am_H) : Sim m_X11_subscribe d 47 [some (.inr (.inr (some a0))), some (.inl x1), some (.inl x2), some (.inl x3), none, none] [.inl s0, .inr (.inr s1)] h (f_X11_subscribe_47  a0 x1 x2 x3 s0 s1 h) := by
  unfold f_X11_subscribe_47
  refine sim_ao1 (fun a10 e => ?_)
  refine sim_virt (d - 1) e dX11_subscribe_47 (k_X11_holds (d - 1) (by omega) _ _ _) q_X11_holds rfl rfl wm_RX11_142 rfl rfl (by omega) (Nat.le_of_ble_eq_true rfl) am_nI (am_rI fun h8 v9 => ?_) am_eI
  refine sim_if_ne 55 dX11_subscribe_50 (by decide) (fun c => ?_) (fun c => ?_)
  · refine sim_iload_n dX11_subscribe_55 rfl ?_
    refine sim_if_eq 73 dX11_subscribe_56 (by decide) (fun c => ?_) (fun c => ?_)
    · refine sim_aload_n dX11_subscribe_73 rfl ?_
      refine sim_gR 11 44 dX11_subscribe_74 rfl wf_RX11_116 (Nat.le_of_ble_eq_true rfl) rfl (fun o11 => ?_)
      refine sim_bipush (20) dX11_subscribe_77 (by decide +kernel) ?_
      refine sim_iload_n dX11_subscribe_79 rfl ?_
      refine sim_imul dX11_subscribe_80 ?_
      refine sim_iload_n dX11_subscribe_81 rfl ?_
      refine sim_iadd dX11_subscribe_82 ?_
      refine sim_aI dX11_subscribe_83 (fun v12 => ?_)
      exact sim_lv (am_leS (am_leS (am_leS (am_leS (am_leN (am_leN am_leT)))))) (t_X11_subscribe_84 d (by omega) _ _ _ _ _ _)
    · refine sim_aload_n dX11_subscribe_59 rfl ?_
      refine sim_gR 11 45 dX11_subscribe_60 rfl wf_RX11_119 (Nat.le_of_ble_eq_true rfl) rfl (fun o13 => ?_)
      refine sim_bipush (12) dX11_subscribe_63 (by decide +kernel) ?_
      refine sim_iload_n dX11_subscribe_65 rfl ?_
      refine sim_imul dX11_subscribe_66 ?_
      refine sim_iload_n dX11_subscribe_67 rfl ?_
      refine sim_iadd dX11_subscribe_68 ?_
      refine sim_aI dX11_subscribe_69 (fun v14 => ?_)
      refine sim_goto 84 dX11_subscribe_70 (by decide) ?_
      exact sim_lv (am_leS (am_leS (am_leS (am_leS (am_leN (am_leN am_leT)))))) (t_X11_subscribe_84 d (by omega) _ _ _ _ _ _)
  · refine sim_iconst (0) dX11_subscribe_53 (by decide +kernel) ?_
    exact sim_zret dX11_subscribe_54 rfl
def f_X11_subscribe_34  (a0 : Nat × Nat) (x1 : Int32) (x2 : Int32) (x3 : Int32) (s0 : Int32) (h : am_H) : am_R := if s0 = 0 then (f_X11_subscribe_47 a0 x1 x2 x3 (1 : Int32) (some a0) h) else (f_X11_subscribe_47 a0 x1 x2 x3 (0 : Int32) (some a0) h)
theorem t_X11_subscribe_34 (d : Nat) (hd : 2 ≤ d)  (a0 : Nat × Nat) (x1 : Int32) (x2 : Int32) (x3 : Int32) (s0 : Int32) (h : am_H) : Sim m_X11_subscribe d 34 [some (.inr (.inr (some a0))), some (.inl x1), some (.inl x2), some (.inl x3), none, none] [.inl s0] h (f_X11_subscribe_34  a0 x1 x2 x3 s0 h) := by
  unfold f_X11_subscribe_34
  refine sim_istore dX11_subscribe_34 (Nat.le_of_ble_eq_true rfl) ?_
  refine sim_aload_n dX11_subscribe_36 rfl ?_
  refine sim_iload dX11_subscribe_37 rfl ?_
  refine sim_if_eq 46 dX11_subscribe_39 (by decide) (fun c => ?_) (fun c => ?_)
  · refine sim_iconst (1) dX11_subscribe_46 (by decide +kernel) ?_
    exact sim_lv (am_leS (am_leS (am_leS (am_leS (am_leN (am_leN am_leT)))))) (t_X11_subscribe_47 d (by omega) _ _ _ _ _ _ _)
  · refine sim_iconst (0) dX11_subscribe_42 (by decide +kernel) ?_
    refine sim_goto 47 dX11_subscribe_43 (by decide) ?_
    exact sim_lv (am_leS (am_leS (am_leS (am_leS (am_leN (am_leN am_leT)))))) (t_X11_subscribe_47 d (by omega) _ _ _ _ _ _ _)
def f_X11_subscribe_33  (a0 : Nat × Nat) (x1 : Int32) (x2 : Int32) (x3 : Int32) (h : am_H) : am_R := f_X11_subscribe_34 a0 x1 x2 x3 (0 : Int32) h
theorem t_X11_subscribe_33 (d : Nat) (hd : 2 ≤ d)  (a0 : Nat × Nat) (x1 : Int32) (x2 : Int32) (x3 : Int32) (h : am_H) : Sim m_X11_subscribe d 33 [some (.inr (.inr (some a0))), some (.inl x1), some (.inl x2), some (.inl x3), none, none] [] h (f_X11_subscribe_33  a0 x1 x2 x3 h) := by
  unfold f_X11_subscribe_33
  refine sim_iconst (0) dX11_subscribe_33 (by decide +kernel) ?_
  exact sim_lv (am_leS (am_leS (am_leS (am_leS (am_leN (am_leN am_leT)))))) (t_X11_subscribe_34 d (by omega) _ _ _ _ _ _)
def f_X11_subscribe_29  (a0 : Nat × Nat) (x1 : Int32) (x2 : Int32) (x3 : Int32) (h : am_H) : am_R := f_X11_subscribe_34 a0 x1 x2 x3 (1 : Int32) h
theorem t_X11_subscribe_29 (d : Nat) (hd : 2 ≤ d)  (a0 : Nat × Nat) (x1 : Int32) (x2 : Int32) (x3 : Int32) (h : am_H) : Sim m_X11_subscribe d 29 [some (.inr (.inr (some a0))), some (.inl x1), some (.inl x2), some (.inl x3), none, none] [] h (f_X11_subscribe_29  a0 x1 x2 x3 h) := by
  unfold f_X11_subscribe_29
  refine sim_iconst (1) dX11_subscribe_29 (by decide +kernel) ?_
  refine sim_goto 34 dX11_subscribe_30 (by decide) ?_
  exact sim_lv (am_leS (am_leS (am_leS (am_leS (am_leN (am_leN am_leT)))))) (t_X11_subscribe_34 d (by omega) _ _ _ _ _ _)
def f_X11_subscribe (a0 : Nat × Nat) (x1 : Int32) (x2 : Int32) (x3 : Int32) (h : am_H) : am_R := m_bI (f_X11_isPerson x1 h) fun h1 v2 => if v2 = 0 then (f_X11_subscribe_33 a0 x1 x2 x3 h1) else (if x2 = 0 then (m_ao (some a0) 11 fun a5 => m_bI (f_X11_isWork a5 x3 h1) fun h3 v4 => if v4 = 0 then (f_X11_subscribe_33 a0 x1 x2 x3 h3) else (f_X11_subscribe_29 a0 x1 x2 x3 h3)) else (m_bI (f_X11_isPerson x3 h1) fun h6 v7 => if v7 = 0 then (f_X11_subscribe_33 a0 x1 x2 x3 h6) else (f_X11_subscribe_29 a0 x1 x2 x3 h6)))
theorem k_X11_subscribe (d : Nat) (hd : 2 ≤ d) (a0 : Nat × Nat) (x1 : Int32) (x2 : Int32) (x3 : Int32) (h : am_H) : am_Con m_X11_subscribe d [.inr (.inr (some a0)), .inl x1, .inl x2, .inl x3] h (f_X11_subscribe a0 x1 x2 x3 h) := am_con (by decide +kernel) (Nat.le_of_ble_eq_true rfl) (by
  unfold f_X11_subscribe
  refine sim_iload_n dX11_subscribe_0 rfl ?_
  refine sim_static (d - 1) dX11_subscribe_1 (k_X11_isPerson (d - 1) (by omega) _ _) q_X11_isPerson wm_RX11_146 rfl rfl (by omega) (Nat.le_of_ble_eq_true rfl) am_nI (am_rI fun h1 v2 => ?_) am_eI
  refine sim_if_eq 33 dX11_subscribe_4 (by decide) (fun c => ?_) (fun c => ?_)
  · exact sim_lv (am_leS (am_leS (am_leS (am_leS (am_leN (am_leN am_leT)))))) (t_X11_subscribe_33 d (by omega) _ _ _ _ _)
  · refine sim_iload_n dX11_subscribe_7 rfl ?_
    refine sim_if_eq 21 dX11_subscribe_8 (by decide) (fun c => ?_) (fun c => ?_)
    · refine sim_aload_n dX11_subscribe_21 rfl ?_
      refine sim_iload_n dX11_subscribe_22 rfl ?_
      refine sim_ao1 (fun a5 e => ?_)
      refine sim_virt (d - 1) e dX11_subscribe_23 (k_X11_isWork (d - 1) (by omega) _ _ _) q_X11_isWork rfl rfl wm_RX11_152 rfl rfl (by omega) (Nat.le_of_ble_eq_true rfl) am_nI (am_rI fun h3 v4 => ?_) am_eI
      refine sim_if_eq 33 dX11_subscribe_26 (by decide) (fun c => ?_) (fun c => ?_)
      · exact sim_lv (am_leS (am_leS (am_leS (am_leS (am_leN (am_leN am_leT)))))) (t_X11_subscribe_33 d (by omega) _ _ _ _ _)
      · exact sim_lv (am_leS (am_leS (am_leS (am_leS (am_leN (am_leN am_leT)))))) (t_X11_subscribe_29 d (by omega) _ _ _ _ _)
    · refine sim_iload_n dX11_subscribe_11 rfl ?_
      refine sim_static (d - 1) dX11_subscribe_12 (k_X11_isPerson (d - 1) (by omega) _ _) q_X11_isPerson wm_RX11_146 rfl rfl (by omega) (Nat.le_of_ble_eq_true rfl) am_nI (am_rI fun h6 v7 => ?_) am_eI
      refine sim_if_eq 33 dX11_subscribe_15 (by decide) (fun c => ?_) (fun c => ?_)
      · exact sim_lv (am_leS (am_leS (am_leS (am_leS (am_leN (am_leN am_leT)))))) (t_X11_subscribe_33 d (by omega) _ _ _ _ _)
      · refine sim_goto 29 dX11_subscribe_18 (by decide) ?_
        exact sim_lv (am_leS (am_leS (am_leS (am_leS (am_leN (am_leN am_leT)))))) (t_X11_subscribe_29 d (by omega) _ _ _ _ _))
theorem q_X11_subscribe : am_Cal m_X11_subscribe 3 2 := ⟨am_mem 1520 (w := Cond.code yX11_subscribe cX11_subscribe 6 (some .boolean)) (by decide +kernel) rfl, am_mem 64 (w := Cond.initialized RX11) (by decide +kernel) rfl, fun z => absurd z (by decide), fun _ => am_mem 1518 (w := Cond.instanceMethod yX11_subscribe) (by decide +kernel) rfl, fun z => absurd z (by decide), fun _ => am_mem 1519 (w := Cond.selects RX11 yX11_subscribe yX11_subscribe) (by decide +kernel) rfl, by decide +kernel, by decide +kernel, Nat.le_of_ble_eq_true rfl⟩
abbrev m_X11_tag : am_M := (yX11_tag, cX11_tag, 1, some .int, [])
def f_X11_tag_15  (a0 : Nat × Nat) (s0 : Int32) (s1 : Option (Nat × Nat)) (h : am_H) : am_R := m_ao s1 11 fun a4 => m_bI (f_X11_holds a4 s0 h) fun h2 v3 => if v3 = 0 then (m_ri h2 (0 : Int32)) else (m_gI (some a0) 11 20 h2 fun v5 => m_pI (some a0) 11 20 (v5 + (1 : Int32)) h2 fun h6 => m_gI (some a0) 11 20 h6 fun v7 => m_ri h6 (v7 - (1 : Int32)))
theorem t_X11_tag_15 (d : Nat) (hd : 1 ≤ d)  (a0 : Nat × Nat) (s0 : Int32) (s1 : Option (Nat × Nat)) (h : am_H) : Sim m_X11_tag d 15 [some (.inr (.inr (some a0)))] [.inl s0, .inr (.inr s1)] h (f_X11_tag_15  a0 s0 s1 h) := by
  unfold f_X11_tag_15
  refine sim_ao1 (fun a4 e => ?_)
  refine sim_virt (d - 1) e dX11_tag_15 (k_X11_holds (d - 1) (by omega) _ _ _) q_X11_holds rfl rfl wm_RX11_142 rfl rfl (by omega) (Nat.le_of_ble_eq_true rfl) am_nI (am_rI fun h2 v3 => ?_) am_eI
  refine sim_if_ne 23 dX11_tag_18 (by decide) (fun c => ?_) (fun c => ?_)
  · refine sim_aload_n dX11_tag_23 rfl ?_
    refine sim_dup_r dX11_tag_24 ?_
    refine sim_gI 11 20 dX11_tag_25 rfl wf_RX11_136 (Nat.le_of_ble_eq_true rfl) rfl (fun v5 => ?_)
    refine sim_iconst (1) dX11_tag_28 (by decide +kernel) ?_
    refine sim_iadd dX11_tag_29 ?_
    refine sim_pI 11 20 dX11_tag_30 rfl wf_RX11_136 (Nat.le_of_ble_eq_true rfl) rfl (Or.inl rfl) rfl (fun h6 => ?_)
    refine sim_aload_n dX11_tag_33 rfl ?_
    refine sim_gI 11 20 dX11_tag_34 rfl wf_RX11_136 (Nat.le_of_ble_eq_true rfl) rfl (fun v7 => ?_)
    refine sim_iconst (1) dX11_tag_37 (by decide +kernel) ?_
    refine sim_isub dX11_tag_38 ?_
    exact sim_iret dX11_tag_39 rfl
  · refine sim_iconst (0) dX11_tag_21 (by decide +kernel) ?_
    exact sim_iret dX11_tag_22 rfl
def f_X11_tag (a0 : Nat × Nat) (h : am_H) : am_R := m_gI (some a0) 11 20 h fun v1 => if v1 = (30 : Int32) then (f_X11_tag_15 a0 (1 : Int32) (some a0) h) else (f_X11_tag_15 a0 (0 : Int32) (some a0) h)
theorem k_X11_tag (d : Nat) (hd : 1 ≤ d) (a0 : Nat × Nat) (h : am_H) : am_Con m_X11_tag d [.inr (.inr (some a0))] h (f_X11_tag a0 h) := am_con (by decide +kernel) (Nat.le_of_ble_eq_true rfl) (by
  unfold f_X11_tag
  refine sim_aload_n dX11_tag_0 rfl ?_
  refine sim_aload_n dX11_tag_1 rfl ?_
  refine sim_gI 11 20 dX11_tag_2 rfl wf_RX11_136 (Nat.le_of_ble_eq_true rfl) rfl (fun v1 => ?_)
  refine sim_bipush (30) dX11_tag_5 (by decide +kernel) ?_
  refine sim_ic_ne 14 dX11_tag_7 (by decide) (fun c => ?_) (fun c => ?_)
  · refine sim_iconst (0) dX11_tag_14 (by decide +kernel) ?_
    exact sim_lv (am_leS am_leT) (t_X11_tag_15 d (by omega) _ _ _ _)
  · refine sim_iconst (1) dX11_tag_10 (by decide +kernel) ?_
    refine sim_goto 15 dX11_tag_11 (by decide) ?_
    exact sim_lv (am_leS am_leT) (t_X11_tag_15 d (by omega) _ _ _ _))
theorem q_X11_tag : am_Cal m_X11_tag 0 2 := ⟨am_mem 1338 (w := Cond.code yX11_tag cX11_tag 1 (some .int)) (by decide +kernel) rfl, am_mem 64 (w := Cond.initialized RX11) (by decide +kernel) rfl, fun z => absurd z (by decide), fun _ => am_mem 1336 (w := Cond.instanceMethod yX11_tag) (by decide +kernel) rfl, fun z => absurd z (by decide), fun _ => am_mem 1337 (w := Cond.selects RX11 yX11_tag yX11_tag) (by decide +kernel) rfl, by decide +kernel, by decide +kernel, Nat.le_of_ble_eq_true rfl⟩
abbrev m_X11_thrown : am_M := (yX11_thrown, cX11_thrown, 1, some .int, [])
def f_X11_thrown (a0 : Nat × Nat) (h : am_H) : am_R := m_gI (some a0) 11 0 h fun v1 => m_ri h v1
theorem k_X11_thrown (d : Nat) (hd : 0 ≤ d) (a0 : Nat × Nat) (h : am_H) : am_Con m_X11_thrown d [.inr (.inr (some a0))] h (f_X11_thrown a0 h) := am_con (by decide +kernel) (Nat.le_of_ble_eq_true rfl) (by
  unfold f_X11_thrown
  refine sim_aload_n dX11_thrown_0 rfl ?_
  refine sim_gI 11 0 dX11_thrown_1 rfl wf_RX11_125 (Nat.le_of_ble_eq_true rfl) rfl (fun v1 => ?_)
  exact sim_iret dX11_thrown_4 rfl)
theorem q_X11_thrown : am_Cal m_X11_thrown 0 2 := ⟨am_mem 1247 (w := Cond.code yX11_thrown cX11_thrown 1 (some .int)) (by decide +kernel) rfl, am_mem 64 (w := Cond.initialized RX11) (by decide +kernel) rfl, fun z => absurd z (by decide), fun _ => am_mem 1245 (w := Cond.instanceMethod yX11_thrown) (by decide +kernel) rfl, fun z => absurd z (by decide), fun _ => am_mem 1246 (w := Cond.selects RX11 yX11_thrown yX11_thrown) (by decide +kernel) rfl, by decide +kernel, by decide +kernel, Nat.le_of_ble_eq_true rfl⟩
abbrev m_X11_canBe : am_M := (yX11_canBe, cX11_canBe, 1, some .boolean, [])
def f_X11_canBe_60  (s0 : Int32) (h : am_H) : am_R := m_rz h s0
theorem t_X11_canBe_60 (d : Nat) (hd : 2 ≤ d)  (s0 : Int32) (h : am_H) : Sim m_X11_canBe d 60 [none] [.inl s0] h (f_X11_canBe_60  s0 h) := by
  unfold f_X11_canBe_60
  exact sim_zret dX11_canBe_60 rfl
def f_X11_canBe_55   (h : am_H) : am_R := f_X11_canBe_60 (1 : Int32) h
theorem t_X11_canBe_55 (d : Nat) (hd : 2 ≤ d)   (h : am_H) : Sim m_X11_canBe d 55 [none] [] h (f_X11_canBe_55   h) := by
  unfold f_X11_canBe_55
  refine sim_iconst (1) dX11_canBe_55 (by decide +kernel) ?_
  refine sim_goto 60 dX11_canBe_56 (by decide) ?_
  exact sim_lv (am_leN am_leT) (t_X11_canBe_60 d (by omega) _ _)
def f_X11_canBe (x0 : Int32) (h : am_H) : am_R := m_bI (f_X11_isFigure x0 h) fun h1 v2 => if v2 = 0 then (if x0 = (116 : Int32) then (f_X11_canBe_55 h1) else (if x0 = (97 : Int32) then (f_X11_canBe_55 h1) else (if x0 = (114 : Int32) then (f_X11_canBe_55 h1) else (if x0 = (38 : Int32) then (f_X11_canBe_55 h1) else (if x0 = (124 : Int32) then (f_X11_canBe_55 h1) else (if x0 = (33 : Int32) then (f_X11_canBe_55 h1) else (if x0 = (40 : Int32) then (f_X11_canBe_55 h1) else (if x0 = (41 : Int32) then (f_X11_canBe_55 h1) else (f_X11_canBe_60 (0 : Int32) h1))))))))) else (f_X11_canBe_55 h1)
theorem k_X11_canBe (d : Nat) (hd : 2 ≤ d) (x0 : Int32) (h : am_H) : am_Con m_X11_canBe d [.inl x0] h (f_X11_canBe x0 h) := am_con (by decide +kernel) (Nat.le_of_ble_eq_true rfl) (by
  unfold f_X11_canBe
  refine sim_iload_n dX11_canBe_0 rfl ?_
  refine sim_static (d - 1) dX11_canBe_1 (k_X11_isFigure (d - 1) (by omega) _ _) q_X11_isFigure wm_RX11_194 rfl rfl (by omega) (Nat.le_of_ble_eq_true rfl) am_nI (am_rI fun h1 v2 => ?_) am_eI
  refine sim_if_ne 55 dX11_canBe_4 (by decide) (fun c => ?_) (fun c => ?_)
  · exact sim_lv (am_leN am_leT) (t_X11_canBe_55 d (by omega) _)
  · refine sim_iload_n dX11_canBe_7 rfl ?_
    refine sim_bipush (116) dX11_canBe_8 (by decide +kernel) ?_
    refine sim_ic_eq 55 dX11_canBe_10 (by decide) (fun c => ?_) (fun c => ?_)
    · exact sim_lv (am_leN am_leT) (t_X11_canBe_55 d (by omega) _)
    · refine sim_iload_n dX11_canBe_13 rfl ?_
      refine sim_bipush (97) dX11_canBe_14 (by decide +kernel) ?_
      refine sim_ic_eq 55 dX11_canBe_16 (by decide) (fun c => ?_) (fun c => ?_)
      · exact sim_lv (am_leN am_leT) (t_X11_canBe_55 d (by omega) _)
      · refine sim_iload_n dX11_canBe_19 rfl ?_
        refine sim_bipush (114) dX11_canBe_20 (by decide +kernel) ?_
        refine sim_ic_eq 55 dX11_canBe_22 (by decide) (fun c => ?_) (fun c => ?_)
        · exact sim_lv (am_leN am_leT) (t_X11_canBe_55 d (by omega) _)
        · refine sim_iload_n dX11_canBe_25 rfl ?_
          refine sim_bipush (38) dX11_canBe_26 (by decide +kernel) ?_
          refine sim_ic_eq 55 dX11_canBe_28 (by decide) (fun c => ?_) (fun c => ?_)
          · exact sim_lv (am_leN am_leT) (t_X11_canBe_55 d (by omega) _)
          · refine sim_iload_n dX11_canBe_31 rfl ?_
            refine sim_bipush (124) dX11_canBe_32 (by decide +kernel) ?_
            refine sim_ic_eq 55 dX11_canBe_34 (by decide) (fun c => ?_) (fun c => ?_)
            · exact sim_lv (am_leN am_leT) (t_X11_canBe_55 d (by omega) _)
            · refine sim_iload_n dX11_canBe_37 rfl ?_
              refine sim_bipush (33) dX11_canBe_38 (by decide +kernel) ?_
              refine sim_ic_eq 55 dX11_canBe_40 (by decide) (fun c => ?_) (fun c => ?_)
              · exact sim_lv (am_leN am_leT) (t_X11_canBe_55 d (by omega) _)
              · refine sim_iload_n dX11_canBe_43 rfl ?_
                refine sim_bipush (40) dX11_canBe_44 (by decide +kernel) ?_
                refine sim_ic_eq 55 dX11_canBe_46 (by decide) (fun c => ?_) (fun c => ?_)
                · exact sim_lv (am_leN am_leT) (t_X11_canBe_55 d (by omega) _)
                · refine sim_iload_n dX11_canBe_49 rfl ?_
                  refine sim_bipush (41) dX11_canBe_50 (by decide +kernel) ?_
                  refine sim_ic_ne 59 dX11_canBe_52 (by decide) (fun c => ?_) (fun c => ?_)
                  · refine sim_iconst (0) dX11_canBe_59 (by decide +kernel) ?_
                    exact sim_lv (am_leN am_leT) (t_X11_canBe_60 d (by omega) _ _)
                  · exact sim_lv (am_leN am_leT) (t_X11_canBe_55 d (by omega) _))
theorem q_X11_canBe : am_Cal m_X11_canBe 1 0 := ⟨am_mem 1402 (w := Cond.code yX11_canBe cX11_canBe 1 (some .boolean)) (by decide +kernel) rfl, am_mem 64 (w := Cond.initialized RX11) (by decide +kernel) rfl, fun _ => am_mem 1401 (w := Cond.static yX11_canBe) (by decide +kernel) rfl, fun z => absurd rfl z, fun z => absurd z (by decide), fun z => absurd z (by decide), by decide +kernel, by decide +kernel, Nat.le_of_ble_eq_true rfl⟩
abbrev m_X11_type : am_M := (yX11_type, cX11_type, 6, some .int, [])
def f_X11_type_83  : Nat → Nat × Nat → Int64 → Int32 → Int32 → am_H → am_R
  | 0, _, _, _, _, _ => none
  | n + 1, a0, x1, x3, x5, h => if x3 ≤ x5 then (m_gI (some a0) 11 24 h fun v9 => m_ri h v9) else (m_gR (some a0) 11 25 h fun o10 => m_gI (some a0) 11 24 h fun v11 => m_sI o10 v11 (Int64.toInt32 ((m_lushr x1 ((8 : Int32) * x5)) &&& (255 : Int64))) h fun h12 => m_gI (some a0) 11 24 h12 fun v13 => m_pI (some a0) 11 24 (v13 + (1 : Int32)) h12 fun h14 => (f_X11_type_83  n) a0 x1 x3 (x5 + 1) h14)
theorem t_X11_type_83 (d : Nat) (hd : 3 ≤ d)  : ∀ (n : Nat) (a0 : Nat × Nat) (x1 : Int64) (x3 : Int32) (x5 : Int32) (h : am_H), Sim m_X11_type d 83 [some (.inr (.inr (some a0))), some (.inr (.inl x1)), none, some (.inl x3), none, some (.inl x5)] [] h (f_X11_type_83  n a0 x1 x3 x5 h) := by
  intro n
  induction n with
  | zero => intros; exact sim_none
  | succ n hrc83 =>
    intro a0 x1 x3 x5 h
    rw [f_X11_type_83]
    refine sim_iload dX11_type_83 rfl ?_
    refine sim_iload_n dX11_type_85 rfl ?_
    refine sim_ic_ge 126 dX11_type_86 (by decide) (fun c => ?_) (fun c => ?_)
    · refine sim_aload_n dX11_type_126 rfl ?_
      refine sim_gI 11 24 dX11_type_127 rfl wf_RX11_202 (Nat.le_of_ble_eq_true rfl) rfl (fun v9 => ?_)
      exact sim_iret dX11_type_130 rfl
    · refine sim_aload_n dX11_type_89 rfl ?_
      refine sim_gR 11 25 dX11_type_90 rfl wf_RX11_68 (Nat.le_of_ble_eq_true rfl) rfl (fun o10 => ?_)
      refine sim_aload_n dX11_type_93 rfl ?_
      refine sim_gI 11 24 dX11_type_94 rfl wf_RX11_202 (Nat.le_of_ble_eq_true rfl) rfl (fun v11 => ?_)
      refine sim_lload_n dX11_type_97 rfl ?_
      refine sim_bipush (8) dX11_type_98 (by decide +kernel) ?_
      refine sim_iload dX11_type_100 rfl ?_
      refine sim_imul dX11_type_102 ?_
      refine sim_lushr dX11_type_103 ?_
      refine sim_ldc2 (255) dX11_type_104 wl_RX11_197 ?_
      refine sim_land dX11_type_107 ?_
      refine sim_l2i dX11_type_108 ?_
      refine sim_sI dX11_type_109 (fun h12 => ?_)
      refine sim_aload_n dX11_type_110 rfl ?_
      refine sim_dup_r dX11_type_111 ?_
      refine sim_gI 11 24 dX11_type_112 rfl wf_RX11_202 (Nat.le_of_ble_eq_true rfl) rfl (fun v13 => ?_)
      refine sim_iconst (1) dX11_type_115 (by decide +kernel) ?_
      refine sim_iadd dX11_type_116 ?_
      refine sim_pI 11 24 dX11_type_117 rfl wf_RX11_202 (Nat.le_of_ble_eq_true rfl) rfl (Or.inl rfl) rfl (fun h14 => ?_)
      refine sim_iinc (1) dX11_type_120 rfl (by decide +kernel) (Nat.le_of_ble_eq_true rfl) ?_
      refine sim_goto 83 dX11_type_123 (by decide) ?_
      exact sim_lv (am_leS (am_leS (am_leN (am_leS (am_leN (am_leS am_leT)))))) (hrc83 _ _ _ _ _)
def f_X11_type_72  (a0 : Nat × Nat) (x1 : Int64) (x3 : Int32) (s0 : Int32) (s1 : Option (Nat × Nat)) (h : am_H) : am_R := m_ao s1 11 fun a8 => m_bI (f_X11_holds a8 s0 h) fun h6 v7 => if v7 = 0 then (m_ri h6 (0 : Int32)) else (f_X11_type_83 5000 a0 x1 x3 (0 : Int32) h6)
theorem t_X11_type_72 (d : Nat) (hd : 3 ≤ d)  (a0 : Nat × Nat) (x1 : Int64) (x3 : Int32) (s0 : Int32) (s1 : Option (Nat × Nat)) (h : am_H) : Sim m_X11_type d 72 [some (.inr (.inr (some a0))), some (.inr (.inl x1)), none, some (.inl x3), none, none] [.inl s0, .inr (.inr s1)] h (f_X11_type_72  a0 x1 x3 s0 s1 h) := by
  unfold f_X11_type_72
  refine sim_ao1 (fun a8 e => ?_)
  refine sim_virt (d - 1) e dX11_type_72 (k_X11_holds (d - 1) (by omega) _ _ _) q_X11_holds rfl rfl wm_RX11_142 rfl rfl (by omega) (Nat.le_of_ble_eq_true rfl) am_nI (am_rI fun h6 v7 => ?_) am_eI
  refine sim_if_ne 80 dX11_type_75 (by decide) (fun c => ?_) (fun c => ?_)
  · refine sim_iconst (0) dX11_type_80 (by decide +kernel) ?_
    refine sim_istore dX11_type_81 (Nat.le_of_ble_eq_true rfl) ?_
    exact sim_lv (am_leS (am_leS (am_leN (am_leS (am_leN (am_leS am_leT)))))) (t_X11_type_83 d (by omega) _ _ _ _ _ _)
  · refine sim_iconst (0) dX11_type_78 (by decide +kernel) ?_
    exact sim_iret dX11_type_79 rfl
def f_X11_type_46  (a0 : Nat × Nat) (x1 : Int64) (x3 : Int32) (x4 : Int32) (h : am_H) : am_R := if x4 = 0 then (f_X11_type_72 a0 x1 x3 (1 : Int32) (some a0) h) else (m_gI (some a0) 11 24 h fun v5 => if (v5 + x3) ≤ (60 : Int32) then (f_X11_type_72 a0 x1 x3 (0 : Int32) (some a0) h) else (f_X11_type_72 a0 x1 x3 (2 : Int32) (some a0) h))
theorem t_X11_type_46 (d : Nat) (hd : 3 ≤ d)  (a0 : Nat × Nat) (x1 : Int64) (x3 : Int32) (x4 : Int32) (h : am_H) : Sim m_X11_type d 46 [some (.inr (.inr (some a0))), some (.inr (.inl x1)), none, some (.inl x3), some (.inl x4), none] [] h (f_X11_type_46  a0 x1 x3 x4 h) := by
  unfold f_X11_type_46
  refine sim_aload_n dX11_type_46 rfl ?_
  refine sim_iload dX11_type_47 rfl ?_
  refine sim_if_ne 56 dX11_type_49 (by decide) (fun c => ?_) (fun c => ?_)
  · refine sim_aload_n dX11_type_56 rfl ?_
    refine sim_gI 11 24 dX11_type_57 rfl wf_RX11_202 (Nat.le_of_ble_eq_true rfl) rfl (fun v5 => ?_)
    refine sim_iload_n dX11_type_60 rfl ?_
    refine sim_iadd dX11_type_61 ?_
    refine sim_bipush (60) dX11_type_62 (by decide +kernel) ?_
    refine sim_ic_le 71 dX11_type_64 (by decide) (fun c => ?_) (fun c => ?_)
    · refine sim_iconst (0) dX11_type_71 (by decide +kernel) ?_
      exact sim_lv (am_leS (am_leS (am_leN (am_leS (am_leN (am_leN am_leT)))))) (t_X11_type_72 d (by omega) _ _ _ _ _ _)
    · refine sim_iconst (2) dX11_type_67 (by decide +kernel) ?_
      refine sim_goto 72 dX11_type_68 (by decide) ?_
      exact sim_lv (am_leS (am_leS (am_leN (am_leS (am_leN (am_leN am_leT)))))) (t_X11_type_72 d (by omega) _ _ _ _ _ _)
  · refine sim_iconst (1) dX11_type_52 (by decide +kernel) ?_
    refine sim_goto 72 dX11_type_53 (by decide) ?_
    exact sim_lv (am_leS (am_leS (am_leN (am_leS (am_leN (am_leN am_leT)))))) (t_X11_type_72 d (by omega) _ _ _ _ _ _)
def f_X11_type_12  : Nat → Nat × Nat → Int64 → Int32 → Int32 → Int32 → am_H → am_R
  | 0, _, _, _, _, _, _ => none
  | n + 1, a0, x1, x3, x4, x5, h => if x3 ≤ x5 then (f_X11_type_46 a0 x1 x3 x4 h) else (if x4 = 0 then (f_X11_type_46 a0 x1 x3 x4 h) else (m_bI (f_X11_canBe (Int64.toInt32 ((m_lushr x1 ((8 : Int32) * x5)) &&& (255 : Int64))) h) fun h3 v4 => (f_X11_type_12  n) a0 x1 x3 v4 (x5 + 1) h3))
theorem t_X11_type_12 (d : Nat) (hd : 3 ≤ d)  : ∀ (n : Nat) (a0 : Nat × Nat) (x1 : Int64) (x3 : Int32) (x4 : Int32) (x5 : Int32) (h : am_H), Sim m_X11_type d 12 [some (.inr (.inr (some a0))), some (.inr (.inl x1)), none, some (.inl x3), some (.inl x4), some (.inl x5)] [] h (f_X11_type_12  n a0 x1 x3 x4 x5 h) := by
  intro n
  induction n with
  | zero => intros; exact sim_none
  | succ n hrc12 =>
    intro a0 x1 x3 x4 x5 h
    rw [f_X11_type_12]
    refine sim_iload dX11_type_12 rfl ?_
    refine sim_iload_n dX11_type_14 rfl ?_
    refine sim_ic_ge 46 dX11_type_15 (by decide) (fun c => ?_) (fun c => ?_)
    · exact sim_lv (am_leS (am_leS (am_leN (am_leS (am_leS (am_leN am_leT)))))) (t_X11_type_46 d (by omega) _ _ _ _ _)
    · refine sim_iload dX11_type_18 rfl ?_
      refine sim_if_eq 46 dX11_type_20 (by decide) (fun c => ?_) (fun c => ?_)
      · exact sim_lv (am_leS (am_leS (am_leN (am_leS (am_leS (am_leN am_leT)))))) (t_X11_type_46 d (by omega) _ _ _ _ _)
      · refine sim_lload_n dX11_type_23 rfl ?_
        refine sim_bipush (8) dX11_type_24 (by decide +kernel) ?_
        refine sim_iload dX11_type_26 rfl ?_
        refine sim_imul dX11_type_28 ?_
        refine sim_lushr dX11_type_29 ?_
        refine sim_ldc2 (255) dX11_type_30 wl_RX11_197 ?_
        refine sim_land dX11_type_33 ?_
        refine sim_l2i dX11_type_34 ?_
        refine sim_static (d - 1) dX11_type_35 (k_X11_canBe (d - 1) (by omega) _ _) q_X11_canBe wm_RX11_199 rfl rfl (by omega) (Nat.le_of_ble_eq_true rfl) am_nI (am_rI fun h3 v4 => ?_) am_eI
        refine sim_istore dX11_type_38 (Nat.le_of_ble_eq_true rfl) ?_
        refine sim_iinc (1) dX11_type_40 rfl (by decide +kernel) (Nat.le_of_ble_eq_true rfl) ?_
        refine sim_goto 12 dX11_type_43 (by decide) ?_
        exact sim_lv (am_leS (am_leS (am_leN (am_leS (am_leS (am_leS am_leT)))))) (hrc12 _ _ _ _ _ _)
def f_X11_type (a0 : Nat × Nat) (x1 : Int64) (x3 : Int32) (h : am_H) : am_R := m_bI (f_X11_in x3 (1 : Int32) (8 : Int32) h) fun h1 v2 => f_X11_type_12 5000 a0 x1 x3 v2 (0 : Int32) h1
theorem k_X11_type (d : Nat) (hd : 3 ≤ d) (a0 : Nat × Nat) (x1 : Int64) (x3 : Int32) (h : am_H) : am_Con m_X11_type d [.inr (.inr (some a0)), .inr (.inl x1), .inl x3] h (f_X11_type a0 x1 x3 h) := am_con (by decide +kernel) (Nat.le_of_ble_eq_true rfl) (by
  unfold f_X11_type
  refine sim_iload_n dX11_type_0 rfl ?_
  refine sim_iconst (1) dX11_type_1 (by decide +kernel) ?_
  refine sim_bipush (8) dX11_type_2 (by decide +kernel) ?_
  refine sim_static (d - 1) dX11_type_4 (k_X11_in (d - 1) (by omega) _ _ _ _) q_X11_in wm_RX11_129 rfl rfl (by omega) (Nat.le_of_ble_eq_true rfl) am_nI (am_rI fun h1 v2 => ?_) am_eI
  refine sim_istore dX11_type_7 (Nat.le_of_ble_eq_true rfl) ?_
  refine sim_iconst (0) dX11_type_9 (by decide +kernel) ?_
  refine sim_istore dX11_type_10 (Nat.le_of_ble_eq_true rfl) ?_
  exact sim_lv (am_leS (am_leS (am_leN (am_leS (am_leS (am_leS am_leT)))))) (t_X11_type_12 d (by omega) _ _ _ _ _ _ _))
theorem q_X11_type : am_Cal m_X11_type 2 2 := ⟨am_mem 1398 (w := Cond.code yX11_type cX11_type 6 (some .int)) (by decide +kernel) rfl, am_mem 64 (w := Cond.initialized RX11) (by decide +kernel) rfl, fun z => absurd z (by decide), fun _ => am_mem 1396 (w := Cond.instanceMethod yX11_type) (by decide +kernel) rfl, fun z => absurd z (by decide), fun _ => am_mem 1397 (w := Cond.selects RX11 yX11_type yX11_type) (by decide +kernel) rfl, by decide +kernel, by decide +kernel, Nat.le_of_ble_eq_true rfl⟩
abbrev m_X11_under : am_M := (yX11_under, cX11_under, 3, some .int, [])
def f_X11_under_40  (s0 : Int32) (h : am_H) : am_R := m_ri h s0
theorem t_X11_under_40 (d : Nat) (hd : 3 ≤ d)  (s0 : Int32) (h : am_H) : Sim m_X11_under d 40 [none, none, none] [.inl s0] h (f_X11_under_40  s0 h) := by
  unfold f_X11_under_40
  exact sim_iret dX11_under_40 rfl
def f_X11_under_14  (a0 : Nat × Nat) (x1 : Int32) (x2 : Int32) (s0 : Int32) (s1 : Option (Nat × Nat)) (h : am_H) : am_R := m_ao s1 11 fun a6 => m_bI (f_X11_holds a6 s0 h) fun h4 v5 => if v5 = 0 then (m_ri h4 (0 : Int32)) else (if x2 = 0 then (m_gR (some a0) 11 13 h4 fun o7 => m_aI o7 0 x1 h4 fun v8 => f_X11_under_40 v8 h4) else (m_ao (some a0) 11 fun a11 => m_bI (f_X11_belongs a11 x1 h4) fun h9 v10 => f_X11_under_40 v10 h9))
theorem t_X11_under_14 (d : Nat) (hd : 3 ≤ d)  (a0 : Nat × Nat) (x1 : Int32) (x2 : Int32) (s0 : Int32) (s1 : Option (Nat × Nat)) (h : am_H) : Sim m_X11_under d 14 [some (.inr (.inr (some a0))), some (.inl x1), some (.inl x2)] [.inl s0, .inr (.inr s1)] h (f_X11_under_14  a0 x1 x2 s0 s1 h) := by
  unfold f_X11_under_14
  refine sim_ao1 (fun a6 e => ?_)
  refine sim_virt (d - 1) e dX11_under_14 (k_X11_holds (d - 1) (by omega) _ _ _) q_X11_holds rfl rfl wm_RX11_142 rfl rfl (by omega) (Nat.le_of_ble_eq_true rfl) am_nI (am_rI fun h4 v5 => ?_) am_eI
  refine sim_if_ne 22 dX11_under_17 (by decide) (fun c => ?_) (fun c => ?_)
  · refine sim_iload_n dX11_under_22 rfl ?_
    refine sim_if_eq 34 dX11_under_23 (by decide) (fun c => ?_) (fun c => ?_)
    · refine sim_aload_n dX11_under_34 rfl ?_
      refine sim_gR 11 13 dX11_under_35 rfl wf_RX11_41 (Nat.le_of_ble_eq_true rfl) rfl (fun o7 => ?_)
      refine sim_iload_n dX11_under_38 rfl ?_
      refine sim_aI dX11_under_39 (fun v8 => ?_)
      exact sim_lv (am_leN (am_leN (am_leN am_leT))) (t_X11_under_40 d (by omega) _ _)
    · refine sim_aload_n dX11_under_26 rfl ?_
      refine sim_iload_n dX11_under_27 rfl ?_
      refine sim_ao1 (fun a11 e => ?_)
      refine sim_virt (d - 1) e dX11_under_28 (k_X11_belongs (d - 1) (by omega) _ _ _) q_X11_belongs rfl rfl wm_RX11_181 rfl rfl (by omega) (Nat.le_of_ble_eq_true rfl) am_nI (am_rI fun h9 v10 => ?_) am_eI
      refine sim_goto 40 dX11_under_31 (by decide) ?_
      exact sim_lv (am_leN (am_leN (am_leN am_leT))) (t_X11_under_40 d (by omega) _ _)
  · refine sim_iconst (0) dX11_under_20 (by decide +kernel) ?_
    exact sim_iret dX11_under_21 rfl
def f_X11_under (a0 : Nat × Nat) (x1 : Int32) (x2 : Int32) (h : am_H) : am_R := m_ao (some a0) 11 fun a3 => m_bI (f_X11_isWork a3 x1 h) fun h1 v2 => if v2 = 0 then (f_X11_under_14 a0 x1 x2 (1 : Int32) (some a0) h1) else (f_X11_under_14 a0 x1 x2 (0 : Int32) (some a0) h1)
theorem k_X11_under (d : Nat) (hd : 3 ≤ d) (a0 : Nat × Nat) (x1 : Int32) (x2 : Int32) (h : am_H) : am_Con m_X11_under d [.inr (.inr (some a0)), .inl x1, .inl x2] h (f_X11_under a0 x1 x2 h) := am_con (by decide +kernel) (Nat.le_of_ble_eq_true rfl) (by
  unfold f_X11_under
  refine sim_aload_n dX11_under_0 rfl ?_
  refine sim_aload_n dX11_under_1 rfl ?_
  refine sim_iload_n dX11_under_2 rfl ?_
  refine sim_ao1 (fun a3 e => ?_)
  refine sim_virt (d - 1) e dX11_under_3 (k_X11_isWork (d - 1) (by omega) _ _ _) q_X11_isWork rfl rfl wm_RX11_152 rfl rfl (by omega) (Nat.le_of_ble_eq_true rfl) am_nI (am_rI fun h1 v2 => ?_) am_eI
  refine sim_if_eq 13 dX11_under_6 (by decide) (fun c => ?_) (fun c => ?_)
  · refine sim_iconst (1) dX11_under_13 (by decide +kernel) ?_
    exact sim_lv (am_leS (am_leS (am_leS am_leT))) (t_X11_under_14 d (by omega) _ _ _ _ _ _)
  · refine sim_iconst (0) dX11_under_9 (by decide +kernel) ?_
    refine sim_goto 14 dX11_under_10 (by decide) ?_
    exact sim_lv (am_leS (am_leS (am_leS am_leT))) (t_X11_under_14 d (by omega) _ _ _ _ _ _))
theorem q_X11_under : am_Cal m_X11_under 2 2 := ⟨am_mem 1394 (w := Cond.code yX11_under cX11_under 3 (some .int)) (by decide +kernel) rfl, am_mem 64 (w := Cond.initialized RX11) (by decide +kernel) rfl, fun z => absurd z (by decide), fun _ => am_mem 1392 (w := Cond.instanceMethod yX11_under) (by decide +kernel) rfl, fun z => absurd z (by decide), fun _ => am_mem 1393 (w := Cond.selects RX11 yX11_under yX11_under) (by decide +kernel) rfl, by decide +kernel, by decide +kernel, Nat.le_of_ble_eq_true rfl⟩
abbrev m_X11_waiting : am_M := (yX11_waiting, cX11_waiting, 3, some .int, [])
def f_X11_waiting_34 (rc9 : Nat × Nat → Int32 → Int32 → am_H → am_R) (a0 : Nat × Nat) (x2 : Int32) (s0 : Int32) (s1 : Int32) (h : am_H) : am_R := rc9 a0 (s1 ||| s0) (x2 + 1) h
theorem t_X11_waiting_34 (d : Nat) (hd : 0 ≤ d) (rc9 : Nat × Nat → Int32 → Int32 → am_H → am_R) (hrc9 : ∀ a0 x1 x2 h, Sim m_X11_waiting d 9 [some (.inr (.inr (some a0))), some (.inl x1), some (.inl x2)] [] h (rc9 a0 x1 x2 h)) (a0 : Nat × Nat) (x2 : Int32) (s0 : Int32) (s1 : Int32) (h : am_H) : Sim m_X11_waiting d 34 [some (.inr (.inr (some a0))), none, some (.inl x2)] [.inl s0, .inl s1] h (f_X11_waiting_34 rc9 a0 x2 s0 s1 h) := by
  unfold f_X11_waiting_34
  refine sim_ior dX11_waiting_34 ?_
  refine sim_istore_n dX11_waiting_35 (Nat.le_of_ble_eq_true rfl) ?_
  refine sim_iinc (1) dX11_waiting_36 rfl (by decide +kernel) (Nat.le_of_ble_eq_true rfl) ?_
  refine sim_goto 9 dX11_waiting_39 (by decide) ?_
  exact sim_lv (am_leS (am_leS (am_leS am_leT))) (hrc9 _ _ _ _)
def f_X11_waiting_9  : Nat → Nat × Nat → Int32 → Int32 → am_H → am_R
  | 0, _, _, _, _ => none
  | n + 1, a0, x1, x2, h => m_gI (some a0) 11 4 h fun v2 => if v2 ≤ x2 then (m_ri h x1) else (m_gR (some a0) 11 14 h fun o3 => m_aI o3 1 x2 h fun v4 => if v4 = 0 then (f_X11_waiting_34 (f_X11_waiting_9  n) a0 x2 (0 : Int32) x1 h) else (f_X11_waiting_34 (f_X11_waiting_9  n) a0 x2 ((1 : Int32) <<< (x2 &&& 31)) x1 h))
theorem t_X11_waiting_9 (d : Nat) (hd : 0 ≤ d)  : ∀ (n : Nat) (a0 : Nat × Nat) (x1 : Int32) (x2 : Int32) (h : am_H), Sim m_X11_waiting d 9 [some (.inr (.inr (some a0))), some (.inl x1), some (.inl x2)] [] h (f_X11_waiting_9  n a0 x1 x2 h) := by
  intro n
  induction n with
  | zero => intros; exact sim_none
  | succ n hrc9 =>
    intro a0 x1 x2 h
    rw [f_X11_waiting_9]
    refine sim_iload_n dX11_waiting_9 rfl ?_
    refine sim_aload_n dX11_waiting_10 rfl ?_
    refine sim_gI 11 4 dX11_waiting_11 rfl wf_RX11_133 (Nat.le_of_ble_eq_true rfl) rfl (fun v2 => ?_)
    refine sim_ic_ge 42 dX11_waiting_14 (by decide) (fun c => ?_) (fun c => ?_)
    · refine sim_iload_n dX11_waiting_42 rfl ?_
      exact sim_iret dX11_waiting_43 rfl
    · refine sim_iload_n dX11_waiting_17 rfl ?_
      refine sim_aload_n dX11_waiting_18 rfl ?_
      refine sim_gR 11 14 dX11_waiting_19 rfl wf_RX11_44 (Nat.le_of_ble_eq_true rfl) rfl (fun o3 => ?_)
      refine sim_iload_n dX11_waiting_22 rfl ?_
      refine sim_aZ dX11_waiting_23 (fun v4 => ?_)
      refine sim_if_eq 33 dX11_waiting_24 (by decide) (fun c => ?_) (fun c => ?_)
      · refine sim_iconst (0) dX11_waiting_33 (by decide +kernel) ?_
        exact sim_lv (am_leS (am_leN (am_leS am_leT))) (t_X11_waiting_34 d (by omega) _ hrc9 _ _ _ _ _)
      · refine sim_iconst (1) dX11_waiting_27 (by decide +kernel) ?_
        refine sim_iload_n dX11_waiting_28 rfl ?_
        refine sim_ishl dX11_waiting_29 ?_
        refine sim_goto 34 dX11_waiting_30 (by decide) ?_
        exact sim_lv (am_leS (am_leN (am_leS am_leT))) (t_X11_waiting_34 d (by omega) _ hrc9 _ _ _ _ _)
def f_X11_waiting (a0 : Nat × Nat) (h : am_H) : am_R := m_pI (some a0) 11 0 (0 : Int32) h fun h1 => f_X11_waiting_9 5000 a0 (0 : Int32) (0 : Int32) h1
theorem k_X11_waiting (d : Nat) (hd : 0 ≤ d) (a0 : Nat × Nat) (h : am_H) : am_Con m_X11_waiting d [.inr (.inr (some a0))] h (f_X11_waiting a0 h) := am_con (by decide +kernel) (Nat.le_of_ble_eq_true rfl) (by
  unfold f_X11_waiting
  refine sim_aload_n dX11_waiting_0 rfl ?_
  refine sim_iconst (0) dX11_waiting_1 (by decide +kernel) ?_
  refine sim_pI 11 0 dX11_waiting_2 rfl wf_RX11_125 (Nat.le_of_ble_eq_true rfl) rfl (Or.inl rfl) rfl (fun h1 => ?_)
  refine sim_iconst (0) dX11_waiting_5 (by decide +kernel) ?_
  refine sim_istore_n dX11_waiting_6 (Nat.le_of_ble_eq_true rfl) ?_
  refine sim_iconst (0) dX11_waiting_7 (by decide +kernel) ?_
  refine sim_istore_n dX11_waiting_8 (Nat.le_of_ble_eq_true rfl) ?_
  exact sim_lv (am_leS (am_leS (am_leS am_leT))) (t_X11_waiting_9 d (by omega) _ _ _ _ _))
theorem q_X11_waiting : am_Cal m_X11_waiting 0 2 := ⟨am_mem 1390 (w := Cond.code yX11_waiting cX11_waiting 3 (some .int)) (by decide +kernel) rfl, am_mem 64 (w := Cond.initialized RX11) (by decide +kernel) rfl, fun z => absurd z (by decide), fun _ => am_mem 1388 (w := Cond.instanceMethod yX11_waiting) (by decide +kernel) rfl, fun z => absurd z (by decide), fun _ => am_mem 1389 (w := Cond.selects RX11 yX11_waiting yX11_waiting) (by decide +kernel) rfl, by decide +kernel, by decide +kernel, Nat.le_of_ble_eq_true rfl⟩
abbrev m_X11_wave : am_M := (yX11_wave, cX11_wave, 4, some .int, [])
def f_X11_wave_64  (x2 : Int32) (h : am_H) : am_R := m_ri h x2
theorem t_X11_wave_64 (d : Nat) (hd : 4 ≤ d)  (x2 : Int32) (h : am_H) : Sim m_X11_wave d 64 [none, none, some (.inl x2), none] [] h (f_X11_wave_64  x2 h) := by
  unfold f_X11_wave_64
  refine sim_iload_n dX11_wave_64 rfl ?_
  exact sim_iret dX11_wave_65 rfl
def f_X11_wave_58 (rc28 : Nat × Nat → Int32 → Int32 → Int32 → am_H → am_R) (a0 : Nat × Nat) (x1 : Int32) (x2 : Int32) (x3 : Int32) (h : am_H) : am_R := rc28 a0 x1 x2 (x3 + 1) h
theorem t_X11_wave_58 (d : Nat) (hd : 4 ≤ d) (rc28 : Nat × Nat → Int32 → Int32 → Int32 → am_H → am_R) (hrc28 : ∀ a0 x1 x2 x3 h, Sim m_X11_wave d 28 [some (.inr (.inr (some a0))), some (.inl x1), some (.inl x2), some (.inl x3)] [] h (rc28 a0 x1 x2 x3 h)) (a0 : Nat × Nat) (x1 : Int32) (x2 : Int32) (x3 : Int32) (h : am_H) : Sim m_X11_wave d 58 [some (.inr (.inr (some a0))), some (.inl x1), some (.inl x2), some (.inl x3)] [] h (f_X11_wave_58 rc28 a0 x1 x2 x3 h) := by
  unfold f_X11_wave_58
  refine sim_iinc (1) dX11_wave_58 rfl (by decide +kernel) (Nat.le_of_ble_eq_true rfl) ?_
  refine sim_goto 28 dX11_wave_61 (by decide) ?_
  exact sim_lv (am_leS (am_leS (am_leS (am_leS am_leT)))) (hrc28 _ _ _ _ _)
def f_X11_wave_28  : Nat → Nat × Nat → Int32 → Int32 → Int32 → am_H → am_R
  | 0, _, _, _, _, _ => none
  | n + 1, a0, x1, x2, x3, h => m_gI (some a0) 11 4 h fun v6 => if v6 ≤ x3 then (f_X11_wave_64 x2 h) else (if x1 ≤ x2 then (f_X11_wave_64 x2 h) else (m_gR (some a0) 11 14 h fun o7 => m_aI o7 1 x3 h fun v8 => if v8 = 0 then (f_X11_wave_58 (f_X11_wave_28  n) a0 x1 x2 x3 h) else (m_ao (some a0) 11 fun a11 => m_bV (f_X11_files a11 x3 h) fun h9 => f_X11_wave_58 (f_X11_wave_28  n) a0 x1 (x2 + 1) x3 h9)))
theorem t_X11_wave_28 (d : Nat) (hd : 4 ≤ d)  : ∀ (n : Nat) (a0 : Nat × Nat) (x1 : Int32) (x2 : Int32) (x3 : Int32) (h : am_H), Sim m_X11_wave d 28 [some (.inr (.inr (some a0))), some (.inl x1), some (.inl x2), some (.inl x3)] [] h (f_X11_wave_28  n a0 x1 x2 x3 h) := by
  intro n
  induction n with
  | zero => intros; exact sim_none
  | succ n hrc28 =>
    intro a0 x1 x2 x3 h
    rw [f_X11_wave_28]
    refine sim_iload_n dX11_wave_28 rfl ?_
    refine sim_aload_n dX11_wave_29 rfl ?_
    refine sim_gI 11 4 dX11_wave_30 rfl wf_RX11_133 (Nat.le_of_ble_eq_true rfl) rfl (fun v6 => ?_)
    refine sim_ic_ge 64 dX11_wave_33 (by decide) (fun c => ?_) (fun c => ?_)
    · exact sim_lv (am_leN (am_leN (am_leS (am_leN am_leT)))) (t_X11_wave_64 d (by omega) _ _)
    · refine sim_iload_n dX11_wave_36 rfl ?_
      refine sim_iload_n dX11_wave_37 rfl ?_
      refine sim_ic_ge 64 dX11_wave_38 (by decide) (fun c => ?_) (fun c => ?_)
      · exact sim_lv (am_leN (am_leN (am_leS (am_leN am_leT)))) (t_X11_wave_64 d (by omega) _ _)
      · refine sim_aload_n dX11_wave_41 rfl ?_
        refine sim_gR 11 14 dX11_wave_42 rfl wf_RX11_44 (Nat.le_of_ble_eq_true rfl) rfl (fun o7 => ?_)
        refine sim_iload_n dX11_wave_45 rfl ?_
        refine sim_aZ dX11_wave_46 (fun v8 => ?_)
        refine sim_if_eq 58 dX11_wave_47 (by decide) (fun c => ?_) (fun c => ?_)
        · exact sim_lv (am_leS (am_leS (am_leS (am_leS am_leT)))) (t_X11_wave_58 d (by omega) _ hrc28 _ _ _ _ _)
        · refine sim_aload_n dX11_wave_50 rfl ?_
          refine sim_iload_n dX11_wave_51 rfl ?_
          refine sim_ao1 (fun a11 e => ?_)
          refine sim_virt (d - 1) e dX11_wave_52 (k_X11_files (d - 1) (by omega) _ _ _) q_X11_files rfl rfl wm_RX11_190 rfl rfl (by omega) (Nat.le_of_ble_eq_true rfl) am_nV (am_rV fun h9 => ?_) am_eV
          refine sim_iinc (1) dX11_wave_55 rfl (by decide +kernel) (Nat.le_of_ble_eq_true rfl) ?_
          exact sim_lv (am_leS (am_leS (am_leS (am_leS am_leT)))) (t_X11_wave_58 d (by omega) _ hrc28 _ _ _ _ _)
def f_X11_wave_16  (a0 : Nat × Nat) (x1 : Int32) (s0 : Int32) (s1 : Option (Nat × Nat)) (h : am_H) : am_R := m_ao s1 11 fun a5 => m_bI (f_X11_holds a5 s0 h) fun h3 v4 => if v4 = 0 then (m_ri h3 (0 : Int32)) else (f_X11_wave_28 5000 a0 x1 (0 : Int32) (0 : Int32) h3)
theorem t_X11_wave_16 (d : Nat) (hd : 4 ≤ d)  (a0 : Nat × Nat) (x1 : Int32) (s0 : Int32) (s1 : Option (Nat × Nat)) (h : am_H) : Sim m_X11_wave d 16 [some (.inr (.inr (some a0))), some (.inl x1), none, none] [.inl s0, .inr (.inr s1)] h (f_X11_wave_16  a0 x1 s0 s1 h) := by
  unfold f_X11_wave_16
  refine sim_ao1 (fun a5 e => ?_)
  refine sim_virt (d - 1) e dX11_wave_16 (k_X11_holds (d - 1) (by omega) _ _ _) q_X11_holds rfl rfl wm_RX11_142 rfl rfl (by omega) (Nat.le_of_ble_eq_true rfl) am_nI (am_rI fun h3 v4 => ?_) am_eI
  refine sim_if_ne 24 dX11_wave_19 (by decide) (fun c => ?_) (fun c => ?_)
  · refine sim_iconst (0) dX11_wave_24 (by decide +kernel) ?_
    refine sim_istore_n dX11_wave_25 (Nat.le_of_ble_eq_true rfl) ?_
    refine sim_iconst (0) dX11_wave_26 (by decide +kernel) ?_
    refine sim_istore_n dX11_wave_27 (Nat.le_of_ble_eq_true rfl) ?_
    exact sim_lv (am_leS (am_leS (am_leS (am_leS am_leT)))) (t_X11_wave_28 d (by omega) _ _ _ _ _ _)
  · refine sim_iconst (0) dX11_wave_22 (by decide +kernel) ?_
    exact sim_iret dX11_wave_23 rfl
def f_X11_wave (a0 : Nat × Nat) (x1 : Int32) (h : am_H) : am_R := m_bI (f_X11_in x1 (1 : Int32) (20 : Int32) h) fun h1 v2 => if v2 = 0 then (f_X11_wave_16 a0 x1 (1 : Int32) (some a0) h1) else (f_X11_wave_16 a0 x1 (0 : Int32) (some a0) h1)
theorem k_X11_wave (d : Nat) (hd : 4 ≤ d) (a0 : Nat × Nat) (x1 : Int32) (h : am_H) : am_Con m_X11_wave d [.inr (.inr (some a0)), .inl x1] h (f_X11_wave a0 x1 h) := am_con (by decide +kernel) (Nat.le_of_ble_eq_true rfl) (by
  unfold f_X11_wave
  refine sim_aload_n dX11_wave_0 rfl ?_
  refine sim_iload_n dX11_wave_1 rfl ?_
  refine sim_iconst (1) dX11_wave_2 (by decide +kernel) ?_
  refine sim_bipush (20) dX11_wave_3 (by decide +kernel) ?_
  refine sim_static (d - 1) dX11_wave_5 (k_X11_in (d - 1) (by omega) _ _ _ _) q_X11_in wm_RX11_129 rfl rfl (by omega) (Nat.le_of_ble_eq_true rfl) am_nI (am_rI fun h1 v2 => ?_) am_eI
  refine sim_if_eq 15 dX11_wave_8 (by decide) (fun c => ?_) (fun c => ?_)
  · refine sim_iconst (1) dX11_wave_15 (by decide +kernel) ?_
    exact sim_lv (am_leS (am_leS (am_leN (am_leN am_leT)))) (t_X11_wave_16 d (by omega) _ _ _ _ _)
  · refine sim_iconst (0) dX11_wave_11 (by decide +kernel) ?_
    refine sim_goto 16 dX11_wave_12 (by decide) ?_
    exact sim_lv (am_leS (am_leS (am_leN (am_leN am_leT)))) (t_X11_wave_16 d (by omega) _ _ _ _ _))
theorem q_X11_wave : am_Cal m_X11_wave 1 2 := ⟨am_mem 1386 (w := Cond.code yX11_wave cX11_wave 4 (some .int)) (by decide +kernel) rfl, am_mem 64 (w := Cond.initialized RX11) (by decide +kernel) rfl, fun z => absurd z (by decide), fun _ => am_mem 1384 (w := Cond.instanceMethod yX11_wave) (by decide +kernel) rfl, fun z => absurd z (by decide), fun _ => am_mem 1385 (w := Cond.selects RX11 yX11_wave yX11_wave) (by decide +kernel) rfl, by decide +kernel, by decide +kernel, Nat.le_of_ble_eq_true rfl⟩
abbrev m_X11_wipe : am_M := (yX11_wipe, cX11_wipe, 2, some .int, [])
def f_X11_wipe (a0 : Nat × Nat) (h : am_H) : am_R := m_pI (some a0) 11 0 (0 : Int32) h fun h1 => m_gI (some a0) 11 24 h1 fun v2 => m_pI (some a0) 11 24 (0 : Int32) h1 fun h3 => m_ri h3 v2
theorem k_X11_wipe (d : Nat) (hd : 0 ≤ d) (a0 : Nat × Nat) (h : am_H) : am_Con m_X11_wipe d [.inr (.inr (some a0))] h (f_X11_wipe a0 h) := am_con (by decide +kernel) (Nat.le_of_ble_eq_true rfl) (by
  unfold f_X11_wipe
  refine sim_aload_n dX11_wipe_0 rfl ?_
  refine sim_iconst (0) dX11_wipe_1 (by decide +kernel) ?_
  refine sim_pI 11 0 dX11_wipe_2 rfl wf_RX11_125 (Nat.le_of_ble_eq_true rfl) rfl (Or.inl rfl) rfl (fun h1 => ?_)
  refine sim_aload_n dX11_wipe_5 rfl ?_
  refine sim_gI 11 24 dX11_wipe_6 rfl wf_RX11_202 (Nat.le_of_ble_eq_true rfl) rfl (fun v2 => ?_)
  refine sim_istore_n dX11_wipe_9 (Nat.le_of_ble_eq_true rfl) ?_
  refine sim_aload_n dX11_wipe_10 rfl ?_
  refine sim_iconst (0) dX11_wipe_11 (by decide +kernel) ?_
  refine sim_pI 11 24 dX11_wipe_12 rfl wf_RX11_202 (Nat.le_of_ble_eq_true rfl) rfl (Or.inl rfl) rfl (fun h3 => ?_)
  refine sim_iload_n dX11_wipe_15 rfl ?_
  exact sim_iret dX11_wipe_16 rfl)
theorem q_X11_wipe : am_Cal m_X11_wipe 0 2 := ⟨am_mem 1409 (w := Cond.code yX11_wipe cX11_wipe 2 (some .int)) (by decide +kernel) rfl, am_mem 64 (w := Cond.initialized RX11) (by decide +kernel) rfl, fun z => absurd z (by decide), fun _ => am_mem 1407 (w := Cond.instanceMethod yX11_wipe) (by decide +kernel) rfl, fun z => absurd z (by decide), fun _ => am_mem 1408 (w := Cond.selects RX11 yX11_wipe yX11_wipe) (by decide +kernel) rfl, by decide +kernel, by decide +kernel, Nat.le_of_ble_eq_true rfl⟩
