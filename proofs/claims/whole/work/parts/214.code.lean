abbrev m_X11_match : am_M := (yX11_match, cX11_match, 6, some .int, [])
def f_X11_match_133  (x3 : Int32) (h : am_H) : am_R := m_ri h x3
theorem t_X11_match_133 (d : Nat) (hd : 4 ≤ d)  (x3 : Int32) (h : am_H) : Sim m_X11_match d 133 [none, none, none, some (.inl x3), none, none] [] h (f_X11_match_133  x3 h) := by
  unfold f_X11_match_133
  refine sim_iload_n dX11_match_133 rfl ?_
  exact sim_iret dX11_match_134 rfl
def f_X11_match_114 (rc39 : Nat × Nat → Int32 → Int32 → Int32 → Int32 → am_H → am_R) (rc64 : Nat × Nat → Int32 → Int32 → Int32 → Int32 → Int32 → am_H → am_R) (a0 : Nat × Nat) (x1 : Int32) (x2 : Int32) (x4 : Int32) (x5 : Int32) (s0 : Int32) (h : am_H) : am_R := rc64 a0 x1 x2 s0 x4 (x5 + (-1)) h
theorem t_X11_match_114 (d : Nat) (hd : 4 ≤ d) (rc39 : Nat × Nat → Int32 → Int32 → Int32 → Int32 → am_H → am_R) (hrc39 : ∀ a0 x1 x2 x3 x4 h, Sim m_X11_match d 39 [some (.inr (.inr (some a0))), some (.inl x1), some (.inl x2), some (.inl x3), some (.inl x4), none] [] h (rc39 a0 x1 x2 x3 x4 h)) (rc64 : Nat × Nat → Int32 → Int32 → Int32 → Int32 → Int32 → am_H → am_R) (hrc64 : ∀ a0 x1 x2 x3 x4 x5 h, Sim m_X11_match d 64 [some (.inr (.inr (some a0))), some (.inl x1), some (.inl x2), some (.inl x3), some (.inl x4), some (.inl x5)] [] h (rc64 a0 x1 x2 x3 x4 x5 h)) (a0 : Nat × Nat) (x1 : Int32) (x2 : Int32) (x4 : Int32) (x5 : Int32) (s0 : Int32) (h : am_H) : Sim m_X11_match d 114 [some (.inr (.inr (some a0))), some (.inl x1), some (.inl x2), none, some (.inl x4), some (.inl x5)] [.inl s0] h (f_X11_match_114 rc39 rc64 a0 x1 x2 x4 x5 s0 h) := by
  unfold f_X11_match_114
  refine sim_istore_n dX11_match_114 (Nat.le_of_ble_eq_true rfl) ?_
  refine sim_iinc (-1) dX11_match_115 rfl (by decide +kernel) (Nat.le_of_ble_eq_true rfl) ?_
  refine sim_goto 64 dX11_match_118 (by decide) ?_
  exact sim_lv (am_leS (am_leS (am_leS (am_leS (am_leS (am_leS am_leT)))))) (hrc64 _ _ _ _ _ _ _)
def f_X11_match_113 (rc39 : Nat × Nat → Int32 → Int32 → Int32 → Int32 → am_H → am_R) (rc64 : Nat × Nat → Int32 → Int32 → Int32 → Int32 → Int32 → am_H → am_R) (a0 : Nat × Nat) (x1 : Int32) (x2 : Int32) (x3 : Int32) (x4 : Int32) (x5 : Int32) (h : am_H) : am_R := f_X11_match_114 rc39 rc64 a0 x1 x2 x4 x5 x3 h
theorem t_X11_match_113 (d : Nat) (hd : 4 ≤ d) (rc39 : Nat × Nat → Int32 → Int32 → Int32 → Int32 → am_H → am_R) (hrc39 : ∀ a0 x1 x2 x3 x4 h, Sim m_X11_match d 39 [some (.inr (.inr (some a0))), some (.inl x1), some (.inl x2), some (.inl x3), some (.inl x4), none] [] h (rc39 a0 x1 x2 x3 x4 h)) (rc64 : Nat × Nat → Int32 → Int32 → Int32 → Int32 → Int32 → am_H → am_R) (hrc64 : ∀ a0 x1 x2 x3 x4 x5 h, Sim m_X11_match d 64 [some (.inr (.inr (some a0))), some (.inl x1), some (.inl x2), some (.inl x3), some (.inl x4), some (.inl x5)] [] h (rc64 a0 x1 x2 x3 x4 x5 h)) (a0 : Nat × Nat) (x1 : Int32) (x2 : Int32) (x3 : Int32) (x4 : Int32) (x5 : Int32) (h : am_H) : Sim m_X11_match d 113 [some (.inr (.inr (some a0))), some (.inl x1), some (.inl x2), some (.inl x3), some (.inl x4), some (.inl x5)] [] h (f_X11_match_113 rc39 rc64 a0 x1 x2 x3 x4 x5 h) := by
  unfold f_X11_match_113
  refine sim_iload_n dX11_match_113 rfl ?_
  exact sim_lv (am_leS (am_leS (am_leS (am_leN (am_leS (am_leS am_leT)))))) (t_X11_match_114 d (by omega) _ hrc39 _ hrc64 _ _ _ _ _ _ _)
def f_X11_match_64 (rc39 : Nat × Nat → Int32 → Int32 → Int32 → Int32 → am_H → am_R) : Nat → Nat × Nat → Int32 → Int32 → Int32 → Int32 → Int32 → am_H → am_R
  | 0, _, _, _, _, _, _, _ => none
  | n + 1, a0, x1, x2, x3, x4, x5, h => if x5 < 0 then (rc39 a0 x1 (x2 ||| ((1 : Int32) <<< (x3 &&& 31))) x3 (x4 + 1) h) else (m_bI (f_X11_has x2 x5 h) fun h13 v14 => if v14 = 0 then (m_gR (some a0) 11 35 h13 fun o15 => m_aI o15 1 (((8 : Int32) * x4) + x5) h13 fun v16 => if v16 = 0 then (f_X11_match_113 rc39 (f_X11_match_64 rc39 n) a0 x1 x2 x3 x4 x5 h13) else (m_gR (some a0) 11 36 h13 fun o17 => m_aI o17 0 (x2 ||| ((1 : Int32) <<< (x5 &&& 31))) h13 fun v18 => if v18 ≤ 0 then (f_X11_match_113 rc39 (f_X11_match_64 rc39 n) a0 x1 x2 x3 x4 x5 h13) else (f_X11_match_114 rc39 (f_X11_match_64 rc39 n) a0 x1 x2 x4 x5 x5 h13))) else (f_X11_match_113 rc39 (f_X11_match_64 rc39 n) a0 x1 x2 x3 x4 x5 h13))
theorem t_X11_match_64 (d : Nat) (hd : 4 ≤ d) (rc39 : Nat × Nat → Int32 → Int32 → Int32 → Int32 → am_H → am_R) (hrc39 : ∀ a0 x1 x2 x3 x4 h, Sim m_X11_match d 39 [some (.inr (.inr (some a0))), some (.inl x1), some (.inl x2), some (.inl x3), some (.inl x4), none] [] h (rc39 a0 x1 x2 x3 x4 h)) : ∀ (n : Nat) (a0 : Nat × Nat) (x1 : Int32) (x2 : Int32) (x3 : Int32) (x4 : Int32) (x5 : Int32) (h : am_H), Sim m_X11_match d 64 [some (.inr (.inr (some a0))), some (.inl x1), some (.inl x2), some (.inl x3), some (.inl x4), some (.inl x5)] [] h (f_X11_match_64 rc39 n a0 x1 x2 x3 x4 x5 h) := by
  intro n
  induction n with
  | zero => intros; exact sim_none
  | succ n hrc64 =>
    intro a0 x1 x2 x3 x4 x5 h
    rw [f_X11_match_64]
    refine sim_iload dX11_match_64 rfl ?_
    refine sim_if_lt 121 dX11_match_66 (by decide) (fun c => ?_) (fun c => ?_)
    · refine sim_iload_n dX11_match_121 rfl ?_
      refine sim_iconst (1) dX11_match_122 (by decide +kernel) ?_
      refine sim_iload_n dX11_match_123 rfl ?_
      refine sim_ishl dX11_match_124 ?_
      refine sim_ior dX11_match_125 ?_
      refine sim_istore_n dX11_match_126 (Nat.le_of_ble_eq_true rfl) ?_
      refine sim_iinc (1) dX11_match_127 rfl (by decide +kernel) (Nat.le_of_ble_eq_true rfl) ?_
      refine sim_goto 39 dX11_match_130 (by decide) ?_
      exact sim_lv (am_leS (am_leS (am_leS (am_leS (am_leS (am_leN am_leT)))))) (hrc39 _ _ _ _ _ _)
    · refine sim_iload_n dX11_match_69 rfl ?_
      refine sim_iload dX11_match_70 rfl ?_
      refine sim_static (d - 1) dX11_match_72 (k_X11_has (d - 1) (by omega) _ _ _) q_X11_has wm_RX11_155 rfl rfl (by omega) (Nat.le_of_ble_eq_true rfl) am_nI (am_rI fun h13 v14 => ?_) am_eI
      refine sim_if_ne 113 dX11_match_75 (by decide) (fun c => ?_) (fun c => ?_)
      · exact sim_lv (am_leS (am_leS (am_leS (am_leS (am_leS (am_leS am_leT)))))) (t_X11_match_113 d (by omega) _ hrc39 _ hrc64 _ _ _ _ _ _ _)
      · refine sim_aload_n dX11_match_78 rfl ?_
        refine sim_gR 11 35 dX11_match_79 rfl wf_RX11_92 (Nat.le_of_ble_eq_true rfl) rfl (fun o15 => ?_)
        refine sim_bipush (8) dX11_match_82 (by decide +kernel) ?_
        refine sim_iload dX11_match_84 rfl ?_
        refine sim_imul dX11_match_86 ?_
        refine sim_iload dX11_match_87 rfl ?_
        refine sim_iadd dX11_match_89 ?_
        refine sim_aZ dX11_match_90 (fun v16 => ?_)
        refine sim_if_eq 113 dX11_match_91 (by decide) (fun c => ?_) (fun c => ?_)
        · exact sim_lv (am_leS (am_leS (am_leS (am_leS (am_leS (am_leS am_leT)))))) (t_X11_match_113 d (by omega) _ hrc39 _ hrc64 _ _ _ _ _ _ _)
        · refine sim_aload_n dX11_match_94 rfl ?_
          refine sim_gR 11 36 dX11_match_95 rfl wf_RX11_95 (Nat.le_of_ble_eq_true rfl) rfl (fun o17 => ?_)
          refine sim_iload_n dX11_match_98 rfl ?_
          refine sim_iconst (1) dX11_match_99 (by decide +kernel) ?_
          refine sim_iload dX11_match_100 rfl ?_
          refine sim_ishl dX11_match_102 ?_
          refine sim_ior dX11_match_103 ?_
          refine sim_aI dX11_match_104 (fun v18 => ?_)
          refine sim_if_le 113 dX11_match_105 (by decide) (fun c => ?_) (fun c => ?_)
          · exact sim_lv (am_leS (am_leS (am_leS (am_leS (am_leS (am_leS am_leT)))))) (t_X11_match_113 d (by omega) _ hrc39 _ hrc64 _ _ _ _ _ _ _)
          · refine sim_iload dX11_match_108 rfl ?_
            refine sim_goto 114 dX11_match_110 (by decide) ?_
            exact sim_lv (am_leS (am_leS (am_leS (am_leN (am_leS (am_leS am_leT)))))) (t_X11_match_114 d (by omega) _ hrc39 _ hrc64 _ _ _ _ _ _ _)
def f_X11_match_39  : Nat → Nat × Nat → Int32 → Int32 → Int32 → Int32 → am_H → am_R
  | 0, _, _, _, _, _, _ => none
  | n + 1, a0, x1, x2, x3, x4, h => if x1 < x4 then (f_X11_match_133 x3 h) else (m_gR (some a0) 11 36 h fun o10 => m_aI o10 0 (0 : Int32) h fun v11 => if v11 ≤ 0 then (f_X11_match_133 x3 h) else (m_gI (some a0) 11 30 h fun v12 => f_X11_match_64 (f_X11_match_39  n) 5000 a0 x1 x2 (-1 : Int32) x4 (v12 - (1 : Int32)) h))
theorem t_X11_match_39 (d : Nat) (hd : 4 ≤ d)  : ∀ (n : Nat) (a0 : Nat × Nat) (x1 : Int32) (x2 : Int32) (x3 : Int32) (x4 : Int32) (h : am_H), Sim m_X11_match d 39 [some (.inr (.inr (some a0))), some (.inl x1), some (.inl x2), some (.inl x3), some (.inl x4), none] [] h (f_X11_match_39  n a0 x1 x2 x3 x4 h) := by
  intro n
  induction n with
  | zero => intros; exact sim_none
  | succ n hrc39 =>
    intro a0 x1 x2 x3 x4 h
    rw [f_X11_match_39]
    refine sim_iload dX11_match_39 rfl ?_
    refine sim_iload_n dX11_match_41 rfl ?_
    refine sim_ic_gt 133 dX11_match_42 (by decide) (fun c => ?_) (fun c => ?_)
    · exact sim_lv (am_leN (am_leN (am_leN (am_leS (am_leN (am_leN am_leT)))))) (t_X11_match_133 d (by omega) _ _)
    · refine sim_aload_n dX11_match_45 rfl ?_
      refine sim_gR 11 36 dX11_match_46 rfl wf_RX11_95 (Nat.le_of_ble_eq_true rfl) rfl (fun o10 => ?_)
      refine sim_iconst (0) dX11_match_49 (by decide +kernel) ?_
      refine sim_aI dX11_match_50 (fun v11 => ?_)
      refine sim_if_le 133 dX11_match_51 (by decide) (fun c => ?_) (fun c => ?_)
      · exact sim_lv (am_leN (am_leN (am_leN (am_leS (am_leN (am_leN am_leT)))))) (t_X11_match_133 d (by omega) _ _)
      · refine sim_iconst (-1) dX11_match_54 (by decide +kernel) ?_
        refine sim_istore_n dX11_match_55 (Nat.le_of_ble_eq_true rfl) ?_
        refine sim_aload_n dX11_match_56 rfl ?_
        refine sim_gI 11 30 dX11_match_57 rfl wf_RX11_239 (Nat.le_of_ble_eq_true rfl) rfl (fun v12 => ?_)
        refine sim_iconst (1) dX11_match_60 (by decide +kernel) ?_
        refine sim_isub dX11_match_61 ?_
        refine sim_istore dX11_match_62 (Nat.le_of_ble_eq_true rfl) ?_
        exact sim_lv (am_leS (am_leS (am_leS (am_leS (am_leS (am_leS am_leT)))))) (t_X11_match_64 d (by omega) _ hrc39 _ _ _ _ _ _ _ _)
def f_X11_match_20  (a0 : Nat × Nat) (x1 : Int32) (s0 : Int32) (s1 : Option (Nat × Nat)) (h : am_H) : am_R := m_ao s1 11 fun a6 => m_bI (f_X11_holds a6 s0 h) fun h4 v5 => if v5 = 0 then (m_ri h4 (0 : Int32)) else (m_ao (some a0) 11 fun a9 => m_bV (f_X11_counts a9 h4) fun h7 => f_X11_match_39 5000 a0 x1 (0 : Int32) (-1 : Int32) (0 : Int32) h7)
theorem t_X11_match_20 (d : Nat) (hd : 4 ≤ d)  (a0 : Nat × Nat) (x1 : Int32) (s0 : Int32) (s1 : Option (Nat × Nat)) (h : am_H) : Sim m_X11_match d 20 [some (.inr (.inr (some a0))), some (.inl x1), none, none, none, none] [.inl s0, .inr (.inr s1)] h (f_X11_match_20  a0 x1 s0 s1 h) := by
  unfold f_X11_match_20
  refine sim_ao1 (fun a6 e => ?_)
  refine sim_virt (d - 1) e dX11_match_20 (k_X11_holds (d - 1) (by omega) _ _ _) q_X11_holds rfl rfl wm_RX11_142 rfl rfl (by omega) (Nat.le_of_ble_eq_true rfl) am_nI (am_rI fun h4 v5 => ?_) am_eI
  refine sim_if_ne 28 dX11_match_23 (by decide) (fun c => ?_) (fun c => ?_)
  · refine sim_aload_n dX11_match_28 rfl ?_
    refine sim_ao0 (fun a9 e => ?_)
    refine sim_virt (d - 1) e dX11_match_29 (k_X11_counts (d - 1) (by omega) _  _) q_X11_counts rfl rfl wm_RX11_245 rfl rfl (by omega) (Nat.le_of_ble_eq_true rfl) am_nV (am_rV fun h7 => ?_) am_eV
    refine sim_iconst (0) dX11_match_32 (by decide +kernel) ?_
    refine sim_istore_n dX11_match_33 (Nat.le_of_ble_eq_true rfl) ?_
    refine sim_iconst (-1) dX11_match_34 (by decide +kernel) ?_
    refine sim_istore_n dX11_match_35 (Nat.le_of_ble_eq_true rfl) ?_
    refine sim_iconst (0) dX11_match_36 (by decide +kernel) ?_
    refine sim_istore dX11_match_37 (Nat.le_of_ble_eq_true rfl) ?_
    exact sim_lv (am_leS (am_leS (am_leS (am_leS (am_leS (am_leN am_leT)))))) (t_X11_match_39 d (by omega) _ _ _ _ _ _ _)
  · refine sim_iconst (0) dX11_match_26 (by decide +kernel) ?_
    exact sim_iret dX11_match_27 rfl
def f_X11_match (a0 : Nat × Nat) (x1 : Int32) (h : am_H) : am_R := m_gI (some a0) 11 30 h fun v1 => m_bI (f_X11_in x1 (0 : Int32) (v1 - (1 : Int32)) h) fun h2 v3 => if v3 = 0 then (f_X11_match_20 a0 x1 (1 : Int32) (some a0) h2) else (f_X11_match_20 a0 x1 (0 : Int32) (some a0) h2)
theorem k_X11_match (d : Nat) (hd : 4 ≤ d) (a0 : Nat × Nat) (x1 : Int32) (h : am_H) : am_Con m_X11_match d [.inr (.inr (some a0)), .inl x1] h (f_X11_match a0 x1 h) := am_con (by decide +kernel) (Nat.le_of_ble_eq_true rfl) (by
  unfold f_X11_match
  refine sim_aload_n dX11_match_0 rfl ?_
  refine sim_iload_n dX11_match_1 rfl ?_
  refine sim_iconst (0) dX11_match_2 (by decide +kernel) ?_
  refine sim_aload_n dX11_match_3 rfl ?_
  refine sim_gI 11 30 dX11_match_4 rfl wf_RX11_239 (Nat.le_of_ble_eq_true rfl) rfl (fun v1 => ?_)
  refine sim_iconst (1) dX11_match_7 (by decide +kernel) ?_
  refine sim_isub dX11_match_8 ?_
  refine sim_static (d - 1) dX11_match_9 (k_X11_in (d - 1) (by omega) _ _ _ _) q_X11_in wm_RX11_129 rfl rfl (by omega) (Nat.le_of_ble_eq_true rfl) am_nI (am_rI fun h2 v3 => ?_) am_eI
  refine sim_if_eq 19 dX11_match_12 (by decide) (fun c => ?_) (fun c => ?_)
  · refine sim_iconst (1) dX11_match_19 (by decide +kernel) ?_
    exact sim_lv (am_leS (am_leS (am_leN (am_leN (am_leN (am_leN am_leT)))))) (t_X11_match_20 d (by omega) _ _ _ _ _)
  · refine sim_iconst (0) dX11_match_15 (by decide +kernel) ?_
    refine sim_goto 20 dX11_match_16 (by decide) ?_
    exact sim_lv (am_leS (am_leS (am_leN (am_leN (am_leN (am_leN am_leT)))))) (t_X11_match_20 d (by omega) _ _ _ _ _))
theorem q_X11_match : am_Cal m_X11_match 1 2 := ⟨am_mem 1464 (w := Cond.code yX11_match cX11_match 6 (some .int)) (by decide +kernel) rfl, am_mem 64 (w := Cond.initialized RX11) (by decide +kernel) rfl, fun z => absurd z (by decide), fun _ => am_mem 1462 (w := Cond.instanceMethod yX11_match) (by decide +kernel) rfl, fun z => absurd z (by decide), fun _ => am_mem 1463 (w := Cond.selects RX11 yX11_match yX11_match) (by decide +kernel) rfl, by decide +kernel, by decide +kernel, Nat.le_of_ble_eq_true rfl⟩
abbrev m_X11_matches : am_M := (yX11_matches, cX11_matches, 1, some .int, [])
def f_X11_matches (a0 : Nat × Nat) (h : am_H) : am_R := m_pI (some a0) 11 0 (0 : Int32) h fun h1 => m_ao (some a0) 11 fun a4 => m_bV (f_X11_counts a4 h1) fun h2 => m_gR (some a0) 11 36 h2 fun o5 => m_aI o5 0 (0 : Int32) h2 fun v6 => m_ri h2 v6
theorem k_X11_matches (d : Nat) (hd : 4 ≤ d) (a0 : Nat × Nat) (h : am_H) : am_Con m_X11_matches d [.inr (.inr (some a0))] h (f_X11_matches a0 h) := am_con (by decide +kernel) (Nat.le_of_ble_eq_true rfl) (by
  unfold f_X11_matches
  refine sim_aload_n dX11_matches_0 rfl ?_
  refine sim_iconst (0) dX11_matches_1 (by decide +kernel) ?_
  refine sim_pI 11 0 dX11_matches_2 rfl wf_RX11_125 (Nat.le_of_ble_eq_true rfl) rfl (Or.inl rfl) rfl (fun h1 => ?_)
  refine sim_aload_n dX11_matches_5 rfl ?_
  refine sim_ao0 (fun a4 e => ?_)
  refine sim_virt (d - 1) e dX11_matches_6 (k_X11_counts (d - 1) (by omega) _  _) q_X11_counts rfl rfl wm_RX11_245 rfl rfl (by omega) (Nat.le_of_ble_eq_true rfl) am_nV (am_rV fun h2 => ?_) am_eV
  refine sim_aload_n dX11_matches_9 rfl ?_
  refine sim_gR 11 36 dX11_matches_10 rfl wf_RX11_95 (Nat.le_of_ble_eq_true rfl) rfl (fun o5 => ?_)
  refine sim_iconst (0) dX11_matches_13 (by decide +kernel) ?_
  refine sim_aI dX11_matches_14 (fun v6 => ?_)
  exact sim_iret dX11_matches_15 rfl)
theorem q_X11_matches : am_Cal m_X11_matches 0 2 := ⟨am_mem 1476 (w := Cond.code yX11_matches cX11_matches 1 (some .int)) (by decide +kernel) rfl, am_mem 64 (w := Cond.initialized RX11) (by decide +kernel) rfl, fun z => absurd z (by decide), fun _ => am_mem 1474 (w := Cond.instanceMethod yX11_matches) (by decide +kernel) rfl, fun z => absurd z (by decide), fun _ => am_mem 1475 (w := Cond.selects RX11 yX11_matches yX11_matches) (by decide +kernel) rfl, by decide +kernel, by decide +kernel, Nat.le_of_ble_eq_true rfl⟩
abbrev m_X11_merge : am_M := (yX11_merge, cX11_merge, 6, some .int, [])
def f_X11_merge_204 (rc108 : Nat × Nat → Int32 → Int32 → Int32 → Int32 → am_H → am_R) (a0 : Nat × Nat) (x1 : Int32) (x2 : Int32) (x4 : Int32) (x5 : Int32) (s0 : Int32) (s1 : Int32) (s2 : Option (Nat × Nat)) (h : am_H) : am_R := m_sI s2 s1 s0 h fun h52 => rc108 a0 x1 x2 x4 (x5 + 1) h52
theorem t_X11_merge_204 (d : Nat) (hd : 2 ≤ d) (rc108 : Nat × Nat → Int32 → Int32 → Int32 → Int32 → am_H → am_R) (hrc108 : ∀ a0 x1 x2 x4 x5 h, Sim m_X11_merge d 108 [some (.inr (.inr (some a0))), some (.inl x1), some (.inl x2), none, some (.inl x4), some (.inl x5)] [] h (rc108 a0 x1 x2 x4 x5 h)) (a0 : Nat × Nat) (x1 : Int32) (x2 : Int32) (x4 : Int32) (x5 : Int32) (s0 : Int32) (s1 : Int32) (s2 : Option (Nat × Nat)) (h : am_H) : Sim m_X11_merge d 204 [some (.inr (.inr (some a0))), some (.inl x1), some (.inl x2), none, some (.inl x4), some (.inl x5)] [.inl s0, .inl s1, .inr (.inr s2)] h (f_X11_merge_204 rc108 a0 x1 x2 x4 x5 s0 s1 s2 h) := by
  unfold f_X11_merge_204
  refine sim_sI dX11_merge_204 (fun h52 => ?_)
  refine sim_iinc (1) dX11_merge_205 rfl (by decide +kernel) (Nat.le_of_ble_eq_true rfl) ?_
  refine sim_goto 108 dX11_merge_208 (by decide) ?_
  exact sim_lv (am_leS (am_leS (am_leS (am_leN (am_leS (am_leS am_leT)))))) (hrc108 _ _ _ _ _ _)
def f_X11_merge_156 (rc108 : Nat × Nat → Int32 → Int32 → Int32 → Int32 → am_H → am_R) (a0 : Nat × Nat) (x1 : Int32) (x2 : Int32) (x4 : Int32) (x5 : Int32) (s0 : Int32) (s1 : Int32) (s2 : Option (Nat × Nat)) (h : am_H) : am_R := m_sI s2 s1 s0 h fun h42 => m_gR (some a0) 11 23 h42 fun o43 => m_gR (some a0) 11 23 h42 fun o44 => m_aI o44 0 x5 h42 fun v45 => m_bI (f_X11_has v45 x1 h42) fun h46 v47 => if v47 = 0 then (m_gR (some a0) 11 23 h46 fun o48 => m_aI o48 0 x5 h46 fun v49 => f_X11_merge_204 rc108 a0 x1 x2 x4 x5 v49 x5 o43 h46) else (m_gR (some a0) 11 23 h46 fun o50 => m_aI o50 0 x5 h46 fun v51 => f_X11_merge_204 rc108 a0 x1 x2 x4 x5 ((v51 &&& (((1 : Int32) <<< (x1 &&& 31)) ^^^ (-1 : Int32))) ||| ((1 : Int32) <<< (x2 &&& 31))) x5 o43 h46)
theorem t_X11_merge_156 (d : Nat) (hd : 2 ≤ d) (rc108 : Nat × Nat → Int32 → Int32 → Int32 → Int32 → am_H → am_R) (hrc108 : ∀ a0 x1 x2 x4 x5 h, Sim m_X11_merge d 108 [some (.inr (.inr (some a0))), some (.inl x1), some (.inl x2), none, some (.inl x4), some (.inl x5)] [] h (rc108 a0 x1 x2 x4 x5 h)) (a0 : Nat × Nat) (x1 : Int32) (x2 : Int32) (x4 : Int32) (x5 : Int32) (s0 : Int32) (s1 : Int32) (s2 : Option (Nat × Nat)) (h : am_H) : Sim m_X11_merge d 156 [some (.inr (.inr (some a0))), some (.inl x1), some (.inl x2), none, some (.inl x4), some (.inl x5)] [.inl s0, .inl s1, .inr (.inr s2)] h (f_X11_merge_156 rc108 a0 x1 x2 x4 x5 s0 s1 s2 h) := by
  unfold f_X11_merge_156
  refine sim_sI dX11_merge_156 (fun h42 => ?_)
  refine sim_aload_n dX11_merge_157 rfl ?_
  refine sim_gR 11 23 dX11_merge_158 rfl wf_RX11_65 (Nat.le_of_ble_eq_true rfl) rfl (fun o43 => ?_)
  refine sim_iload dX11_merge_161 rfl ?_
  refine sim_aload_n dX11_merge_163 rfl ?_
  refine sim_gR 11 23 dX11_merge_164 rfl wf_RX11_65 (Nat.le_of_ble_eq_true rfl) rfl (fun o44 => ?_)
  refine sim_iload dX11_merge_167 rfl ?_
  refine sim_aI dX11_merge_169 (fun v45 => ?_)
  refine sim_iload_n dX11_merge_170 rfl ?_
  refine sim_static (d - 1) dX11_merge_171 (k_X11_has (d - 1) (by omega) _ _ _) q_X11_has wm_RX11_155 rfl rfl (by omega) (Nat.le_of_ble_eq_true rfl) am_nI (am_rI fun h46 v47 => ?_) am_eI
  refine sim_if_eq 197 dX11_merge_174 (by decide) (fun c => ?_) (fun c => ?_)
  · refine sim_aload_n dX11_merge_197 rfl ?_
    refine sim_gR 11 23 dX11_merge_198 rfl wf_RX11_65 (Nat.le_of_ble_eq_true rfl) rfl (fun o48 => ?_)
    refine sim_iload dX11_merge_201 rfl ?_
    refine sim_aI dX11_merge_203 (fun v49 => ?_)
    exact sim_lv (am_leS (am_leS (am_leS (am_leN (am_leS (am_leS am_leT)))))) (t_X11_merge_204 d (by omega) _ hrc108 _ _ _ _ _ _ _ _ _)
  · refine sim_aload_n dX11_merge_177 rfl ?_
    refine sim_gR 11 23 dX11_merge_178 rfl wf_RX11_65 (Nat.le_of_ble_eq_true rfl) rfl (fun o50 => ?_)
    refine sim_iload dX11_merge_181 rfl ?_
    refine sim_aI dX11_merge_183 (fun v51 => ?_)
    refine sim_iconst (1) dX11_merge_184 (by decide +kernel) ?_
    refine sim_iload_n dX11_merge_185 rfl ?_
    refine sim_ishl dX11_merge_186 ?_
    refine sim_iconst (-1) dX11_merge_187 (by decide +kernel) ?_
    refine sim_ixor dX11_merge_188 ?_
    refine sim_iand dX11_merge_189 ?_
    refine sim_iconst (1) dX11_merge_190 (by decide +kernel) ?_
    refine sim_iload_n dX11_merge_191 rfl ?_
    refine sim_ishl dX11_merge_192 ?_
    refine sim_ior dX11_merge_193 ?_
    refine sim_goto 204 dX11_merge_194 (by decide) ?_
    exact sim_lv (am_leS (am_leS (am_leS (am_leN (am_leS (am_leS am_leT)))))) (t_X11_merge_204 d (by omega) _ hrc108 _ _ _ _ _ _ _ _ _)
def f_X11_merge_149 (rc108 : Nat × Nat → Int32 → Int32 → Int32 → Int32 → am_H → am_R) (a0 : Nat × Nat) (x1 : Int32) (x2 : Int32) (x4 : Int32) (x5 : Int32) (s0 : Int32) (s1 : Option (Nat × Nat)) (h : am_H) : am_R := m_gR (some a0) 11 22 h fun o53 => m_aI o53 0 x5 h fun v54 => f_X11_merge_156 rc108 a0 x1 x2 x4 x5 v54 s0 s1 h
theorem t_X11_merge_149 (d : Nat) (hd : 2 ≤ d) (rc108 : Nat × Nat → Int32 → Int32 → Int32 → Int32 → am_H → am_R) (hrc108 : ∀ a0 x1 x2 x4 x5 h, Sim m_X11_merge d 108 [some (.inr (.inr (some a0))), some (.inl x1), some (.inl x2), none, some (.inl x4), some (.inl x5)] [] h (rc108 a0 x1 x2 x4 x5 h)) (a0 : Nat × Nat) (x1 : Int32) (x2 : Int32) (x4 : Int32) (x5 : Int32) (s0 : Int32) (s1 : Option (Nat × Nat)) (h : am_H) : Sim m_X11_merge d 149 [some (.inr (.inr (some a0))), some (.inl x1), some (.inl x2), none, some (.inl x4), some (.inl x5)] [.inl s0, .inr (.inr s1)] h (f_X11_merge_149 rc108 a0 x1 x2 x4 x5 s0 s1 h) := by
  unfold f_X11_merge_149
  refine sim_aload_n dX11_merge_149 rfl ?_
  refine sim_gR 11 22 dX11_merge_150 rfl wf_RX11_62 (Nat.le_of_ble_eq_true rfl) rfl (fun o53 => ?_)
  refine sim_iload dX11_merge_153 rfl ?_
  refine sim_aI dX11_merge_155 (fun v54 => ?_)
  exact sim_lv (am_leS (am_leS (am_leS (am_leN (am_leS (am_leS am_leT)))))) (t_X11_merge_156 d (by omega) _ hrc108 _ _ _ _ _ _ _ _ _)
def f_X11_merge_108  : Nat → Nat × Nat → Int32 → Int32 → Int32 → Int32 → am_H → am_R
  | 0, _, _, _, _, _, _ => none
  | n + 1, a0, x1, x2, x4, x5, h => m_gI (some a0) 11 20 h fun v27 => if v27 ≤ x5 then (m_gR (some a0) 11 21 h fun o28 => m_sI o28 x1 (2 : Int32) h fun h29 => m_gR (some a0) 11 22 h29 fun o30 => m_sI o30 x1 x2 h29 fun h31 => m_gR (some a0) 11 23 h31 fun o32 => m_sI o32 x1 (0 : Int32) h31 fun h33 => m_ao (some a0) 11 fun a36 => m_bV (f_X11_letsWait a36 h33) fun h34 => m_ri h34 x4) else (m_gR (some a0) 11 22 h fun o37 => m_gR (some a0) 11 21 h fun o38 => m_aI o38 0 x5 h fun v39 => if v39 = (2 : Int32) then (m_gR (some a0) 11 22 h fun o40 => m_aI o40 0 x5 h fun v41 => if v41 = x1 then (f_X11_merge_156 (f_X11_merge_108  n) a0 x1 x2 x4 x5 x2 x5 o37 h) else (f_X11_merge_149 (f_X11_merge_108  n) a0 x1 x2 x4 x5 x5 o37 h)) else (f_X11_merge_149 (f_X11_merge_108  n) a0 x1 x2 x4 x5 x5 o37 h))
theorem t_X11_merge_108 (d : Nat) (hd : 2 ≤ d)  : ∀ (n : Nat) (a0 : Nat × Nat) (x1 : Int32) (x2 : Int32) (x4 : Int32) (x5 : Int32) (h : am_H), Sim m_X11_merge d 108 [some (.inr (.inr (some a0))), some (.inl x1), some (.inl x2), none, some (.inl x4), some (.inl x5)] [] h (f_X11_merge_108  n a0 x1 x2 x4 x5 h) := by
  intro n
  induction n with
  | zero => intros; exact sim_none
  | succ n hrc108 =>
    intro a0 x1 x2 x4 x5 h
    rw [f_X11_merge_108]
    refine sim_iload dX11_merge_108 rfl ?_
    refine sim_aload_n dX11_merge_110 rfl ?_
    refine sim_gI 11 20 dX11_merge_111 rfl wf_RX11_136 (Nat.le_of_ble_eq_true rfl) rfl (fun v27 => ?_)
    refine sim_ic_ge 211 dX11_merge_114 (by decide) (fun c => ?_) (fun c => ?_)
    · refine sim_aload_n dX11_merge_211 rfl ?_
      refine sim_gR 11 21 dX11_merge_212 rfl wf_RX11_59 (Nat.le_of_ble_eq_true rfl) rfl (fun o28 => ?_)
      refine sim_iload_n dX11_merge_215 rfl ?_
      refine sim_iconst (2) dX11_merge_216 (by decide +kernel) ?_
      refine sim_sI dX11_merge_217 (fun h29 => ?_)
      refine sim_aload_n dX11_merge_218 rfl ?_
      refine sim_gR 11 22 dX11_merge_219 rfl wf_RX11_62 (Nat.le_of_ble_eq_true rfl) rfl (fun o30 => ?_)
      refine sim_iload_n dX11_merge_222 rfl ?_
      refine sim_iload_n dX11_merge_223 rfl ?_
      refine sim_sI dX11_merge_224 (fun h31 => ?_)
      refine sim_aload_n dX11_merge_225 rfl ?_
      refine sim_gR 11 23 dX11_merge_226 rfl wf_RX11_65 (Nat.le_of_ble_eq_true rfl) rfl (fun o32 => ?_)
      refine sim_iload_n dX11_merge_229 rfl ?_
      refine sim_iconst (0) dX11_merge_230 (by decide +kernel) ?_
      refine sim_sI dX11_merge_231 (fun h33 => ?_)
      refine sim_aload_n dX11_merge_232 rfl ?_
      refine sim_ao0 (fun a36 e => ?_)
      refine sim_virt (d - 1) e dX11_merge_233 (k_X11_letsWait (d - 1) (by omega) _  _) q_X11_letsWait rfl rfl wm_RX11_187 rfl rfl (by omega) (Nat.le_of_ble_eq_true rfl) am_nV (am_rV fun h34 => ?_) am_eV
      refine sim_iload dX11_merge_236 rfl ?_
      exact sim_iret dX11_merge_238 rfl
    · refine sim_aload_n dX11_merge_117 rfl ?_
      refine sim_gR 11 22 dX11_merge_118 rfl wf_RX11_62 (Nat.le_of_ble_eq_true rfl) rfl (fun o37 => ?_)
      refine sim_iload dX11_merge_121 rfl ?_
      refine sim_aload_n dX11_merge_123 rfl ?_
      refine sim_gR 11 21 dX11_merge_124 rfl wf_RX11_59 (Nat.le_of_ble_eq_true rfl) rfl (fun o38 => ?_)
      refine sim_iload dX11_merge_127 rfl ?_
      refine sim_aI dX11_merge_129 (fun v39 => ?_)
      refine sim_iconst (2) dX11_merge_130 (by decide +kernel) ?_
      refine sim_ic_ne 149 dX11_merge_131 (by decide) (fun c => ?_) (fun c => ?_)
      · exact sim_lv (am_leS (am_leS (am_leS (am_leN (am_leS (am_leS am_leT)))))) (t_X11_merge_149 d (by omega) _ hrc108 _ _ _ _ _ _ _ _)
      · refine sim_aload_n dX11_merge_134 rfl ?_
        refine sim_gR 11 22 dX11_merge_135 rfl wf_RX11_62 (Nat.le_of_ble_eq_true rfl) rfl (fun o40 => ?_)
        refine sim_iload dX11_merge_138 rfl ?_
        refine sim_aI dX11_merge_140 (fun v41 => ?_)
        refine sim_iload_n dX11_merge_141 rfl ?_
        refine sim_ic_ne 149 dX11_merge_142 (by decide) (fun c => ?_) (fun c => ?_)
        · exact sim_lv (am_leS (am_leS (am_leS (am_leN (am_leS (am_leS am_leT)))))) (t_X11_merge_149 d (by omega) _ hrc108 _ _ _ _ _ _ _ _)
        · refine sim_iload_n dX11_merge_145 rfl ?_
          refine sim_goto 156 dX11_merge_146 (by decide) ?_
          exact sim_lv (am_leS (am_leS (am_leS (am_leN (am_leS (am_leS am_leT)))))) (t_X11_merge_156 d (by omega) _ hrc108 _ _ _ _ _ _ _ _ _)
def f_X11_merge_89  (a0 : Nat × Nat) (x1 : Int32) (x2 : Int32) (s0 : Int32) (s1 : Option (Nat × Nat)) (h : am_H) : am_R := m_ao s1 11 fun a24 => m_bI (f_X11_holds a24 s0 h) fun h22 v23 => if v23 = 0 then (m_ri h22 (0 : Int32)) else (m_gR (some a0) 11 21 h22 fun o25 => m_aI o25 0 x1 h22 fun v26 => f_X11_merge_108 5000 a0 x1 x2 v26 (0 : Int32) h22)
theorem t_X11_merge_89 (d : Nat) (hd : 2 ≤ d)  (a0 : Nat × Nat) (x1 : Int32) (x2 : Int32) (s0 : Int32) (s1 : Option (Nat × Nat)) (h : am_H) : Sim m_X11_merge d 89 [some (.inr (.inr (some a0))), some (.inl x1), some (.inl x2), none, none, none] [.inl s0, .inr (.inr s1)] h (f_X11_merge_89  a0 x1 x2 s0 s1 h) := by
  unfold f_X11_merge_89
  refine sim_ao1 (fun a24 e => ?_)
  refine sim_virt (d - 1) e dX11_merge_89 (k_X11_holds (d - 1) (by omega) _ _ _) q_X11_holds rfl rfl wm_RX11_142 rfl rfl (by omega) (Nat.le_of_ble_eq_true rfl) am_nI (am_rI fun h22 v23 => ?_) am_eI
  refine sim_if_ne 97 dX11_merge_92 (by decide) (fun c => ?_) (fun c => ?_)
  · refine sim_aload_n dX11_merge_97 rfl ?_
    refine sim_gR 11 21 dX11_merge_98 rfl wf_RX11_59 (Nat.le_of_ble_eq_true rfl) rfl (fun o25 => ?_)
    refine sim_iload_n dX11_merge_101 rfl ?_
    refine sim_aI dX11_merge_102 (fun v26 => ?_)
    refine sim_istore dX11_merge_103 (Nat.le_of_ble_eq_true rfl) ?_
    refine sim_iconst (0) dX11_merge_105 (by decide +kernel) ?_
    refine sim_istore dX11_merge_106 (Nat.le_of_ble_eq_true rfl) ?_
    exact sim_lv (am_leS (am_leS (am_leS (am_leN (am_leS (am_leS am_leT)))))) (t_X11_merge_108 d (by omega) _ _ _ _ _ _ _)
  · refine sim_iconst (0) dX11_merge_95 (by decide +kernel) ?_
    exact sim_iret dX11_merge_96 rfl
def f_X11_merge_84  (a0 : Nat × Nat) (x1 : Int32) (x2 : Int32) (s0 : Option (Nat × Nat)) (h : am_H) : am_R := f_X11_merge_89 a0 x1 x2 (3 : Int32) s0 h
theorem t_X11_merge_84 (d : Nat) (hd : 2 ≤ d)  (a0 : Nat × Nat) (x1 : Int32) (x2 : Int32) (s0 : Option (Nat × Nat)) (h : am_H) : Sim m_X11_merge d 84 [some (.inr (.inr (some a0))), some (.inl x1), some (.inl x2), none, none, none] [.inr (.inr s0)] h (f_X11_merge_84  a0 x1 x2 s0 h) := by
  unfold f_X11_merge_84
  refine sim_iconst (3) dX11_merge_84 (by decide +kernel) ?_
  refine sim_goto 89 dX11_merge_85 (by decide) ?_
  exact sim_lv (am_leS (am_leS (am_leS (am_leN (am_leN (am_leN am_leT)))))) (t_X11_merge_89 d (by omega) _ _ _ _ _ _)
def f_X11_merge_41  (a0 : Nat × Nat) (x1 : Int32) (x2 : Int32) (s0 : Int32) (s1 : Option (Nat × Nat)) (h : am_H) : am_R := m_ao s1 11 fun a9 => m_bI (f_X11_holds a9 s0 h) fun h7 v8 => if v8 = 0 then (m_ri h7 (0 : Int32)) else (m_gR (some a0) 11 21 h7 fun o10 => m_aI o10 0 x2 h7 fun v11 => if v11 = (1 : Int32) then (m_ao (some a0) 11 fun a14 => m_bI (f_X11_aboveOf a14 x2 h7) fun h12 v13 => m_bI (f_X11_has v13 x1 h12) fun h15 v16 => if v16 = 0 then (m_ao (some a0) 11 fun a19 => m_bI (f_X11_aboveOf a19 x1 h15) fun h17 v18 => m_bI (f_X11_has v18 x2 h17) fun h20 v21 => if v21 = 0 then (f_X11_merge_89 a0 x1 x2 (0 : Int32) (some a0) h20) else (f_X11_merge_84 a0 x1 x2 (some a0) h20)) else (f_X11_merge_84 a0 x1 x2 (some a0) h15)) else (f_X11_merge_84 a0 x1 x2 (some a0) h7))
theorem t_X11_merge_41 (d : Nat) (hd : 2 ≤ d)  (a0 : Nat × Nat) (x1 : Int32) (x2 : Int32) (s0 : Int32) (s1 : Option (Nat × Nat)) (h : am_H) : Sim m_X11_merge d 41 [some (.inr (.inr (some a0))), some (.inl x1), some (.inl x2), none, none, none] [.inl s0, .inr (.inr s1)] h (f_X11_merge_41  a0 x1 x2 s0 s1 h) := by
  unfold f_X11_merge_41
  refine sim_ao1 (fun a9 e => ?_)
  refine sim_virt (d - 1) e dX11_merge_41 (k_X11_holds (d - 1) (by omega) _ _ _) q_X11_holds rfl rfl wm_RX11_142 rfl rfl (by omega) (Nat.le_of_ble_eq_true rfl) am_nI (am_rI fun h7 v8 => ?_) am_eI
  refine sim_if_ne 49 dX11_merge_44 (by decide) (fun c => ?_) (fun c => ?_)
  · refine sim_aload_n dX11_merge_49 rfl ?_
    refine sim_aload_n dX11_merge_50 rfl ?_
    refine sim_gR 11 21 dX11_merge_51 rfl wf_RX11_59 (Nat.le_of_ble_eq_true rfl) rfl (fun o10 => ?_)
    refine sim_iload_n dX11_merge_54 rfl ?_
    refine sim_aI dX11_merge_55 (fun v11 => ?_)
    refine sim_iconst (1) dX11_merge_56 (by decide +kernel) ?_
    refine sim_ic_ne 84 dX11_merge_57 (by decide) (fun c => ?_) (fun c => ?_)
    · exact sim_lv (am_leS (am_leS (am_leS (am_leN (am_leN (am_leN am_leT)))))) (t_X11_merge_84 d (by omega) _ _ _ _ _)
    · refine sim_aload_n dX11_merge_60 rfl ?_
      refine sim_iload_n dX11_merge_61 rfl ?_
      refine sim_ao1 (fun a14 e => ?_)
      refine sim_virt (d - 1) e dX11_merge_62 (k_X11_aboveOf (d - 1) (by omega) _ _ _) q_X11_aboveOf rfl rfl wm_RX11_178 rfl rfl (by omega) (Nat.le_of_ble_eq_true rfl) am_nI (am_rI fun h12 v13 => ?_) am_eI
      refine sim_iload_n dX11_merge_65 rfl ?_
      refine sim_static (d - 1) dX11_merge_66 (k_X11_has (d - 1) (by omega) _ _ _) q_X11_has wm_RX11_155 rfl rfl (by omega) (Nat.le_of_ble_eq_true rfl) am_nI (am_rI fun h15 v16 => ?_) am_eI
      refine sim_if_ne 84 dX11_merge_69 (by decide) (fun c => ?_) (fun c => ?_)
      · exact sim_lv (am_leS (am_leS (am_leS (am_leN (am_leN (am_leN am_leT)))))) (t_X11_merge_84 d (by omega) _ _ _ _ _)
      · refine sim_aload_n dX11_merge_72 rfl ?_
        refine sim_iload_n dX11_merge_73 rfl ?_
        refine sim_ao1 (fun a19 e => ?_)
        refine sim_virt (d - 1) e dX11_merge_74 (k_X11_aboveOf (d - 1) (by omega) _ _ _) q_X11_aboveOf rfl rfl wm_RX11_178 rfl rfl (by omega) (Nat.le_of_ble_eq_true rfl) am_nI (am_rI fun h17 v18 => ?_) am_eI
        refine sim_iload_n dX11_merge_77 rfl ?_
        refine sim_static (d - 1) dX11_merge_78 (k_X11_has (d - 1) (by omega) _ _ _) q_X11_has wm_RX11_155 rfl rfl (by omega) (Nat.le_of_ble_eq_true rfl) am_nI (am_rI fun h20 v21 => ?_) am_eI
        refine sim_if_eq 88 dX11_merge_81 (by decide) (fun c => ?_) (fun c => ?_)
        · refine sim_iconst (0) dX11_merge_88 (by decide +kernel) ?_
          exact sim_lv (am_leS (am_leS (am_leS (am_leN (am_leN (am_leN am_leT)))))) (t_X11_merge_89 d (by omega) _ _ _ _ _ _)
        · exact sim_lv (am_leS (am_leS (am_leS (am_leN (am_leN (am_leN am_leT)))))) (t_X11_merge_84 d (by omega) _ _ _ _ _)
  · refine sim_iconst (0) dX11_merge_47 (by decide +kernel) ?_
    exact sim_iret dX11_merge_48 rfl
def f_X11_merge_21  (a0 : Nat × Nat) (x1 : Int32) (x2 : Int32) (s0 : Int32) (h : am_H) : am_R := if s0 = 0 then (f_X11_merge_41 a0 x1 x2 (1 : Int32) (some a0) h) else (if x1 = x2 then (f_X11_merge_41 a0 x1 x2 (2 : Int32) (some a0) h) else (f_X11_merge_41 a0 x1 x2 (0 : Int32) (some a0) h))
theorem t_X11_merge_21 (d : Nat) (hd : 2 ≤ d)  (a0 : Nat × Nat) (x1 : Int32) (x2 : Int32) (s0 : Int32) (h : am_H) : Sim m_X11_merge d 21 [some (.inr (.inr (some a0))), some (.inl x1), some (.inl x2), none, none, none] [.inl s0] h (f_X11_merge_21  a0 x1 x2 s0 h) := by
  unfold f_X11_merge_21
  refine sim_istore_n dX11_merge_21 (Nat.le_of_ble_eq_true rfl) ?_
  refine sim_aload_n dX11_merge_22 rfl ?_
  refine sim_iload_n dX11_merge_23 rfl ?_
  refine sim_if_ne 31 dX11_merge_24 (by decide) (fun c => ?_) (fun c => ?_)
  · refine sim_iload_n dX11_merge_31 rfl ?_
    refine sim_iload_n dX11_merge_32 rfl ?_
    refine sim_ic_ne 40 dX11_merge_33 (by decide) (fun c => ?_) (fun c => ?_)
    · refine sim_iconst (0) dX11_merge_40 (by decide +kernel) ?_
      exact sim_lv (am_leS (am_leS (am_leS (am_leN (am_leN (am_leN am_leT)))))) (t_X11_merge_41 d (by omega) _ _ _ _ _ _)
    · refine sim_iconst (2) dX11_merge_36 (by decide +kernel) ?_
      refine sim_goto 41 dX11_merge_37 (by decide) ?_
      exact sim_lv (am_leS (am_leS (am_leS (am_leN (am_leN (am_leN am_leT)))))) (t_X11_merge_41 d (by omega) _ _ _ _ _ _)
  · refine sim_iconst (1) dX11_merge_27 (by decide +kernel) ?_
    refine sim_goto 41 dX11_merge_28 (by decide) ?_
    exact sim_lv (am_leS (am_leS (am_leS (am_leN (am_leN (am_leN am_leT)))))) (t_X11_merge_41 d (by omega) _ _ _ _ _ _)
def f_X11_merge_20  (a0 : Nat × Nat) (x1 : Int32) (x2 : Int32) (h : am_H) : am_R := f_X11_merge_21 a0 x1 x2 (0 : Int32) h
theorem t_X11_merge_20 (d : Nat) (hd : 2 ≤ d)  (a0 : Nat × Nat) (x1 : Int32) (x2 : Int32) (h : am_H) : Sim m_X11_merge d 20 [some (.inr (.inr (some a0))), some (.inl x1), some (.inl x2), none, none, none] [] h (f_X11_merge_20  a0 x1 x2 h) := by
  unfold f_X11_merge_20
  refine sim_iconst (0) dX11_merge_20 (by decide +kernel) ?_
  exact sim_lv (am_leS (am_leS (am_leS (am_leN (am_leN (am_leN am_leT)))))) (t_X11_merge_21 d (by omega) _ _ _ _ _)
def f_X11_merge (a0 : Nat × Nat) (x1 : Int32) (x2 : Int32) (h : am_H) : am_R := m_ao (some a0) 11 fun a3 => m_bI (f_X11_isTag a3 x1 h) fun h1 v2 => if v2 = 0 then (f_X11_merge_20 a0 x1 x2 h1) else (m_ao (some a0) 11 fun a6 => m_bI (f_X11_isTag a6 x2 h1) fun h4 v5 => if v5 = 0 then (f_X11_merge_20 a0 x1 x2 h4) else (f_X11_merge_21 a0 x1 x2 (1 : Int32) h4))
theorem k_X11_merge (d : Nat) (hd : 2 ≤ d) (a0 : Nat × Nat) (x1 : Int32) (x2 : Int32) (h : am_H) : am_Con m_X11_merge d [.inr (.inr (some a0)), .inl x1, .inl x2] h (f_X11_merge a0 x1 x2 h) := am_con (by decide +kernel) (Nat.le_of_ble_eq_true rfl) (by
  unfold f_X11_merge
  refine sim_aload_n dX11_merge_0 rfl ?_
  refine sim_iload_n dX11_merge_1 rfl ?_
  refine sim_ao1 (fun a3 e => ?_)
  refine sim_virt (d - 1) e dX11_merge_2 (k_X11_isTag (d - 1) (by omega) _ _ _) q_X11_isTag rfl rfl wm_RX11_184 rfl rfl (by omega) (Nat.le_of_ble_eq_true rfl) am_nI (am_rI fun h1 v2 => ?_) am_eI
  refine sim_if_eq 20 dX11_merge_5 (by decide) (fun c => ?_) (fun c => ?_)
  · exact sim_lv (am_leS (am_leS (am_leS (am_leN (am_leN (am_leN am_leT)))))) (t_X11_merge_20 d (by omega) _ _ _ _)
  · refine sim_aload_n dX11_merge_8 rfl ?_
    refine sim_iload_n dX11_merge_9 rfl ?_
    refine sim_ao1 (fun a6 e => ?_)
    refine sim_virt (d - 1) e dX11_merge_10 (k_X11_isTag (d - 1) (by omega) _ _ _) q_X11_isTag rfl rfl wm_RX11_184 rfl rfl (by omega) (Nat.le_of_ble_eq_true rfl) am_nI (am_rI fun h4 v5 => ?_) am_eI
    refine sim_if_eq 20 dX11_merge_13 (by decide) (fun c => ?_) (fun c => ?_)
    · exact sim_lv (am_leS (am_leS (am_leS (am_leN (am_leN (am_leN am_leT)))))) (t_X11_merge_20 d (by omega) _ _ _ _)
    · refine sim_iconst (1) dX11_merge_16 (by decide +kernel) ?_
      refine sim_goto 21 dX11_merge_17 (by decide) ?_
      exact sim_lv (am_leS (am_leS (am_leS (am_leN (am_leN (am_leN am_leT)))))) (t_X11_merge_21 d (by omega) _ _ _ _ _))
theorem q_X11_merge : am_Cal m_X11_merge 2 2 := ⟨am_mem 1354 (w := Cond.code yX11_merge cX11_merge 6 (some .int)) (by decide +kernel) rfl, am_mem 64 (w := Cond.initialized RX11) (by decide +kernel) rfl, fun z => absurd z (by decide), fun _ => am_mem 1352 (w := Cond.instanceMethod yX11_merge) (by decide +kernel) rfl, fun z => absurd z (by decide), fun _ => am_mem 1353 (w := Cond.selects RX11 yX11_merge yX11_merge) (by decide +kernel) rfl, by decide +kernel, by decide +kernel, Nat.le_of_ble_eq_true rfl⟩
abbrev m_X11_news : am_M := (yX11_news, cX11_news, 6, some .int, [])
def f_X11_news_85  (x2 : Int32) (h : am_H) : am_R := m_ri h x2
theorem t_X11_news_85 (d : Nat) (hd : 5 ≤ d)  (x2 : Int32) (h : am_H) : Sim m_X11_news d 85 [none, none, some (.inl x2), none, none, none] [] h (f_X11_news_85  x2 h) := by
  unfold f_X11_news_85
  refine sim_iload_n dX11_news_85 rfl ?_
  exact sim_iret dX11_news_86 rfl
def f_X11_news_71 (rc22 : Nat × Nat → Int32 → Int32 → Int32 → Int32 → am_H → am_R) (rc38 : Nat × Nat → Int32 → Int32 → Int32 → Int32 → Int32 → am_H → am_R) (a0 : Nat × Nat) (x1 : Int32) (x3 : Int32) (x4 : Int32) (x5 : Int32) (s0 : Int32) (s1 : Int32) (h : am_H) : am_R := rc38 a0 x1 (s1 ||| s0) x3 x4 (x5 + 1) h
theorem t_X11_news_71 (d : Nat) (hd : 5 ≤ d) (rc22 : Nat × Nat → Int32 → Int32 → Int32 → Int32 → am_H → am_R) (hrc22 : ∀ a0 x1 x2 x3 x4 h, Sim m_X11_news d 22 [some (.inr (.inr (some a0))), some (.inl x1), some (.inl x2), some (.inl x3), some (.inl x4), none] [] h (rc22 a0 x1 x2 x3 x4 h)) (rc38 : Nat × Nat → Int32 → Int32 → Int32 → Int32 → Int32 → am_H → am_R) (hrc38 : ∀ a0 x1 x2 x3 x4 x5 h, Sim m_X11_news d 38 [some (.inr (.inr (some a0))), some (.inl x1), some (.inl x2), some (.inl x3), some (.inl x4), some (.inl x5)] [] h (rc38 a0 x1 x2 x3 x4 x5 h)) (a0 : Nat × Nat) (x1 : Int32) (x3 : Int32) (x4 : Int32) (x5 : Int32) (s0 : Int32) (s1 : Int32) (h : am_H) : Sim m_X11_news d 71 [some (.inr (.inr (some a0))), some (.inl x1), none, some (.inl x3), some (.inl x4), some (.inl x5)] [.inl s0, .inl s1] h (f_X11_news_71 rc22 rc38 a0 x1 x3 x4 x5 s0 s1 h) := by
  unfold f_X11_news_71
  refine sim_ior dX11_news_71 ?_
  refine sim_istore_n dX11_news_72 (Nat.le_of_ble_eq_true rfl) ?_
  refine sim_iinc (1) dX11_news_73 rfl (by decide +kernel) (Nat.le_of_ble_eq_true rfl) ?_
  refine sim_goto 38 dX11_news_76 (by decide) ?_
  exact sim_lv (am_leS (am_leS (am_leS (am_leS (am_leS (am_leS am_leT)))))) (hrc38 _ _ _ _ _ _ _)
def f_X11_news_38 (rc22 : Nat × Nat → Int32 → Int32 → Int32 → Int32 → am_H → am_R) : Nat → Nat × Nat → Int32 → Int32 → Int32 → Int32 → Int32 → am_H → am_R
  | 0, _, _, _, _, _, _, _ => none
  | n + 1, a0, x1, x2, x3, x4, x5, h => m_gR (some a0) 11 7 h fun o7 => m_aI o7 0 x4 h fun v8 => if v8 ≤ x5 then (rc22 a0 x1 x2 x3 (x4 + 1) h) else (m_ao (some a0) 11 fun a11 => m_bI (f_X11_isNews a11 x1 x4 x5 h) fun h9 v10 => if v10 = 0 then (f_X11_news_71 rc22 (f_X11_news_38 rc22 n) a0 x1 x3 x4 x5 (0 : Int32) x2 h9) else (f_X11_news_71 rc22 (f_X11_news_38 rc22 n) a0 x1 x3 x4 x5 ((1 : Int32) <<< (x4 &&& 31)) x2 h9))
theorem t_X11_news_38 (d : Nat) (hd : 5 ≤ d) (rc22 : Nat × Nat → Int32 → Int32 → Int32 → Int32 → am_H → am_R) (hrc22 : ∀ a0 x1 x2 x3 x4 h, Sim m_X11_news d 22 [some (.inr (.inr (some a0))), some (.inl x1), some (.inl x2), some (.inl x3), some (.inl x4), none] [] h (rc22 a0 x1 x2 x3 x4 h)) : ∀ (n : Nat) (a0 : Nat × Nat) (x1 : Int32) (x2 : Int32) (x3 : Int32) (x4 : Int32) (x5 : Int32) (h : am_H), Sim m_X11_news d 38 [some (.inr (.inr (some a0))), some (.inl x1), some (.inl x2), some (.inl x3), some (.inl x4), some (.inl x5)] [] h (f_X11_news_38 rc22 n a0 x1 x2 x3 x4 x5 h) := by
  intro n
  induction n with
  | zero => intros; exact sim_none
  | succ n hrc38 =>
    intro a0 x1 x2 x3 x4 x5 h
    rw [f_X11_news_38]
    refine sim_iload dX11_news_38 rfl ?_
    refine sim_aload_n dX11_news_40 rfl ?_
    refine sim_gR 11 7 dX11_news_41 rfl wf_RX11_23 (Nat.le_of_ble_eq_true rfl) rfl (fun o7 => ?_)
    refine sim_iload dX11_news_44 rfl ?_
    refine sim_aI dX11_news_46 (fun v8 => ?_)
    refine sim_ic_ge 79 dX11_news_47 (by decide) (fun c => ?_) (fun c => ?_)
    · refine sim_iinc (1) dX11_news_79 rfl (by decide +kernel) (Nat.le_of_ble_eq_true rfl) ?_
      refine sim_goto 22 dX11_news_82 (by decide) ?_
      exact sim_lv (am_leS (am_leS (am_leS (am_leS (am_leS (am_leN am_leT)))))) (hrc22 _ _ _ _ _ _)
    · refine sim_iload_n dX11_news_50 rfl ?_
      refine sim_aload_n dX11_news_51 rfl ?_
      refine sim_iload_n dX11_news_52 rfl ?_
      refine sim_iload dX11_news_53 rfl ?_
      refine sim_iload dX11_news_55 rfl ?_
      refine sim_ao3 (fun a11 e => ?_)
      refine sim_virt (d - 1) e dX11_news_57 (k_X11_isNews (d - 1) (by omega) _ _ _ _ _) q_X11_isNews rfl rfl wm_RX11_263 rfl rfl (by omega) (Nat.le_of_ble_eq_true rfl) am_nI (am_rI fun h9 v10 => ?_) am_eI
      refine sim_if_eq 70 dX11_news_60 (by decide) (fun c => ?_) (fun c => ?_)
      · refine sim_iconst (0) dX11_news_70 (by decide +kernel) ?_
        exact sim_lv (am_leS (am_leS (am_leN (am_leS (am_leS (am_leS am_leT)))))) (t_X11_news_71 d (by omega) _ hrc22 _ hrc38 _ _ _ _ _ _ _ _)
      · refine sim_iconst (1) dX11_news_63 (by decide +kernel) ?_
        refine sim_iload dX11_news_64 rfl ?_
        refine sim_ishl dX11_news_66 ?_
        refine sim_goto 71 dX11_news_67 (by decide) ?_
        exact sim_lv (am_leS (am_leS (am_leN (am_leS (am_leS (am_leS am_leT)))))) (t_X11_news_71 d (by omega) _ hrc22 _ hrc38 _ _ _ _ _ _ _ _)
def f_X11_news_22  : Nat → Nat × Nat → Int32 → Int32 → Int32 → Int32 → am_H → am_R
  | 0, _, _, _, _, _, _ => none
  | n + 1, a0, x1, x2, x3, x4, h => m_gI (some a0) 11 4 h fun v6 => if v6 ≤ x4 then (f_X11_news_85 x2 h) else (if x3 = 0 then (f_X11_news_85 x2 h) else (f_X11_news_38 (f_X11_news_22  n) 5000 a0 x1 x2 x3 x4 (0 : Int32) h))
theorem t_X11_news_22 (d : Nat) (hd : 5 ≤ d)  : ∀ (n : Nat) (a0 : Nat × Nat) (x1 : Int32) (x2 : Int32) (x3 : Int32) (x4 : Int32) (h : am_H), Sim m_X11_news d 22 [some (.inr (.inr (some a0))), some (.inl x1), some (.inl x2), some (.inl x3), some (.inl x4), none] [] h (f_X11_news_22  n a0 x1 x2 x3 x4 h) := by
  intro n
  induction n with
  | zero => intros; exact sim_none
  | succ n hrc22 =>
    intro a0 x1 x2 x3 x4 h
    rw [f_X11_news_22]
    refine sim_iload dX11_news_22 rfl ?_
    refine sim_aload_n dX11_news_24 rfl ?_
    refine sim_gI 11 4 dX11_news_25 rfl wf_RX11_133 (Nat.le_of_ble_eq_true rfl) rfl (fun v6 => ?_)
    refine sim_ic_ge 85 dX11_news_28 (by decide) (fun c => ?_) (fun c => ?_)
    · exact sim_lv (am_leN (am_leN (am_leS (am_leN (am_leN (am_leN am_leT)))))) (t_X11_news_85 d (by omega) _ _)
    · refine sim_iload_n dX11_news_31 rfl ?_
      refine sim_if_eq 85 dX11_news_32 (by decide) (fun c => ?_) (fun c => ?_)
      · exact sim_lv (am_leN (am_leN (am_leS (am_leN (am_leN (am_leN am_leT)))))) (t_X11_news_85 d (by omega) _ _)
      · refine sim_iconst (0) dX11_news_35 (by decide +kernel) ?_
        refine sim_istore dX11_news_36 (Nat.le_of_ble_eq_true rfl) ?_
        exact sim_lv (am_leS (am_leS (am_leS (am_leS (am_leS (am_leS am_leT)))))) (t_X11_news_38 d (by omega) _ hrc22 _ _ _ _ _ _ _ _)
def f_X11_news_15  (a0 : Nat × Nat) (x1 : Int32) (x2 : Int32) (s0 : Int32) (s1 : Option (Nat × Nat)) (h : am_H) : am_R := m_ao s1 11 fun a5 => m_bI (f_X11_holds a5 s0 h) fun h3 v4 => f_X11_news_22 5000 a0 x1 x2 v4 (0 : Int32) h3
theorem t_X11_news_15 (d : Nat) (hd : 5 ≤ d)  (a0 : Nat × Nat) (x1 : Int32) (x2 : Int32) (s0 : Int32) (s1 : Option (Nat × Nat)) (h : am_H) : Sim m_X11_news d 15 [some (.inr (.inr (some a0))), some (.inl x1), some (.inl x2), none, none, none] [.inl s0, .inr (.inr s1)] h (f_X11_news_15  a0 x1 x2 s0 s1 h) := by
  unfold f_X11_news_15
  refine sim_ao1 (fun a5 e => ?_)
  refine sim_virt (d - 1) e dX11_news_15 (k_X11_holds (d - 1) (by omega) _ _ _) q_X11_holds rfl rfl wm_RX11_142 rfl rfl (by omega) (Nat.le_of_ble_eq_true rfl) am_nI (am_rI fun h3 v4 => ?_) am_eI
  refine sim_istore_n dX11_news_18 (Nat.le_of_ble_eq_true rfl) ?_
  refine sim_iconst (0) dX11_news_19 (by decide +kernel) ?_
  refine sim_istore dX11_news_20 (Nat.le_of_ble_eq_true rfl) ?_
  exact sim_lv (am_leS (am_leS (am_leS (am_leS (am_leS (am_leN am_leT)))))) (t_X11_news_22 d (by omega) _ _ _ _ _ _ _)
def f_X11_news (a0 : Nat × Nat) (x1 : Int32) (h : am_H) : am_R := m_bI (f_X11_isPerson x1 h) fun h1 v2 => if v2 = 0 then (f_X11_news_15 a0 x1 (0 : Int32) (1 : Int32) (some a0) h1) else (f_X11_news_15 a0 x1 (0 : Int32) (0 : Int32) (some a0) h1)
theorem k_X11_news (d : Nat) (hd : 5 ≤ d) (a0 : Nat × Nat) (x1 : Int32) (h : am_H) : am_Con m_X11_news d [.inr (.inr (some a0)), .inl x1] h (f_X11_news a0 x1 h) := am_con (by decide +kernel) (Nat.le_of_ble_eq_true rfl) (by
  unfold f_X11_news
  refine sim_iconst (0) dX11_news_0 (by decide +kernel) ?_
  refine sim_istore_n dX11_news_1 (Nat.le_of_ble_eq_true rfl) ?_
  refine sim_aload_n dX11_news_2 rfl ?_
  refine sim_iload_n dX11_news_3 rfl ?_
  refine sim_static (d - 1) dX11_news_4 (k_X11_isPerson (d - 1) (by omega) _ _) q_X11_isPerson wm_RX11_146 rfl rfl (by omega) (Nat.le_of_ble_eq_true rfl) am_nI (am_rI fun h1 v2 => ?_) am_eI
  refine sim_if_eq 14 dX11_news_7 (by decide) (fun c => ?_) (fun c => ?_)
  · refine sim_iconst (1) dX11_news_14 (by decide +kernel) ?_
    exact sim_lv (am_leS (am_leS (am_leS (am_leN (am_leN (am_leN am_leT)))))) (t_X11_news_15 d (by omega) _ _ _ _ _ _)
  · refine sim_iconst (0) dX11_news_10 (by decide +kernel) ?_
    refine sim_goto 15 dX11_news_11 (by decide) ?_
    exact sim_lv (am_leS (am_leS (am_leS (am_leN (am_leN (am_leN am_leT)))))) (t_X11_news_15 d (by omega) _ _ _ _ _ _))
theorem q_X11_news : am_Cal m_X11_news 1 2 := ⟨am_mem 1524 (w := Cond.code yX11_news cX11_news 6 (some .int)) (by decide +kernel) rfl, am_mem 64 (w := Cond.initialized RX11) (by decide +kernel) rfl, fun z => absurd z (by decide), fun _ => am_mem 1522 (w := Cond.instanceMethod yX11_news) (by decide +kernel) rfl, fun z => absurd z (by decide), fun _ => am_mem 1523 (w := Cond.selects RX11 yX11_news yX11_news) (by decide +kernel) rfl, by decide +kernel, by decide +kernel, Nat.le_of_ble_eq_true rfl⟩
abbrev m_X11_ofTag : am_M := (yX11_ofTag, cX11_ofTag, 5, some .int, [])
def f_X11_ofTag_121 (rc77 : Nat × Nat → Int32 → Int32 → Int32 → Int32 → am_H → am_R) (a0 : Nat × Nat) (x1 : Int32) (x2 : Int32) (x4 : Int32) (s0 : Int32) (s1 : Int32) (h : am_H) : am_R := rc77 a0 x1 x2 (s1 + s0) (x4 + 1) h
theorem t_X11_ofTag_121 (d : Nat) (hd : 2 ≤ d) (rc77 : Nat × Nat → Int32 → Int32 → Int32 → Int32 → am_H → am_R) (hrc77 : ∀ a0 x1 x2 x3 x4 h, Sim m_X11_ofTag d 77 [some (.inr (.inr (some a0))), some (.inl x1), some (.inl x2), some (.inl x3), some (.inl x4)] [] h (rc77 a0 x1 x2 x3 x4 h)) (a0 : Nat × Nat) (x1 : Int32) (x2 : Int32) (x4 : Int32) (s0 : Int32) (s1 : Int32) (h : am_H) : Sim m_X11_ofTag d 121 [some (.inr (.inr (some a0))), some (.inl x1), some (.inl x2), none, some (.inl x4)] [.inl s0, .inl s1] h (f_X11_ofTag_121 rc77 a0 x1 x2 x4 s0 s1 h) := by
  unfold f_X11_ofTag_121
  refine sim_iadd dX11_ofTag_121 ?_
  refine sim_istore_n dX11_ofTag_122 (Nat.le_of_ble_eq_true rfl) ?_
  refine sim_iinc (1) dX11_ofTag_123 rfl (by decide +kernel) (Nat.le_of_ble_eq_true rfl) ?_
  refine sim_goto 77 dX11_ofTag_126 (by decide) ?_
  exact sim_lv (am_leS (am_leS (am_leS (am_leS (am_leS am_leT))))) (hrc77 _ _ _ _ _ _)
def f_X11_ofTag_109 (rc77 : Nat × Nat → Int32 → Int32 → Int32 → Int32 → am_H → am_R) (a0 : Nat × Nat) (x1 : Int32) (x2 : Int32) (x4 : Int32) (s0 : Int32) (s1 : Int32) (h : am_H) : am_R := m_bI (f_X11_has s0 x1 h) fun h22 v23 => if v23 = 0 then (f_X11_ofTag_121 rc77 a0 x1 x2 x4 (0 : Int32) s1 h22) else (f_X11_ofTag_121 rc77 a0 x1 x2 x4 (1 : Int32) s1 h22)
theorem t_X11_ofTag_109 (d : Nat) (hd : 2 ≤ d) (rc77 : Nat × Nat → Int32 → Int32 → Int32 → Int32 → am_H → am_R) (hrc77 : ∀ a0 x1 x2 x3 x4 h, Sim m_X11_ofTag d 77 [some (.inr (.inr (some a0))), some (.inl x1), some (.inl x2), some (.inl x3), some (.inl x4)] [] h (rc77 a0 x1 x2 x3 x4 h)) (a0 : Nat × Nat) (x1 : Int32) (x2 : Int32) (x4 : Int32) (s0 : Int32) (s1 : Int32) (h : am_H) : Sim m_X11_ofTag d 109 [some (.inr (.inr (some a0))), some (.inl x1), some (.inl x2), none, some (.inl x4)] [.inl s0, .inl s1] h (f_X11_ofTag_109 rc77 a0 x1 x2 x4 s0 s1 h) := by
  unfold f_X11_ofTag_109
  refine sim_iload_n dX11_ofTag_109 rfl ?_
  refine sim_static (d - 1) dX11_ofTag_110 (k_X11_has (d - 1) (by omega) _ _ _) q_X11_has wm_RX11_155 rfl rfl (by omega) (Nat.le_of_ble_eq_true rfl) am_nI (am_rI fun h22 v23 => ?_) am_eI
  refine sim_if_eq 120 dX11_ofTag_113 (by decide) (fun c => ?_) (fun c => ?_)
  · refine sim_iconst (0) dX11_ofTag_120 (by decide +kernel) ?_
    exact sim_lv (am_leS (am_leS (am_leS (am_leN (am_leS am_leT))))) (t_X11_ofTag_121 d (by omega) _ hrc77 _ _ _ _ _ _ _)
  · refine sim_iconst (1) dX11_ofTag_116 (by decide +kernel) ?_
    refine sim_goto 121 dX11_ofTag_117 (by decide) ?_
    exact sim_lv (am_leS (am_leS (am_leS (am_leN (am_leS am_leT))))) (t_X11_ofTag_121 d (by omega) _ hrc77 _ _ _ _ _ _ _)
def f_X11_ofTag_77  : Nat → Nat × Nat → Int32 → Int32 → Int32 → Int32 → am_H → am_R
  | 0, _, _, _, _, _, _ => none
  | n + 1, a0, x1, x2, x3, x4, h => m_gI (some a0) 11 4 h fun v17 => if v17 ≤ x4 then (m_ri h x3) else (if x2 = (3 : Int32) then (m_gR (some a0) 11 12 h fun o20 => m_aI o20 0 x4 h fun v21 => f_X11_ofTag_109 (f_X11_ofTag_77  n) a0 x1 x2 x4 v21 x3 h) else (m_gR (some a0) 11 13 h fun o18 => m_aI o18 0 x4 h fun v19 => f_X11_ofTag_109 (f_X11_ofTag_77  n) a0 x1 x2 x4 v19 x3 h))
theorem t_X11_ofTag_77 (d : Nat) (hd : 2 ≤ d)  : ∀ (n : Nat) (a0 : Nat × Nat) (x1 : Int32) (x2 : Int32) (x3 : Int32) (x4 : Int32) (h : am_H), Sim m_X11_ofTag d 77 [some (.inr (.inr (some a0))), some (.inl x1), some (.inl x2), some (.inl x3), some (.inl x4)] [] h (f_X11_ofTag_77  n a0 x1 x2 x3 x4 h) := by
  intro n
  induction n with
  | zero => intros; exact sim_none
  | succ n hrc77 =>
    intro a0 x1 x2 x3 x4 h
    rw [f_X11_ofTag_77]
    refine sim_iload dX11_ofTag_77 rfl ?_
    refine sim_aload_n dX11_ofTag_79 rfl ?_
    refine sim_gI 11 4 dX11_ofTag_80 rfl wf_RX11_133 (Nat.le_of_ble_eq_true rfl) rfl (fun v17 => ?_)
    refine sim_ic_ge 129 dX11_ofTag_83 (by decide) (fun c => ?_) (fun c => ?_)
    · refine sim_iload_n dX11_ofTag_129 rfl ?_
      exact sim_iret dX11_ofTag_130 rfl
    · refine sim_iload_n dX11_ofTag_86 rfl ?_
      refine sim_iload_n dX11_ofTag_87 rfl ?_
      refine sim_iconst (3) dX11_ofTag_88 (by decide +kernel) ?_
      refine sim_ic_ne 102 dX11_ofTag_89 (by decide) (fun c => ?_) (fun c => ?_)
      · refine sim_aload_n dX11_ofTag_102 rfl ?_
        refine sim_gR 11 13 dX11_ofTag_103 rfl wf_RX11_41 (Nat.le_of_ble_eq_true rfl) rfl (fun o18 => ?_)
        refine sim_iload dX11_ofTag_106 rfl ?_
        refine sim_aI dX11_ofTag_108 (fun v19 => ?_)
        exact sim_lv (am_leS (am_leS (am_leS (am_leN (am_leS am_leT))))) (t_X11_ofTag_109 d (by omega) _ hrc77 _ _ _ _ _ _ _)
      · refine sim_aload_n dX11_ofTag_92 rfl ?_
        refine sim_gR 11 12 dX11_ofTag_93 rfl wf_RX11_38 (Nat.le_of_ble_eq_true rfl) rfl (fun o20 => ?_)
        refine sim_iload dX11_ofTag_96 rfl ?_
        refine sim_aI dX11_ofTag_98 (fun v21 => ?_)
        refine sim_goto 109 dX11_ofTag_99 (by decide) ?_
        exact sim_lv (am_leS (am_leS (am_leS (am_leN (am_leS am_leT))))) (t_X11_ofTag_109 d (by omega) _ hrc77 _ _ _ _ _ _ _)
def f_X11_ofTag_71  (s0 : Int32) (h : am_H) : am_R := m_ri h s0
theorem t_X11_ofTag_71 (d : Nat) (hd : 2 ≤ d)  (s0 : Int32) (h : am_H) : Sim m_X11_ofTag d 71 [none, none, none, none, none] [.inl s0] h (f_X11_ofTag_71  s0 h) := by
  unfold f_X11_ofTag_71
  exact sim_iret dX11_ofTag_71 rfl
def f_X11_ofTag_27  (a0 : Nat × Nat) (x1 : Int32) (x2 : Int32) (s0 : Int32) (s1 : Option (Nat × Nat)) (h : am_H) : am_R := m_ao s1 11 fun a8 => m_bI (f_X11_holds a8 s0 h) fun h6 v7 => if v7 = 0 then (m_ri h6 (0 : Int32)) else (if (3 : Int32) ≤ x2 then (f_X11_ofTag_77 5000 a0 x1 x2 (0 : Int32) (0 : Int32) h6) else (if x2 = 0 then (m_gR (some a0) 11 21 h6 fun o15 => m_aI o15 0 x1 h6 fun v16 => f_X11_ofTag_71 v16 h6) else (if x2 = (1 : Int32) then (m_ao (some a0) 11 fun a14 => m_bI (f_X11_meaning a14 x1 h6) fun h12 v13 => f_X11_ofTag_71 v13 h12) else (m_ao (some a0) 11 fun a11 => m_bI (f_X11_aboveOf a11 x1 h6) fun h9 v10 => f_X11_ofTag_71 v10 h9))))
theorem t_X11_ofTag_27 (d : Nat) (hd : 2 ≤ d)  (a0 : Nat × Nat) (x1 : Int32) (x2 : Int32) (s0 : Int32) (s1 : Option (Nat × Nat)) (h : am_H) : Sim m_X11_ofTag d 27 [some (.inr (.inr (some a0))), some (.inl x1), some (.inl x2), none, none] [.inl s0, .inr (.inr s1)] h (f_X11_ofTag_27  a0 x1 x2 s0 s1 h) := by
  unfold f_X11_ofTag_27
  refine sim_ao1 (fun a8 e => ?_)
  refine sim_virt (d - 1) e dX11_ofTag_27 (k_X11_holds (d - 1) (by omega) _ _ _) q_X11_holds rfl rfl wm_RX11_142 rfl rfl (by omega) (Nat.le_of_ble_eq_true rfl) am_nI (am_rI fun h6 v7 => ?_) am_eI
  refine sim_if_ne 35 dX11_ofTag_30 (by decide) (fun c => ?_) (fun c => ?_)
  · refine sim_iload_n dX11_ofTag_35 rfl ?_
    refine sim_iconst (3) dX11_ofTag_36 (by decide +kernel) ?_
    refine sim_ic_ge 72 dX11_ofTag_37 (by decide) (fun c => ?_) (fun c => ?_)
    · refine sim_iconst (0) dX11_ofTag_72 (by decide +kernel) ?_
      refine sim_istore_n dX11_ofTag_73 (Nat.le_of_ble_eq_true rfl) ?_
      refine sim_iconst (0) dX11_ofTag_74 (by decide +kernel) ?_
      refine sim_istore dX11_ofTag_75 (Nat.le_of_ble_eq_true rfl) ?_
      exact sim_lv (am_leS (am_leS (am_leS (am_leS (am_leS am_leT))))) (t_X11_ofTag_77 d (by omega) _ _ _ _ _ _ _)
    · refine sim_iload_n dX11_ofTag_40 rfl ?_
      refine sim_if_ne 53 dX11_ofTag_41 (by decide) (fun c => ?_) (fun c => ?_)
      · refine sim_iload_n dX11_ofTag_53 rfl ?_
        refine sim_iconst (1) dX11_ofTag_54 (by decide +kernel) ?_
        refine sim_ic_ne 66 dX11_ofTag_55 (by decide) (fun c => ?_) (fun c => ?_)
        · refine sim_aload_n dX11_ofTag_66 rfl ?_
          refine sim_iload_n dX11_ofTag_67 rfl ?_
          refine sim_ao1 (fun a11 e => ?_)
          refine sim_virt (d - 1) e dX11_ofTag_68 (k_X11_aboveOf (d - 1) (by omega) _ _ _) q_X11_aboveOf rfl rfl wm_RX11_178 rfl rfl (by omega) (Nat.le_of_ble_eq_true rfl) am_nI (am_rI fun h9 v10 => ?_) am_eI
          exact sim_lv (am_leN (am_leN (am_leN (am_leN (am_leN am_leT))))) (t_X11_ofTag_71 d (by omega) _ _)
        · refine sim_aload_n dX11_ofTag_58 rfl ?_
          refine sim_iload_n dX11_ofTag_59 rfl ?_
          refine sim_ao1 (fun a14 e => ?_)
          refine sim_virt (d - 1) e dX11_ofTag_60 (k_X11_meaning (d - 1) (by omega) _ _ _) q_X11_meaning rfl rfl wm_RX11_175 rfl rfl (by omega) (Nat.le_of_ble_eq_true rfl) am_nI (am_rI fun h12 v13 => ?_) am_eI
          refine sim_goto 71 dX11_ofTag_63 (by decide) ?_
          exact sim_lv (am_leN (am_leN (am_leN (am_leN (am_leN am_leT))))) (t_X11_ofTag_71 d (by omega) _ _)
      · refine sim_aload_n dX11_ofTag_44 rfl ?_
        refine sim_gR 11 21 dX11_ofTag_45 rfl wf_RX11_59 (Nat.le_of_ble_eq_true rfl) rfl (fun o15 => ?_)
        refine sim_iload_n dX11_ofTag_48 rfl ?_
        refine sim_aI dX11_ofTag_49 (fun v16 => ?_)
        refine sim_goto 71 dX11_ofTag_50 (by decide) ?_
        exact sim_lv (am_leN (am_leN (am_leN (am_leN (am_leN am_leT))))) (t_X11_ofTag_71 d (by omega) _ _)
  · refine sim_iconst (0) dX11_ofTag_33 (by decide +kernel) ?_
    exact sim_iret dX11_ofTag_34 rfl
def f_X11_ofTag (a0 : Nat × Nat) (x1 : Int32) (x2 : Int32) (h : am_H) : am_R := m_ao (some a0) 11 fun a3 => m_bI (f_X11_isTag a3 x1 h) fun h1 v2 => if v2 = 0 then (f_X11_ofTag_27 a0 x1 x2 (1 : Int32) (some a0) h1) else (m_bI (f_X11_in x2 (0 : Int32) (4 : Int32) h1) fun h4 v5 => if v5 = 0 then (f_X11_ofTag_27 a0 x1 x2 (2 : Int32) (some a0) h4) else (f_X11_ofTag_27 a0 x1 x2 (0 : Int32) (some a0) h4))
theorem k_X11_ofTag (d : Nat) (hd : 2 ≤ d) (a0 : Nat × Nat) (x1 : Int32) (x2 : Int32) (h : am_H) : am_Con m_X11_ofTag d [.inr (.inr (some a0)), .inl x1, .inl x2] h (f_X11_ofTag a0 x1 x2 h) := am_con (by decide +kernel) (Nat.le_of_ble_eq_true rfl) (by
  unfold f_X11_ofTag
  refine sim_aload_n dX11_ofTag_0 rfl ?_
  refine sim_aload_n dX11_ofTag_1 rfl ?_
  refine sim_iload_n dX11_ofTag_2 rfl ?_
  refine sim_ao1 (fun a3 e => ?_)
  refine sim_virt (d - 1) e dX11_ofTag_3 (k_X11_isTag (d - 1) (by omega) _ _ _) q_X11_isTag rfl rfl wm_RX11_184 rfl rfl (by omega) (Nat.le_of_ble_eq_true rfl) am_nI (am_rI fun h1 v2 => ?_) am_eI
  refine sim_if_ne 13 dX11_ofTag_6 (by decide) (fun c => ?_) (fun c => ?_)
  · refine sim_iload_n dX11_ofTag_13 rfl ?_
    refine sim_iconst (0) dX11_ofTag_14 (by decide +kernel) ?_
    refine sim_iconst (4) dX11_ofTag_15 (by decide +kernel) ?_
    refine sim_static (d - 1) dX11_ofTag_16 (k_X11_in (d - 1) (by omega) _ _ _ _) q_X11_in wm_RX11_129 rfl rfl (by omega) (Nat.le_of_ble_eq_true rfl) am_nI (am_rI fun h4 v5 => ?_) am_eI
    refine sim_if_eq 26 dX11_ofTag_19 (by decide) (fun c => ?_) (fun c => ?_)
    · refine sim_iconst (2) dX11_ofTag_26 (by decide +kernel) ?_
      exact sim_lv (am_leS (am_leS (am_leS (am_leN (am_leN am_leT))))) (t_X11_ofTag_27 d (by omega) _ _ _ _ _ _)
    · refine sim_iconst (0) dX11_ofTag_22 (by decide +kernel) ?_
      refine sim_goto 27 dX11_ofTag_23 (by decide) ?_
      exact sim_lv (am_leS (am_leS (am_leS (am_leN (am_leN am_leT))))) (t_X11_ofTag_27 d (by omega) _ _ _ _ _ _)
  · refine sim_iconst (1) dX11_ofTag_9 (by decide +kernel) ?_
    refine sim_goto 27 dX11_ofTag_10 (by decide) ?_
    exact sim_lv (am_leS (am_leS (am_leS (am_leN (am_leN am_leT))))) (t_X11_ofTag_27 d (by omega) _ _ _ _ _ _))
theorem q_X11_ofTag : am_Cal m_X11_ofTag 2 2 := ⟨am_mem 1366 (w := Cond.code yX11_ofTag cX11_ofTag 5 (some .int)) (by decide +kernel) rfl, am_mem 64 (w := Cond.initialized RX11) (by decide +kernel) rfl, fun z => absurd z (by decide), fun _ => am_mem 1364 (w := Cond.instanceMethod yX11_ofTag) (by decide +kernel) rfl, fun z => absurd z (by decide), fun _ => am_mem 1365 (w := Cond.selects RX11 yX11_ofTag yX11_ofTag) (by decide +kernel) rfl, by decide +kernel, by decide +kernel, Nat.le_of_ble_eq_true rfl⟩
abbrev m_X11_owners : am_M := (yX11_owners, cX11_owners, 3, some .int, [])
def f_X11_owners_46  (s0 : Int32) (h : am_H) : am_R := m_ri h s0
theorem t_X11_owners_46 (d : Nat) (hd : 4 ≤ d)  (s0 : Int32) (h : am_H) : Sim m_X11_owners d 46 [none, none, none] [.inl s0] h (f_X11_owners_46  s0 h) := by
  unfold f_X11_owners_46
  exact sim_iret dX11_owners_46 rfl
def f_X11_owners_45   (h : am_H) : am_R := f_X11_owners_46 (0 : Int32) h
theorem t_X11_owners_45 (d : Nat) (hd : 4 ≤ d)   (h : am_H) : Sim m_X11_owners d 45 [none, none, none] [] h (f_X11_owners_45   h) := by
  unfold f_X11_owners_45
  refine sim_iconst (0) dX11_owners_45 (by decide +kernel) ?_
  exact sim_lv (am_leN (am_leN (am_leN am_leT))) (t_X11_owners_46 d (by omega) _ _)
def f_X11_owners_21  (a0 : Nat × Nat) (x1 : Int32) (x2 : Int32) (s0 : Int32) (s1 : Option (Nat × Nat)) (h : am_H) : am_R := m_ao s1 11 fun a8 => m_bI (f_X11_holds a8 s0 h) fun h6 v7 => if v7 = 0 then (f_X11_owners_45 h6) else (m_ao (some a0) 11 fun a11 => m_bI (f_X11_areTold a11 x1 x2 h6) fun h9 v10 => if v10 = 0 then (f_X11_owners_45 h9) else (m_gR (some a0) 11 6 h9 fun o12 => m_aI o12 0 x2 h9 fun v13 => f_X11_owners_46 v13 h9))
theorem t_X11_owners_21 (d : Nat) (hd : 4 ≤ d)  (a0 : Nat × Nat) (x1 : Int32) (x2 : Int32) (s0 : Int32) (s1 : Option (Nat × Nat)) (h : am_H) : Sim m_X11_owners d 21 [some (.inr (.inr (some a0))), some (.inl x1), some (.inl x2)] [.inl s0, .inr (.inr s1)] h (f_X11_owners_21  a0 x1 x2 s0 s1 h) := by
  unfold f_X11_owners_21
  refine sim_ao1 (fun a8 e => ?_)
  refine sim_virt (d - 1) e dX11_owners_21 (k_X11_holds (d - 1) (by omega) _ _ _) q_X11_holds rfl rfl wm_RX11_142 rfl rfl (by omega) (Nat.le_of_ble_eq_true rfl) am_nI (am_rI fun h6 v7 => ?_) am_eI
  refine sim_if_eq 45 dX11_owners_24 (by decide) (fun c => ?_) (fun c => ?_)
  · exact sim_lv (am_leN (am_leN (am_leN am_leT))) (t_X11_owners_45 d (by omega) _)
  · refine sim_aload_n dX11_owners_27 rfl ?_
    refine sim_iload_n dX11_owners_28 rfl ?_
    refine sim_iload_n dX11_owners_29 rfl ?_
    refine sim_ao2 (fun a11 e => ?_)
    refine sim_virt (d - 1) e dX11_owners_30 (k_X11_areTold (d - 1) (by omega) _ _ _ _) q_X11_areTold rfl rfl wm_RX11_172 rfl rfl (by omega) (Nat.le_of_ble_eq_true rfl) am_nI (am_rI fun h9 v10 => ?_) am_eI
    refine sim_if_eq 45 dX11_owners_33 (by decide) (fun c => ?_) (fun c => ?_)
    · exact sim_lv (am_leN (am_leN (am_leN am_leT))) (t_X11_owners_45 d (by omega) _)
    · refine sim_aload_n dX11_owners_36 rfl ?_
      refine sim_gR 11 6 dX11_owners_37 rfl wf_RX11_20 (Nat.le_of_ble_eq_true rfl) rfl (fun o12 => ?_)
      refine sim_iload_n dX11_owners_40 rfl ?_
      refine sim_aI dX11_owners_41 (fun v13 => ?_)
      refine sim_goto 46 dX11_owners_42 (by decide) ?_
      exact sim_lv (am_leN (am_leN (am_leN am_leT))) (t_X11_owners_46 d (by omega) _ _)
def f_X11_owners_20  (a0 : Nat × Nat) (x1 : Int32) (x2 : Int32) (s0 : Option (Nat × Nat)) (h : am_H) : am_R := f_X11_owners_21 a0 x1 x2 (1 : Int32) s0 h
theorem t_X11_owners_20 (d : Nat) (hd : 4 ≤ d)  (a0 : Nat × Nat) (x1 : Int32) (x2 : Int32) (s0 : Option (Nat × Nat)) (h : am_H) : Sim m_X11_owners d 20 [some (.inr (.inr (some a0))), some (.inl x1), some (.inl x2)] [.inr (.inr s0)] h (f_X11_owners_20  a0 x1 x2 s0 h) := by
  unfold f_X11_owners_20
  refine sim_iconst (1) dX11_owners_20 (by decide +kernel) ?_
  exact sim_lv (am_leS (am_leS (am_leS am_leT))) (t_X11_owners_21 d (by omega) _ _ _ _ _ _)
def f_X11_owners (a0 : Nat × Nat) (x1 : Int32) (x2 : Int32) (h : am_H) : am_R := m_bI (f_X11_isFace x1 h) fun h1 v2 => if v2 = 0 then (f_X11_owners_20 a0 x1 x2 (some a0) h1) else (m_ao (some a0) 11 fun a5 => m_bI (f_X11_isWork a5 x2 h1) fun h3 v4 => if v4 = 0 then (f_X11_owners_20 a0 x1 x2 (some a0) h3) else (f_X11_owners_21 a0 x1 x2 (0 : Int32) (some a0) h3))
theorem k_X11_owners (d : Nat) (hd : 4 ≤ d) (a0 : Nat × Nat) (x1 : Int32) (x2 : Int32) (h : am_H) : am_Con m_X11_owners d [.inr (.inr (some a0)), .inl x1, .inl x2] h (f_X11_owners a0 x1 x2 h) := am_con (by decide +kernel) (Nat.le_of_ble_eq_true rfl) (by
  unfold f_X11_owners
  refine sim_aload_n dX11_owners_0 rfl ?_
  refine sim_iload_n dX11_owners_1 rfl ?_
  refine sim_static (d - 1) dX11_owners_2 (k_X11_isFace (d - 1) (by omega) _ _) q_X11_isFace wm_RX11_149 rfl rfl (by omega) (Nat.le_of_ble_eq_true rfl) am_nI (am_rI fun h1 v2 => ?_) am_eI
  refine sim_if_eq 20 dX11_owners_5 (by decide) (fun c => ?_) (fun c => ?_)
  · exact sim_lv (am_leS (am_leS (am_leS am_leT))) (t_X11_owners_20 d (by omega) _ _ _ _ _)
  · refine sim_aload_n dX11_owners_8 rfl ?_
    refine sim_iload_n dX11_owners_9 rfl ?_
    refine sim_ao1 (fun a5 e => ?_)
    refine sim_virt (d - 1) e dX11_owners_10 (k_X11_isWork (d - 1) (by omega) _ _ _) q_X11_isWork rfl rfl wm_RX11_152 rfl rfl (by omega) (Nat.le_of_ble_eq_true rfl) am_nI (am_rI fun h3 v4 => ?_) am_eI
    refine sim_if_eq 20 dX11_owners_13 (by decide) (fun c => ?_) (fun c => ?_)
    · exact sim_lv (am_leS (am_leS (am_leS am_leT))) (t_X11_owners_20 d (by omega) _ _ _ _ _)
    · refine sim_iconst (0) dX11_owners_16 (by decide +kernel) ?_
      refine sim_goto 21 dX11_owners_17 (by decide) ?_
      exact sim_lv (am_leS (am_leS (am_leS am_leT))) (t_X11_owners_21 d (by omega) _ _ _ _ _ _))
theorem q_X11_owners : am_Cal m_X11_owners 2 2 := ⟨am_mem 1330 (w := Cond.code yX11_owners cX11_owners 3 (some .int)) (by decide +kernel) rfl, am_mem 64 (w := Cond.initialized RX11) (by decide +kernel) rfl, fun z => absurd z (by decide), fun _ => am_mem 1328 (w := Cond.instanceMethod yX11_owners) (by decide +kernel) rfl, fun z => absurd z (by decide), fun _ => am_mem 1329 (w := Cond.selects RX11 yX11_owners yX11_owners) (by decide +kernel) rfl, by decide +kernel, by decide +kernel, Nat.le_of_ble_eq_true rfl⟩
