abbrev m_X2_findReceivers : am_M := (yX2_findReceivers, cX2_findReceivers, 6, none, [])
def f_X2_findReceivers_55 (rc2 : Nat × Nat → Option (Nat × Nat) → Int32 → am_H → am_R) (rc15 : Nat × Nat → Option (Nat × Nat) → Int32 → Int32 → Int32 → am_H → am_R) (a0 : Nat × Nat) (x1 : Option (Nat × Nat)) (x2 : Int32) (x3 : Int32) (x4 : Int32) (s0 : Int32) (h : am_H) : am_R := m_bJ (f_X10_with x3 x4 s0 h) fun h12 v13 => rc15 a0 x1 x2 v13 (x4 + 1) h12
theorem t_X2_findReceivers_55 (d : Nat) (hd : 3 ≤ d) (rc2 : Nat × Nat → Option (Nat × Nat) → Int32 → am_H → am_R) (hrc2 : ∀ a0 x1 x2 h, Sim m_X2_findReceivers d 2 [some (.inr (.inr (some a0))), some (.inr (.inr x1)), some (.inl x2), none, none, none] [] h (rc2 a0 x1 x2 h)) (rc15 : Nat × Nat → Option (Nat × Nat) → Int32 → Int32 → Int32 → am_H → am_R) (hrc15 : ∀ a0 x1 x2 x3 x4 h, Sim m_X2_findReceivers d 15 [some (.inr (.inr (some a0))), some (.inr (.inr x1)), some (.inl x2), some (.inl x3), some (.inl x4), none] [] h (rc15 a0 x1 x2 x3 x4 h)) (a0 : Nat × Nat) (x1 : Option (Nat × Nat)) (x2 : Int32) (x3 : Int32) (x4 : Int32) (s0 : Int32) (h : am_H) : Sim m_X2_findReceivers d 55 [some (.inr (.inr (some a0))), some (.inr (.inr x1)), some (.inl x2), some (.inl x3), some (.inl x4), none] [.inl s0] h (f_X2_findReceivers_55 rc2 rc15 a0 x1 x2 x3 x4 s0 h) := by
  unfold f_X2_findReceivers_55
  refine sim_istore dX2_findReceivers_55 (Nat.le_of_ble_eq_true rfl) ?_
  refine sim_iload_n dX2_findReceivers_57 rfl ?_
  refine sim_iload dX2_findReceivers_58 rfl ?_
  refine sim_iload dX2_findReceivers_60 rfl ?_
  refine sim_staticN (d - 1) dX2_findReceivers_62 (k_X10_with (d - 1) (by omega) _ _ _ _) q_X10_with wn_RX2_39 rfl rfl (by omega) (Nat.le_of_ble_eq_true rfl) am_nJ am_xJ (am_rJ fun h12 v13 => ?_)
  refine sim_istore_n dX2_findReceivers_65 (Nat.le_of_ble_eq_true rfl) ?_
  refine sim_iinc (1) dX2_findReceivers_66 rfl (by decide +kernel) (Nat.le_of_ble_eq_true rfl) ?_
  refine sim_goto 15 dX2_findReceivers_69 (by decide) ?_
  exact sim_lv (am_leS (am_leS (am_leS (am_leS (am_leS (am_leN am_leT)))))) (hrc15 _ _ _ _ _ _)
def f_X2_findReceivers_54 (rc2 : Nat × Nat → Option (Nat × Nat) → Int32 → am_H → am_R) (rc15 : Nat × Nat → Option (Nat × Nat) → Int32 → Int32 → Int32 → am_H → am_R) (a0 : Nat × Nat) (x1 : Option (Nat × Nat)) (x2 : Int32) (x3 : Int32) (x4 : Int32) (h : am_H) : am_R := f_X2_findReceivers_55 rc2 rc15 a0 x1 x2 x3 x4 (0 : Int32) h
theorem t_X2_findReceivers_54 (d : Nat) (hd : 3 ≤ d) (rc2 : Nat × Nat → Option (Nat × Nat) → Int32 → am_H → am_R) (hrc2 : ∀ a0 x1 x2 h, Sim m_X2_findReceivers d 2 [some (.inr (.inr (some a0))), some (.inr (.inr x1)), some (.inl x2), none, none, none] [] h (rc2 a0 x1 x2 h)) (rc15 : Nat × Nat → Option (Nat × Nat) → Int32 → Int32 → Int32 → am_H → am_R) (hrc15 : ∀ a0 x1 x2 x3 x4 h, Sim m_X2_findReceivers d 15 [some (.inr (.inr (some a0))), some (.inr (.inr x1)), some (.inl x2), some (.inl x3), some (.inl x4), none] [] h (rc15 a0 x1 x2 x3 x4 h)) (a0 : Nat × Nat) (x1 : Option (Nat × Nat)) (x2 : Int32) (x3 : Int32) (x4 : Int32) (h : am_H) : Sim m_X2_findReceivers d 54 [some (.inr (.inr (some a0))), some (.inr (.inr x1)), some (.inl x2), some (.inl x3), some (.inl x4), none] [] h (f_X2_findReceivers_54 rc2 rc15 a0 x1 x2 x3 x4 h) := by
  unfold f_X2_findReceivers_54
  refine sim_iconst (0) dX2_findReceivers_54 (by decide +kernel) ?_
  exact sim_lv (am_leS (am_leS (am_leS (am_leS (am_leS (am_leN am_leT)))))) (t_X2_findReceivers_55 d (by omega) _ hrc2 _ hrc15 _ _ _ _ _ _ _)
def f_X2_findReceivers_15 (rc2 : Nat × Nat → Option (Nat × Nat) → Int32 → am_H → am_R) : Nat → Nat × Nat → Option (Nat × Nat) → Int32 → Int32 → Int32 → am_H → am_R
  | 0, _, _, _, _, _, _ => none
  | n + 1, a0, x1, x2, x3, x4, h => m_gI (some a0) 2 1 h fun v2 => if v2 ≤ x4 then (m_gR (some a0) 2 2 h fun o3 => m_sI o3 x2 x3 h fun h4 => rc2 a0 x1 (x2 + 1) h4) else (if x2 = x4 then (f_X2_findReceivers_54 rc2 (f_X2_findReceivers_15 rc2 n) a0 x1 x2 x3 x4 h) else (m_gR (some a0) 2 0 h fun o5 => m_aR o5 8 x2 h fun o6 => m_gR (some a0) 2 0 h fun o7 => m_aR o7 8 x4 h fun o8 => m_ao o6 6 fun a11 => m_bI (f_X6_suits a11 o8 x1 h) fun h9 v10 => if v10 = 0 then (f_X2_findReceivers_54 rc2 (f_X2_findReceivers_15 rc2 n) a0 x1 x2 x3 x4 h9) else (f_X2_findReceivers_55 rc2 (f_X2_findReceivers_15 rc2 n) a0 x1 x2 x3 x4 (1 : Int32) h9)))
theorem t_X2_findReceivers_15 (d : Nat) (hd : 3 ≤ d) (rc2 : Nat × Nat → Option (Nat × Nat) → Int32 → am_H → am_R) (hrc2 : ∀ a0 x1 x2 h, Sim m_X2_findReceivers d 2 [some (.inr (.inr (some a0))), some (.inr (.inr x1)), some (.inl x2), none, none, none] [] h (rc2 a0 x1 x2 h)) : ∀ (n : Nat) (a0 : Nat × Nat) (x1 : Option (Nat × Nat)) (x2 : Int32) (x3 : Int32) (x4 : Int32) (h : am_H), Sim m_X2_findReceivers d 15 [some (.inr (.inr (some a0))), some (.inr (.inr x1)), some (.inl x2), some (.inl x3), some (.inl x4), none] [] h (f_X2_findReceivers_15 rc2 n a0 x1 x2 x3 x4 h) := by
  intro n
  induction n with
  | zero => intros; exact sim_none
  | succ n hrc15 =>
    intro a0 x1 x2 x3 x4 h
    rw [f_X2_findReceivers_15]
    refine sim_iload dX2_findReceivers_15 rfl ?_
    refine sim_aload_n dX2_findReceivers_17 rfl ?_
    refine sim_gI 2 1 dX2_findReceivers_18 rfl wf_RX2_24 (Nat.le_of_ble_eq_true rfl) rfl (fun v2 => ?_)
    refine sim_ic_ge 72 dX2_findReceivers_21 (by decide) (fun c => ?_) (fun c => ?_)
    · refine sim_aload_n dX2_findReceivers_72 rfl ?_
      refine sim_gR 2 2 dX2_findReceivers_73 rfl wf_RX2_17 (Nat.le_of_ble_eq_true rfl) rfl (fun o3 => ?_)
      refine sim_iload_n dX2_findReceivers_76 rfl ?_
      refine sim_iload_n dX2_findReceivers_77 rfl ?_
      refine sim_sI dX2_findReceivers_78 (fun h4 => ?_)
      refine sim_iinc (1) dX2_findReceivers_79 rfl (by decide +kernel) (Nat.le_of_ble_eq_true rfl) ?_
      refine sim_goto 2 dX2_findReceivers_82 (by decide) ?_
      exact sim_lv (am_leS (am_leS (am_leS (am_leN (am_leN (am_leN am_leT)))))) (hrc2 _ _ _ _)
    · refine sim_iload_n dX2_findReceivers_24 rfl ?_
      refine sim_iload dX2_findReceivers_25 rfl ?_
      refine sim_ic_eq 54 dX2_findReceivers_27 (by decide) (fun c => ?_) (fun c => ?_)
      · exact sim_lv (am_leS (am_leS (am_leS (am_leS (am_leS (am_leN am_leT)))))) (t_X2_findReceivers_54 d (by omega) _ hrc2 _ hrc15 _ _ _ _ _ _)
      · refine sim_aload_n dX2_findReceivers_30 rfl ?_
        refine sim_gR 2 0 dX2_findReceivers_31 rfl wf_RX2_11 (Nat.le_of_ble_eq_true rfl) rfl (fun o5 => ?_)
        refine sim_iload_n dX2_findReceivers_34 rfl ?_
        refine sim_aR 8 rfl dX2_findReceivers_35 (fun o6 => ?_)
        refine sim_aload_n dX2_findReceivers_36 rfl ?_
        refine sim_gR 2 0 dX2_findReceivers_37 rfl wf_RX2_11 (Nat.le_of_ble_eq_true rfl) rfl (fun o7 => ?_)
        refine sim_iload dX2_findReceivers_40 rfl ?_
        refine sim_aR 8 rfl dX2_findReceivers_42 (fun o8 => ?_)
        refine sim_aload_n dX2_findReceivers_43 rfl ?_
        refine sim_ao2 (fun a11 e => ?_)
        refine sim_virt (d - 1) e dX2_findReceivers_44 (k_X6_suits (d - 1) (by omega) _ _ _ _) q_X6_suits rfl rfl wm_RX2_56 rfl rfl (by omega) (Nat.le_of_ble_eq_true rfl) am_nI (am_rI fun h9 v10 => ?_) am_eI
        refine sim_if_eq 54 dX2_findReceivers_47 (by decide) (fun c => ?_) (fun c => ?_)
        · exact sim_lv (am_leS (am_leS (am_leS (am_leS (am_leS (am_leN am_leT)))))) (t_X2_findReceivers_54 d (by omega) _ hrc2 _ hrc15 _ _ _ _ _ _)
        · refine sim_iconst (1) dX2_findReceivers_50 (by decide +kernel) ?_
          refine sim_goto 55 dX2_findReceivers_51 (by decide) ?_
          exact sim_lv (am_leS (am_leS (am_leS (am_leS (am_leS (am_leN am_leT)))))) (t_X2_findReceivers_55 d (by omega) _ hrc2 _ hrc15 _ _ _ _ _ _ _)
def f_X2_findReceivers_2  : Nat → Nat × Nat → Option (Nat × Nat) → Int32 → am_H → am_R
  | 0, _, _, _, _ => none
  | n + 1, a0, x1, x2, h => m_gI (some a0) 2 1 h fun v1 => if v1 ≤ x2 then (m_rt h none) else (f_X2_findReceivers_15 (f_X2_findReceivers_2  n) 5000 a0 x1 x2 (0 : Int32) (0 : Int32) h)
theorem t_X2_findReceivers_2 (d : Nat) (hd : 3 ≤ d)  : ∀ (n : Nat) (a0 : Nat × Nat) (x1 : Option (Nat × Nat)) (x2 : Int32) (h : am_H), Sim m_X2_findReceivers d 2 [some (.inr (.inr (some a0))), some (.inr (.inr x1)), some (.inl x2), none, none, none] [] h (f_X2_findReceivers_2  n a0 x1 x2 h) := by
  intro n
  induction n with
  | zero => intros; exact sim_none
  | succ n hrc2 =>
    intro a0 x1 x2 h
    rw [f_X2_findReceivers_2]
    refine sim_iload_n dX2_findReceivers_2 rfl ?_
    refine sim_aload_n dX2_findReceivers_3 rfl ?_
    refine sim_gI 2 1 dX2_findReceivers_4 rfl wf_RX2_24 (Nat.le_of_ble_eq_true rfl) rfl (fun v1 => ?_)
    refine sim_ic_ge 85 dX2_findReceivers_7 (by decide) (fun c => ?_) (fun c => ?_)
    · exact sim_vret dX2_findReceivers_85 rfl
    · refine sim_iconst (0) dX2_findReceivers_10 (by decide +kernel) ?_
      refine sim_istore_n dX2_findReceivers_11 (Nat.le_of_ble_eq_true rfl) ?_
      refine sim_iconst (0) dX2_findReceivers_12 (by decide +kernel) ?_
      refine sim_istore dX2_findReceivers_13 (Nat.le_of_ble_eq_true rfl) ?_
      exact sim_lv (am_leS (am_leS (am_leS (am_leS (am_leS (am_leN am_leT)))))) (t_X2_findReceivers_15 d (by omega) _ hrc2 _ _ _ _ _ _ _)
def f_X2_findReceivers (a0 : Nat × Nat) (x1 : Option (Nat × Nat)) (h : am_H) : am_R := f_X2_findReceivers_2 5000 a0 x1 (0 : Int32) h
theorem k_X2_findReceivers (d : Nat) (hd : 3 ≤ d) (a0 : Nat × Nat) (x1 : Option (Nat × Nat)) (h : am_H) : am_Con m_X2_findReceivers d [.inr (.inr (some a0)), .inr (.inr x1)] h (f_X2_findReceivers a0 x1 h) := am_con (by decide +kernel) (Nat.le_of_ble_eq_true rfl) (by
  unfold f_X2_findReceivers
  refine sim_iconst (0) dX2_findReceivers_0 (by decide +kernel) ?_
  refine sim_istore_n dX2_findReceivers_1 (Nat.le_of_ble_eq_true rfl) ?_
  exact sim_lv (am_leS (am_leS (am_leS (am_leN (am_leN (am_leN am_leT)))))) (t_X2_findReceivers_2 d (by omega) _ _ _ _ _))
theorem q_X2_findReceivers : am_Cal m_X2_findReceivers 1 2 := ⟨am_mem 837 (w := Cond.code yX2_findReceivers cX2_findReceivers 6 none) (by decide +kernel) rfl, am_mem 35 (w := Cond.initialized RX2) (by decide +kernel) rfl, fun z => absurd z (by decide), fun _ => am_mem 836 (w := Cond.instanceMethod yX2_findReceivers) (by decide +kernel) rfl, fun z => absurd z (by decide), fun _ => am_mem 20 (w := Cond.selects RX2 yX2_findReceivers yX2_findReceivers) (by decide +kernel) rfl, by decide +kernel, by decide +kernel, Nat.le_of_ble_eq_true rfl⟩
abbrev m_X2_findWays : am_M := (yX2_findWays, cX2_findWays, 7, none, [])
def f_X2_findWays_87 (rc25 : Nat × Nat → Int32 → am_H → am_R) (rc50 : Nat × Nat → Int32 → Int32 → Int32 → Int32 → am_H → am_R) (a0 : Nat × Nat) (x3 : Int32) (x4 : Int32) (x6 : Int32) (s0 : Int32) (s1 : Int32) (h : am_H) : am_R := rc50 a0 x3 x4 (s1 + s0) (x6 + 1) h
theorem t_X2_findWays_87 (d : Nat) (hd : 4 ≤ d) (rc25 : Nat × Nat → Int32 → am_H → am_R) (hrc25 : ∀ a0 x3 h, Sim m_X2_findWays d 25 [some (.inr (.inr (some a0))), none, none, some (.inl x3), none, none, none] [] h (rc25 a0 x3 h)) (rc50 : Nat × Nat → Int32 → Int32 → Int32 → Int32 → am_H → am_R) (hrc50 : ∀ a0 x3 x4 x5 x6 h, Sim m_X2_findWays d 50 [some (.inr (.inr (some a0))), none, none, some (.inl x3), some (.inl x4), some (.inl x5), some (.inl x6)] [] h (rc50 a0 x3 x4 x5 x6 h)) (a0 : Nat × Nat) (x3 : Int32) (x4 : Int32) (x6 : Int32) (s0 : Int32) (s1 : Int32) (h : am_H) : Sim m_X2_findWays d 87 [some (.inr (.inr (some a0))), none, none, some (.inl x3), some (.inl x4), none, some (.inl x6)] [.inl s0, .inl s1] h (f_X2_findWays_87 rc25 rc50 a0 x3 x4 x6 s0 s1 h) := by
  unfold f_X2_findWays_87
  refine sim_iadd dX2_findWays_87 ?_
  refine sim_istore dX2_findWays_88 (Nat.le_of_ble_eq_true rfl) ?_
  refine sim_iinc (1) dX2_findWays_90 rfl (by decide +kernel) (Nat.le_of_ble_eq_true rfl) ?_
  refine sim_goto 50 dX2_findWays_93 (by decide) ?_
  exact sim_lv (am_leS (am_leN (am_leN (am_leS (am_leS (am_leS (am_leS am_leT))))))) (hrc50 _ _ _ _ _ _)
def f_X2_findWays_50 (rc25 : Nat × Nat → Int32 → am_H → am_R) : Nat → Nat × Nat → Int32 → Int32 → Int32 → Int32 → am_H → am_R
  | 0, _, _, _, _, _, _ => none
  | n + 1, a0, x3, x4, x5, x6, h => m_gI (some a0) 2 1 h fun v11 => if v11 ≤ x6 then (m_gR (some a0) 2 3 h fun o12 => m_sI o12 x3 x5 h fun h13 => rc25 a0 (x3 + (-1)) h13) else (m_bJ (f_X10_has x4 x6 h) fun h14 v15 => if v15 = 0 then (f_X2_findWays_87 rc25 (f_X2_findWays_50 rc25 n) a0 x3 x4 x6 (0 : Int32) x5 h14) else (m_gR (some a0) 2 3 h14 fun o16 => m_bJ (f_X10_with x3 x6 (1 : Int32) h14) fun h17 v18 => m_aI o16 0 v18 h17 fun v19 => f_X2_findWays_87 rc25 (f_X2_findWays_50 rc25 n) a0 x3 x4 x6 v19 x5 h17))
theorem t_X2_findWays_50 (d : Nat) (hd : 4 ≤ d) (rc25 : Nat × Nat → Int32 → am_H → am_R) (hrc25 : ∀ a0 x3 h, Sim m_X2_findWays d 25 [some (.inr (.inr (some a0))), none, none, some (.inl x3), none, none, none] [] h (rc25 a0 x3 h)) : ∀ (n : Nat) (a0 : Nat × Nat) (x3 : Int32) (x4 : Int32) (x5 : Int32) (x6 : Int32) (h : am_H), Sim m_X2_findWays d 50 [some (.inr (.inr (some a0))), none, none, some (.inl x3), some (.inl x4), some (.inl x5), some (.inl x6)] [] h (f_X2_findWays_50 rc25 n a0 x3 x4 x5 x6 h) := by
  intro n
  induction n with
  | zero => intros; exact sim_none
  | succ n hrc50 =>
    intro a0 x3 x4 x5 x6 h
    rw [f_X2_findWays_50]
    refine sim_iload dX2_findWays_50 rfl ?_
    refine sim_aload_n dX2_findWays_52 rfl ?_
    refine sim_gI 2 1 dX2_findWays_53 rfl wf_RX2_24 (Nat.le_of_ble_eq_true rfl) rfl (fun v11 => ?_)
    refine sim_ic_ge 96 dX2_findWays_56 (by decide) (fun c => ?_) (fun c => ?_)
    · refine sim_aload_n dX2_findWays_96 rfl ?_
      refine sim_gR 2 3 dX2_findWays_97 rfl wf_RX2_21 (Nat.le_of_ble_eq_true rfl) rfl (fun o12 => ?_)
      refine sim_iload_n dX2_findWays_100 rfl ?_
      refine sim_iload dX2_findWays_101 rfl ?_
      refine sim_sI dX2_findWays_103 (fun h13 => ?_)
      refine sim_iinc (-1) dX2_findWays_104 rfl (by decide +kernel) (Nat.le_of_ble_eq_true rfl) ?_
      refine sim_goto 25 dX2_findWays_107 (by decide) ?_
      exact sim_lv (am_leS (am_leN (am_leN (am_leS (am_leN (am_leN (am_leN am_leT))))))) (hrc25 _ _ _)
    · refine sim_iload dX2_findWays_59 rfl ?_
      refine sim_iload dX2_findWays_61 rfl ?_
      refine sim_iload dX2_findWays_63 rfl ?_
      refine sim_staticN (d - 1) dX2_findWays_65 (k_X10_has (d - 1) (by omega) _ _ _) q_X10_has wn_RX2_43 rfl rfl (by omega) (Nat.le_of_ble_eq_true rfl) am_nJ am_xJ (am_rJ fun h14 v15 => ?_)
      refine sim_if_eq 86 dX2_findWays_68 (by decide) (fun c => ?_) (fun c => ?_)
      · refine sim_iconst (0) dX2_findWays_86 (by decide +kernel) ?_
        exact sim_lv (am_leS (am_leN (am_leN (am_leS (am_leS (am_leN (am_leS am_leT))))))) (t_X2_findWays_87 d (by omega) _ hrc25 _ hrc50 _ _ _ _ _ _ _)
      · refine sim_aload_n dX2_findWays_71 rfl ?_
        refine sim_gR 2 3 dX2_findWays_72 rfl wf_RX2_21 (Nat.le_of_ble_eq_true rfl) rfl (fun o16 => ?_)
        refine sim_iload_n dX2_findWays_75 rfl ?_
        refine sim_iload dX2_findWays_76 rfl ?_
        refine sim_iconst (1) dX2_findWays_78 (by decide +kernel) ?_
        refine sim_staticN (d - 1) dX2_findWays_79 (k_X10_with (d - 1) (by omega) _ _ _ _) q_X10_with wn_RX2_39 rfl rfl (by omega) (Nat.le_of_ble_eq_true rfl) am_nJ am_xJ (am_rJ fun h17 v18 => ?_)
        refine sim_aI dX2_findWays_82 (fun v19 => ?_)
        refine sim_goto 87 dX2_findWays_83 (by decide) ?_
        exact sim_lv (am_leS (am_leN (am_leN (am_leS (am_leS (am_leN (am_leS am_leT))))))) (t_X2_findWays_87 d (by omega) _ hrc25 _ hrc50 _ _ _ _ _ _ _)
def f_X2_findWays_25  : Nat → Nat × Nat → Int32 → am_H → am_R
  | 0, _, _, _ => none
  | n + 1, a0, x3, h => if x3 < 0 then (m_rt h none) else (m_gR (some a0) 2 2 h fun o7 => m_bI (f_J6_bitCount_0f7a4 x3 h) fun h8 v9 => m_aI o7 0 v9 h8 fun v10 => f_X2_findWays_50 (f_X2_findWays_25  n) 5000 a0 x3 (v10 &&& (x3 ^^^ (-1 : Int32))) (0 : Int32) (0 : Int32) h8)
theorem t_X2_findWays_25 (d : Nat) (hd : 4 ≤ d)  : ∀ (n : Nat) (a0 : Nat × Nat) (x3 : Int32) (h : am_H), Sim m_X2_findWays d 25 [some (.inr (.inr (some a0))), none, none, some (.inl x3), none, none, none] [] h (f_X2_findWays_25  n a0 x3 h) := by
  intro n
  induction n with
  | zero => intros; exact sim_none
  | succ n hrc25 =>
    intro a0 x3 h
    rw [f_X2_findWays_25]
    refine sim_iload_n dX2_findWays_25 rfl ?_
    refine sim_if_lt 110 dX2_findWays_26 (by decide) (fun c => ?_) (fun c => ?_)
    · exact sim_vret dX2_findWays_110 rfl
    · refine sim_aload_n dX2_findWays_29 rfl ?_
      refine sim_gR 2 2 dX2_findWays_30 rfl wf_RX2_17 (Nat.le_of_ble_eq_true rfl) rfl (fun o7 => ?_)
      refine sim_iload_n dX2_findWays_33 rfl ?_
      refine sim_static (d - 1) dX2_findWays_34 (k_J6_bitCount_0f7a4 (d - 1) (by omega) _ _) q_J6_bitCount_0f7a4 wm_RX2_50 rfl rfl (by omega) (Nat.le_of_ble_eq_true rfl) am_nI (am_rI fun h8 v9 => ?_) am_eI
      refine sim_aI dX2_findWays_37 (fun v10 => ?_)
      refine sim_iload_n dX2_findWays_38 rfl ?_
      refine sim_iconst (-1) dX2_findWays_39 (by decide +kernel) ?_
      refine sim_ixor dX2_findWays_40 ?_
      refine sim_iand dX2_findWays_41 ?_
      refine sim_istore dX2_findWays_42 (Nat.le_of_ble_eq_true rfl) ?_
      refine sim_iconst (0) dX2_findWays_44 (by decide +kernel) ?_
      refine sim_istore dX2_findWays_45 (Nat.le_of_ble_eq_true rfl) ?_
      refine sim_iconst (0) dX2_findWays_47 (by decide +kernel) ?_
      refine sim_istore dX2_findWays_48 (Nat.le_of_ble_eq_true rfl) ?_
      exact sim_lv (am_leS (am_leN (am_leN (am_leS (am_leS (am_leS (am_leS am_leT))))))) (t_X2_findWays_50 d (by omega) _ hrc25 _ _ _ _ _ _ _)
def f_X2_findWays (a0 : Nat × Nat) (x1 : Option (Nat × Nat)) (h : am_H) : am_R := m_ao (some a0) 2 fun a3 => m_bV (f_X2_findReceivers a3 x1 h) fun h1 => m_gI (some a0) 2 1 h1 fun v4 => m_gR (some a0) 2 3 h1 fun o5 => m_sI o5 (((1 : Int32) <<< (v4 &&& 31)) - (1 : Int32)) (1 : Int32) h1 fun h6 => f_X2_findWays_25 5000 a0 ((((1 : Int32) <<< (v4 &&& 31)) - (1 : Int32)) - (1 : Int32)) h6
theorem k_X2_findWays (d : Nat) (hd : 4 ≤ d) (a0 : Nat × Nat) (x1 : Option (Nat × Nat)) (h : am_H) : am_Con m_X2_findWays d [.inr (.inr (some a0)), .inr (.inr x1)] h (f_X2_findWays a0 x1 h) := am_con (by decide +kernel) (Nat.le_of_ble_eq_true rfl) (by
  unfold f_X2_findWays
  refine sim_aload_n dX2_findWays_0 rfl ?_
  refine sim_aload_n dX2_findWays_1 rfl ?_
  refine sim_ao1 (fun a3 e => ?_)
  refine sim_virt (d - 1) e dX2_findWays_2 (k_X2_findReceivers (d - 1) (by omega) _ _ _) q_X2_findReceivers rfl rfl wm_RX2_47 rfl rfl (by omega) (Nat.le_of_ble_eq_true rfl) am_nV (am_rV fun h1 => ?_) am_eV
  refine sim_iconst (1) dX2_findWays_5 (by decide +kernel) ?_
  refine sim_aload_n dX2_findWays_6 rfl ?_
  refine sim_gI 2 1 dX2_findWays_7 rfl wf_RX2_24 (Nat.le_of_ble_eq_true rfl) rfl (fun v4 => ?_)
  refine sim_ishl dX2_findWays_10 ?_
  refine sim_iconst (1) dX2_findWays_11 (by decide +kernel) ?_
  refine sim_isub dX2_findWays_12 ?_
  refine sim_istore_n dX2_findWays_13 (Nat.le_of_ble_eq_true rfl) ?_
  refine sim_aload_n dX2_findWays_14 rfl ?_
  refine sim_gR 2 3 dX2_findWays_15 rfl wf_RX2_21 (Nat.le_of_ble_eq_true rfl) rfl (fun o5 => ?_)
  refine sim_iload_n dX2_findWays_18 rfl ?_
  refine sim_iconst (1) dX2_findWays_19 (by decide +kernel) ?_
  refine sim_sI dX2_findWays_20 (fun h6 => ?_)
  refine sim_iload_n dX2_findWays_21 rfl ?_
  refine sim_iconst (1) dX2_findWays_22 (by decide +kernel) ?_
  refine sim_isub dX2_findWays_23 ?_
  refine sim_istore_n dX2_findWays_24 (Nat.le_of_ble_eq_true rfl) ?_
  exact sim_lv (am_leS (am_leN (am_leN (am_leS (am_leN (am_leN (am_leN am_leT))))))) (t_X2_findWays_25 d (by omega) _ _ _ _))
theorem q_X2_findWays : am_Cal m_X2_findWays 1 2 := ⟨am_mem 833 (w := Cond.code yX2_findWays cX2_findWays 7 none) (by decide +kernel) rfl, am_mem 35 (w := Cond.initialized RX2) (by decide +kernel) rfl, fun z => absurd z (by decide), fun _ => am_mem 832 (w := Cond.instanceMethod yX2_findWays) (by decide +kernel) rfl, fun z => absurd z (by decide), fun _ => am_mem 19 (w := Cond.selects RX2 yX2_findWays yX2_findWays) (by decide +kernel) rfl, by decide +kernel, by decide +kernel, Nat.le_of_ble_eq_true rfl⟩
abbrev m_X2_lowestReceiver : am_M := (yX2_lowestReceiver, cX2_lowestReceiver, 5, some .int, [])
def f_X2_lowestReceiver_50 (rc14 : Nat × Nat → Int32 → Int32 → Int32 → am_H → am_R) (a0 : Nat × Nat) (x2 : Int32) (x3 : Int32) (x4 : Int32) (h : am_H) : am_R := rc14 a0 x2 x3 (x4 + 1) h
theorem t_X2_lowestReceiver_50 (d : Nat) (hd : 1 ≤ d) (rc14 : Nat × Nat → Int32 → Int32 → Int32 → am_H → am_R) (hrc14 : ∀ a0 x2 x3 x4 h, Sim m_X2_lowestReceiver d 14 [some (.inr (.inr (some a0))), none, some (.inl x2), some (.inl x3), some (.inl x4)] [] h (rc14 a0 x2 x3 x4 h)) (a0 : Nat × Nat) (x2 : Int32) (x3 : Int32) (x4 : Int32) (h : am_H) : Sim m_X2_lowestReceiver d 50 [some (.inr (.inr (some a0))), none, some (.inl x2), some (.inl x3), some (.inl x4)] [] h (f_X2_lowestReceiver_50 rc14 a0 x2 x3 x4 h) := by
  unfold f_X2_lowestReceiver_50
  refine sim_iinc (1) dX2_lowestReceiver_50 rfl (by decide +kernel) (Nat.le_of_ble_eq_true rfl) ?_
  refine sim_goto 14 dX2_lowestReceiver_53 (by decide) ?_
  exact sim_lv (am_leS (am_leN (am_leS (am_leS (am_leS am_leT))))) (hrc14 _ _ _ _ _)
def f_X2_lowestReceiver_14  : Nat → Nat × Nat → Int32 → Int32 → Int32 → am_H → am_R
  | 0, _, _, _, _, _ => none
  | n + 1, a0, x2, x3, x4, h => m_gI (some a0) 2 1 h fun v3 => if v3 ≤ x4 then (m_ri h (-1 : Int32)) else (m_bJ (f_X10_has x3 x4 h) fun h4 v5 => if v5 = 0 then (f_X2_lowestReceiver_50 (f_X2_lowestReceiver_14  n) a0 x2 x3 x4 h4) else (m_gR (some a0) 2 3 h4 fun o6 => m_bJ (f_X10_with x2 x4 (1 : Int32) h4) fun h7 v8 => m_aI o6 0 v8 h7 fun v9 => if v9 ≤ 0 then (f_X2_lowestReceiver_50 (f_X2_lowestReceiver_14  n) a0 x2 x3 x4 h7) else (m_ri h7 x4)))
theorem t_X2_lowestReceiver_14 (d : Nat) (hd : 1 ≤ d)  : ∀ (n : Nat) (a0 : Nat × Nat) (x2 : Int32) (x3 : Int32) (x4 : Int32) (h : am_H), Sim m_X2_lowestReceiver d 14 [some (.inr (.inr (some a0))), none, some (.inl x2), some (.inl x3), some (.inl x4)] [] h (f_X2_lowestReceiver_14  n a0 x2 x3 x4 h) := by
  intro n
  induction n with
  | zero => intros; exact sim_none
  | succ n hrc14 =>
    intro a0 x2 x3 x4 h
    rw [f_X2_lowestReceiver_14]
    refine sim_iload dX2_lowestReceiver_14 rfl ?_
    refine sim_aload_n dX2_lowestReceiver_16 rfl ?_
    refine sim_gI 2 1 dX2_lowestReceiver_17 rfl wf_RX2_24 (Nat.le_of_ble_eq_true rfl) rfl (fun v3 => ?_)
    refine sim_ic_ge 56 dX2_lowestReceiver_20 (by decide) (fun c => ?_) (fun c => ?_)
    · refine sim_iconst (-1) dX2_lowestReceiver_56 (by decide +kernel) ?_
      exact sim_iret dX2_lowestReceiver_57 rfl
    · refine sim_iload_n dX2_lowestReceiver_23 rfl ?_
      refine sim_iload dX2_lowestReceiver_24 rfl ?_
      refine sim_staticN (d - 1) dX2_lowestReceiver_26 (k_X10_has (d - 1) (by omega) _ _ _) q_X10_has wn_RX2_43 rfl rfl (by omega) (Nat.le_of_ble_eq_true rfl) am_nJ am_xJ (am_rJ fun h4 v5 => ?_)
      refine sim_if_eq 50 dX2_lowestReceiver_29 (by decide) (fun c => ?_) (fun c => ?_)
      · exact sim_lv (am_leS (am_leN (am_leS (am_leS (am_leS am_leT))))) (t_X2_lowestReceiver_50 d (by omega) _ hrc14 _ _ _ _ _)
      · refine sim_aload_n dX2_lowestReceiver_32 rfl ?_
        refine sim_gR 2 3 dX2_lowestReceiver_33 rfl wf_RX2_21 (Nat.le_of_ble_eq_true rfl) rfl (fun o6 => ?_)
        refine sim_iload_n dX2_lowestReceiver_36 rfl ?_
        refine sim_iload dX2_lowestReceiver_37 rfl ?_
        refine sim_iconst (1) dX2_lowestReceiver_39 (by decide +kernel) ?_
        refine sim_staticN (d - 1) dX2_lowestReceiver_40 (k_X10_with (d - 1) (by omega) _ _ _ _) q_X10_with wn_RX2_39 rfl rfl (by omega) (Nat.le_of_ble_eq_true rfl) am_nJ am_xJ (am_rJ fun h7 v8 => ?_)
        refine sim_aI dX2_lowestReceiver_43 (fun v9 => ?_)
        refine sim_if_le 50 dX2_lowestReceiver_44 (by decide) (fun c => ?_) (fun c => ?_)
        · exact sim_lv (am_leS (am_leN (am_leS (am_leS (am_leS am_leT))))) (t_X2_lowestReceiver_50 d (by omega) _ hrc14 _ _ _ _ _)
        · refine sim_iload dX2_lowestReceiver_47 rfl ?_
          exact sim_iret dX2_lowestReceiver_49 rfl
def f_X2_lowestReceiver (a0 : Nat × Nat) (x1 : Int32) (x2 : Int32) (h : am_H) : am_R := m_gR (some a0) 2 2 h fun o1 => m_aI o1 0 x1 h fun v2 => f_X2_lowestReceiver_14 5000 a0 x2 (v2 &&& (x2 ^^^ (-1 : Int32))) (0 : Int32) h
theorem k_X2_lowestReceiver (d : Nat) (hd : 1 ≤ d) (a0 : Nat × Nat) (x1 : Int32) (x2 : Int32) (h : am_H) : am_Con m_X2_lowestReceiver d [.inr (.inr (some a0)), .inl x1, .inl x2] h (f_X2_lowestReceiver a0 x1 x2 h) := am_con (by decide +kernel) (Nat.le_of_ble_eq_true rfl) (by
  unfold f_X2_lowestReceiver
  refine sim_aload_n dX2_lowestReceiver_0 rfl ?_
  refine sim_gR 2 2 dX2_lowestReceiver_1 rfl wf_RX2_17 (Nat.le_of_ble_eq_true rfl) rfl (fun o1 => ?_)
  refine sim_iload_n dX2_lowestReceiver_4 rfl ?_
  refine sim_aI dX2_lowestReceiver_5 (fun v2 => ?_)
  refine sim_iload_n dX2_lowestReceiver_6 rfl ?_
  refine sim_iconst (-1) dX2_lowestReceiver_7 (by decide +kernel) ?_
  refine sim_ixor dX2_lowestReceiver_8 ?_
  refine sim_iand dX2_lowestReceiver_9 ?_
  refine sim_istore_n dX2_lowestReceiver_10 (Nat.le_of_ble_eq_true rfl) ?_
  refine sim_iconst (0) dX2_lowestReceiver_11 (by decide +kernel) ?_
  refine sim_istore dX2_lowestReceiver_12 (Nat.le_of_ble_eq_true rfl) ?_
  exact sim_lv (am_leS (am_leN (am_leS (am_leS (am_leS am_leT))))) (t_X2_lowestReceiver_14 d (by omega) _ _ _ _ _ _))
theorem q_X2_lowestReceiver : am_Cal m_X2_lowestReceiver 2 2 := ⟨am_mem 854 (w := Cond.code yX2_lowestReceiver cX2_lowestReceiver 5 (some .int)) (by decide +kernel) rfl, am_mem 35 (w := Cond.initialized RX2) (by decide +kernel) rfl, fun z => absurd z (by decide), fun _ => am_mem 853 (w := Cond.instanceMethod yX2_lowestReceiver) (by decide +kernel) rfl, fun z => absurd z (by decide), fun _ => am_mem 21 (w := Cond.selects RX2 yX2_lowestReceiver yX2_lowestReceiver) (by decide +kernel) rfl, by decide +kernel, by decide +kernel, Nat.le_of_ble_eq_true rfl⟩
abbrev m_X2_receiverOf : am_M := (yX2_receiverOf, cX2_receiverOf, 6, some .int, [])
def f_X2_receiverOf_63  (x3 : Int32) (h : am_H) : am_R := m_ri h x3
theorem t_X2_receiverOf_63 (d : Nat) (hd : 5 ≤ d)  (x3 : Int32) (h : am_H) : Sim m_X2_receiverOf d 63 [none, none, none, some (.inl x3), none, none] [] h (f_X2_receiverOf_63  x3 h) := by
  unfold f_X2_receiverOf_63
  refine sim_iload_n dX2_receiverOf_63 rfl ?_
  exact sim_iret dX2_receiverOf_64 rfl
def f_X2_receiverOf_55 (rc13 : Nat × Nat → Int32 → Int32 → Int32 → Int32 → am_H → am_R) (a0 : Nat × Nat) (x1 : Int32) (x3 : Int32) (x5 : Int32) (s0 : Int32) (h : am_H) : am_R := rc13 a0 x1 x3 s0 (x5 + 1) h
theorem t_X2_receiverOf_55 (d : Nat) (hd : 5 ≤ d) (rc13 : Nat × Nat → Int32 → Int32 → Int32 → Int32 → am_H → am_R) (hrc13 : ∀ a0 x1 x3 x4 x5 h, Sim m_X2_receiverOf d 13 [some (.inr (.inr (some a0))), some (.inl x1), none, some (.inl x3), some (.inl x4), some (.inl x5)] [] h (rc13 a0 x1 x3 x4 x5 h)) (a0 : Nat × Nat) (x1 : Int32) (x3 : Int32) (x5 : Int32) (s0 : Int32) (h : am_H) : Sim m_X2_receiverOf d 55 [some (.inr (.inr (some a0))), some (.inl x1), none, some (.inl x3), none, some (.inl x5)] [.inl s0] h (f_X2_receiverOf_55 rc13 a0 x1 x3 x5 s0 h) := by
  unfold f_X2_receiverOf_55
  refine sim_istore dX2_receiverOf_55 (Nat.le_of_ble_eq_true rfl) ?_
  refine sim_iinc (1) dX2_receiverOf_57 rfl (by decide +kernel) (Nat.le_of_ble_eq_true rfl) ?_
  refine sim_goto 13 dX2_receiverOf_60 (by decide) ?_
  exact sim_lv (am_leS (am_leS (am_leN (am_leS (am_leS (am_leS am_leT)))))) (hrc13 _ _ _ _ _ _)
def f_X2_receiverOf_13  : Nat → Nat × Nat → Int32 → Int32 → Int32 → Int32 → am_H → am_R
  | 0, _, _, _, _, _, _ => none
  | n + 1, a0, x1, x3, x4, x5, h => if x1 < x5 then (f_X2_receiverOf_63 x3 h) else (m_gR (some a0) 2 3 h fun o4 => m_aI o4 0 x4 h fun v5 => if v5 ≤ 0 then (f_X2_receiverOf_63 x3 h) else (m_ao (some a0) 2 fun a8 => m_bI (f_X2_lowestReceiver a8 x5 x4 h) fun h6 v7 => if v7 = (-1 : Int32) then (f_X2_receiverOf_55 (f_X2_receiverOf_13  n) a0 x1 v7 x5 x4 h6) else (m_bJ (f_X10_with x4 v7 (1 : Int32) h6) fun h9 v10 => f_X2_receiverOf_55 (f_X2_receiverOf_13  n) a0 x1 v7 x5 v10 h9)))
theorem t_X2_receiverOf_13 (d : Nat) (hd : 5 ≤ d)  : ∀ (n : Nat) (a0 : Nat × Nat) (x1 : Int32) (x3 : Int32) (x4 : Int32) (x5 : Int32) (h : am_H), Sim m_X2_receiverOf d 13 [some (.inr (.inr (some a0))), some (.inl x1), none, some (.inl x3), some (.inl x4), some (.inl x5)] [] h (f_X2_receiverOf_13  n a0 x1 x3 x4 x5 h) := by
  intro n
  induction n with
  | zero => intros; exact sim_none
  | succ n hrc13 =>
    intro a0 x1 x3 x4 x5 h
    rw [f_X2_receiverOf_13]
    refine sim_iload dX2_receiverOf_13 rfl ?_
    refine sim_iload_n dX2_receiverOf_15 rfl ?_
    refine sim_ic_gt 63 dX2_receiverOf_16 (by decide) (fun c => ?_) (fun c => ?_)
    · exact sim_lv (am_leN (am_leN (am_leN (am_leS (am_leN (am_leN am_leT)))))) (t_X2_receiverOf_63 d (by omega) _ _)
    · refine sim_aload_n dX2_receiverOf_19 rfl ?_
      refine sim_gR 2 3 dX2_receiverOf_20 rfl wf_RX2_21 (Nat.le_of_ble_eq_true rfl) rfl (fun o4 => ?_)
      refine sim_iload dX2_receiverOf_23 rfl ?_
      refine sim_aI dX2_receiverOf_25 (fun v5 => ?_)
      refine sim_if_le 63 dX2_receiverOf_26 (by decide) (fun c => ?_) (fun c => ?_)
      · exact sim_lv (am_leN (am_leN (am_leN (am_leS (am_leN (am_leN am_leT)))))) (t_X2_receiverOf_63 d (by omega) _ _)
      · refine sim_aload_n dX2_receiverOf_29 rfl ?_
        refine sim_iload dX2_receiverOf_30 rfl ?_
        refine sim_iload dX2_receiverOf_32 rfl ?_
        refine sim_ao2 (fun a8 e => ?_)
        refine sim_virt (d - 1) e dX2_receiverOf_34 (k_X2_lowestReceiver (d - 1) (by omega) _ _ _ _) q_X2_lowestReceiver rfl rfl wm_RX2_35 rfl rfl (by omega) (Nat.le_of_ble_eq_true rfl) am_nI (am_rI fun h6 v7 => ?_) am_eI
        refine sim_istore_n dX2_receiverOf_37 (Nat.le_of_ble_eq_true rfl) ?_
        refine sim_iload_n dX2_receiverOf_38 rfl ?_
        refine sim_iconst (-1) dX2_receiverOf_39 (by decide +kernel) ?_
        refine sim_ic_ne 48 dX2_receiverOf_40 (by decide) (fun c => ?_) (fun c => ?_)
        · refine sim_iload dX2_receiverOf_48 rfl ?_
          refine sim_iload_n dX2_receiverOf_50 rfl ?_
          refine sim_iconst (1) dX2_receiverOf_51 (by decide +kernel) ?_
          refine sim_staticN (d - 1) dX2_receiverOf_52 (k_X10_with (d - 1) (by omega) _ _ _ _) q_X10_with wn_RX2_39 rfl rfl (by omega) (Nat.le_of_ble_eq_true rfl) am_nJ am_xJ (am_rJ fun h9 v10 => ?_)
          exact sim_lv (am_leS (am_leS (am_leN (am_leS (am_leN (am_leS am_leT)))))) (t_X2_receiverOf_55 d (by omega) _ hrc13 _ _ _ _ _ _)
        · refine sim_iload dX2_receiverOf_43 rfl ?_
          refine sim_goto 55 dX2_receiverOf_45 (by decide) ?_
          exact sim_lv (am_leS (am_leS (am_leN (am_leS (am_leN (am_leS am_leT)))))) (t_X2_receiverOf_55 d (by omega) _ hrc13 _ _ _ _ _ _)
def f_X2_receiverOf (a0 : Nat × Nat) (x1 : Int32) (x2 : Option (Nat × Nat)) (h : am_H) : am_R := m_ao (some a0) 2 fun a3 => m_bV (f_X2_findWays a3 x2 h) fun h1 => f_X2_receiverOf_13 5000 a0 x1 (-1 : Int32) (0 : Int32) (0 : Int32) h1
theorem k_X2_receiverOf (d : Nat) (hd : 5 ≤ d) (a0 : Nat × Nat) (x1 : Int32) (x2 : Option (Nat × Nat)) (h : am_H) : am_Con m_X2_receiverOf d [.inr (.inr (some a0)), .inl x1, .inr (.inr x2)] h (f_X2_receiverOf a0 x1 x2 h) := am_con (by decide +kernel) (Nat.le_of_ble_eq_true rfl) (by
  unfold f_X2_receiverOf
  refine sim_aload_n dX2_receiverOf_0 rfl ?_
  refine sim_aload_n dX2_receiverOf_1 rfl ?_
  refine sim_ao1 (fun a3 e => ?_)
  refine sim_virt (d - 1) e dX2_receiverOf_2 (k_X2_findWays (d - 1) (by omega) _ _ _) q_X2_findWays rfl rfl wm_RX2_31 rfl rfl (by omega) (Nat.le_of_ble_eq_true rfl) am_nV (am_rV fun h1 => ?_) am_eV
  refine sim_iconst (-1) dX2_receiverOf_5 (by decide +kernel) ?_
  refine sim_istore_n dX2_receiverOf_6 (Nat.le_of_ble_eq_true rfl) ?_
  refine sim_iconst (0) dX2_receiverOf_7 (by decide +kernel) ?_
  refine sim_istore dX2_receiverOf_8 (Nat.le_of_ble_eq_true rfl) ?_
  refine sim_iconst (0) dX2_receiverOf_10 (by decide +kernel) ?_
  refine sim_istore dX2_receiverOf_11 (Nat.le_of_ble_eq_true rfl) ?_
  exact sim_lv (am_leS (am_leS (am_leN (am_leS (am_leS (am_leS am_leT)))))) (t_X2_receiverOf_13 d (by omega) _ _ _ _ _ _ _))
theorem q_X2_receiverOf : am_Cal m_X2_receiverOf 2 2 := ⟨am_mem 829 (w := Cond.code yX2_receiverOf cX2_receiverOf 6 (some .int)) (by decide +kernel) rfl, am_mem 35 (w := Cond.initialized RX2) (by decide +kernel) rfl, fun z => absurd z (by decide), fun _ => am_mem 827 (w := Cond.instanceMethod yX2_receiverOf) (by decide +kernel) rfl, fun z => absurd z (by decide), fun _ => am_mem 828 (w := Cond.selects RX2 yX2_receiverOf yX2_receiverOf) (by decide +kernel) rfl, by decide +kernel, by decide +kernel, Nat.le_of_ble_eq_true rfl⟩
abbrev m_X10_match : am_M := (yX10_match, cX10_match, 2, some .int, [])
def f_X10_match_15   (h : am_H) : am_R := m_ex h 0
theorem t_X10_match_15 (d : Nat) (hd : 6 ≤ d)   (h : am_H) : Sim m_X10_match d 15 [none, none] [] h (f_X10_match_15   h) := by
  unfold f_X10_match_15
  exact sim_throwW 0 (by decide) dX10_match_15 dX10_match_18 dX10_match_19 dX10_match_22 dX10_match_25 wx_RX10_162 wy_0 ws_RX10_305 at_RX10_166 gd_RX10_166 (by omega) (Nat.le_of_ble_eq_true rfl)
def f_X10_match (a0 : Nat × Nat) (x1 : Int32) (h : am_H) : am_R := if x1 < 0 then (f_X10_match_15 h) else (m_gR (some a0) 10 10 h fun o1 => m_gI o1 2 1 h fun v2 => if x1 < v2 then (m_gR (some a0) 10 10 h fun o3 => m_gR (some a0) 10 7 h fun o4 => m_ao o3 2 fun a7 => m_bI (f_X2_receiverOf a7 x1 o4 h) fun h5 v6 => m_ri h5 v6) else (f_X10_match_15 h))
theorem k_X10_match (d : Nat) (hd : 6 ≤ d) (a0 : Nat × Nat) (x1 : Int32) (h : am_H) : am_Con m_X10_match d [.inr (.inr (some a0)), .inl x1] h (f_X10_match a0 x1 h) := am_con (by decide +kernel) (Nat.le_of_ble_eq_true rfl) (by
  unfold f_X10_match
  refine sim_iload_n dX10_match_0 rfl ?_
  refine sim_if_lt 15 dX10_match_1 (by decide) (fun c => ?_) (fun c => ?_)
  · exact sim_lv (am_leN (am_leN am_leT)) (t_X10_match_15 d (by omega) _)
  · refine sim_iload_n dX10_match_4 rfl ?_
    refine sim_aload_n dX10_match_5 rfl ?_
    refine sim_gR 10 10 dX10_match_6 rfl wf_RX10_55 (Nat.le_of_ble_eq_true rfl) rfl (fun o1 => ?_)
    refine sim_gI 2 1 dX10_match_9 rfl wf_RX10_294 (Nat.le_of_ble_eq_true rfl) rfl (fun v2 => ?_)
    refine sim_ic_lt 26 dX10_match_12 (by decide) (fun c => ?_) (fun c => ?_)
    · refine sim_aload_n dX10_match_26 rfl ?_
      refine sim_gR 10 10 dX10_match_27 rfl wf_RX10_55 (Nat.le_of_ble_eq_true rfl) rfl (fun o3 => ?_)
      refine sim_iload_n dX10_match_30 rfl ?_
      refine sim_aload_n dX10_match_31 rfl ?_
      refine sim_gR 10 7 dX10_match_32 rfl wf_RX10_34 (Nat.le_of_ble_eq_true rfl) rfl (fun o4 => ?_)
      refine sim_ao2 (fun a7 e => ?_)
      refine sim_virt (d - 1) e dX10_match_35 (k_X2_receiverOf (d - 1) (by omega) _ _ _ _) q_X2_receiverOf rfl rfl wm_RX10_307 rfl rfl (by omega) (Nat.le_of_ble_eq_true rfl) am_nI (am_rI fun h5 v6 => ?_) am_eI
      exact sim_iret dX10_match_38 rfl
    · exact sim_lv (am_leN (am_leN am_leT)) (t_X10_match_15 d (by omega) _))
theorem q_X10_match : am_Cal m_X10_match 1 2 := ⟨am_mem 824 (w := Cond.code yX10_match cX10_match 2 (some .int)) (by decide +kernel) rfl, am_mem 30 (w := Cond.initialized RX10) (by decide +kernel) rfl, fun z => absurd z (by decide), fun _ => am_mem 822 (w := Cond.instanceMethod yX10_match) (by decide +kernel) rfl, fun z => absurd z (by decide), fun _ => am_mem 823 (w := Cond.selects RX10 yX10_match yX10_match) (by decide +kernel) rfl, by decide +kernel, by decide +kernel, Nat.le_of_ble_eq_true rfl⟩
abbrev m_X10_countFiledUnder : am_M := (yX10_countFiledUnder, cX10_countFiledUnder, 4, some .int, [])
def f_X10_countFiledUnder_34 (rc4 : Nat × Nat → Int32 → Int32 → Int32 → am_H → am_R) (a0 : Nat × Nat) (x1 : Int32) (x3 : Int32) (s0 : Int32) (s1 : Int32) (h : am_H) : am_R := rc4 a0 x1 (s1 + s0) (x3 + 1) h
theorem t_X10_countFiledUnder_34 (d : Nat) (hd : 1 ≤ d) (rc4 : Nat × Nat → Int32 → Int32 → Int32 → am_H → am_R) (hrc4 : ∀ a0 x1 x2 x3 h, Sim m_X10_countFiledUnder d 4 [some (.inr (.inr (some a0))), some (.inl x1), some (.inl x2), some (.inl x3)] [] h (rc4 a0 x1 x2 x3 h)) (a0 : Nat × Nat) (x1 : Int32) (x3 : Int32) (s0 : Int32) (s1 : Int32) (h : am_H) : Sim m_X10_countFiledUnder d 34 [some (.inr (.inr (some a0))), some (.inl x1), none, some (.inl x3)] [.inl s0, .inl s1] h (f_X10_countFiledUnder_34 rc4 a0 x1 x3 s0 s1 h) := by
  unfold f_X10_countFiledUnder_34
  refine sim_iadd dX10_countFiledUnder_34 ?_
  refine sim_istore_n dX10_countFiledUnder_35 (Nat.le_of_ble_eq_true rfl) ?_
  refine sim_iinc (1) dX10_countFiledUnder_36 rfl (by decide +kernel) (Nat.le_of_ble_eq_true rfl) ?_
  refine sim_goto 4 dX10_countFiledUnder_39 (by decide) ?_
  exact sim_lv (am_leS (am_leS (am_leS (am_leS am_leT)))) (hrc4 _ _ _ _ _)
def f_X10_countFiledUnder_4  : Nat → Nat × Nat → Int32 → Int32 → Int32 → am_H → am_R
  | 0, _, _, _, _, _ => none
  | n + 1, a0, x1, x2, x3, h => m_gI (some a0) 10 4 h fun v1 => if v1 ≤ x3 then (m_ri h x2) else (m_gR (some a0) 10 3 h fun o2 => m_aR o2 5 x3 h fun o3 => m_gI o3 9 8 h fun v4 => m_bI (f_X10_has v4 x1 h) fun h5 v6 => if v6 = 0 then (f_X10_countFiledUnder_34 (f_X10_countFiledUnder_4  n) a0 x1 x3 (0 : Int32) x2 h5) else (f_X10_countFiledUnder_34 (f_X10_countFiledUnder_4  n) a0 x1 x3 (1 : Int32) x2 h5))
theorem t_X10_countFiledUnder_4 (d : Nat) (hd : 1 ≤ d)  : ∀ (n : Nat) (a0 : Nat × Nat) (x1 : Int32) (x2 : Int32) (x3 : Int32) (h : am_H), Sim m_X10_countFiledUnder d 4 [some (.inr (.inr (some a0))), some (.inl x1), some (.inl x2), some (.inl x3)] [] h (f_X10_countFiledUnder_4  n a0 x1 x2 x3 h) := by
  intro n
  induction n with
  | zero => intros; exact sim_none
  | succ n hrc4 =>
    intro a0 x1 x2 x3 h
    rw [f_X10_countFiledUnder_4]
    refine sim_iload_n dX10_countFiledUnder_4 rfl ?_
    refine sim_aload_n dX10_countFiledUnder_5 rfl ?_
    refine sim_gI 10 4 dX10_countFiledUnder_6 rfl wf_RX10_104 (Nat.le_of_ble_eq_true rfl) rfl (fun v1 => ?_)
    refine sim_ic_ge 42 dX10_countFiledUnder_9 (by decide) (fun c => ?_) (fun c => ?_)
    · refine sim_iload_n dX10_countFiledUnder_42 rfl ?_
      exact sim_iret dX10_countFiledUnder_43 rfl
    · refine sim_iload_n dX10_countFiledUnder_12 rfl ?_
      refine sim_aload_n dX10_countFiledUnder_13 rfl ?_
      refine sim_gR 10 3 dX10_countFiledUnder_14 rfl wf_RX10_21 (Nat.le_of_ble_eq_true rfl) rfl (fun o2 => ?_)
      refine sim_iload_n dX10_countFiledUnder_17 rfl ?_
      refine sim_aR 5 rfl dX10_countFiledUnder_18 (fun o3 => ?_)
      refine sim_gI 9 8 dX10_countFiledUnder_19 rfl wf_RX10_388 (Nat.le_of_ble_eq_true rfl) rfl (fun v4 => ?_)
      refine sim_iload_n dX10_countFiledUnder_22 rfl ?_
      refine sim_static (d - 1) dX10_countFiledUnder_23 (k_X10_has (d - 1) (by omega) _ _ _) q_X10_has wm_RX10_91 rfl rfl (by omega) (Nat.le_of_ble_eq_true rfl) am_nI (am_rI fun h5 v6 => ?_) am_eI
      refine sim_if_eq 33 dX10_countFiledUnder_26 (by decide) (fun c => ?_) (fun c => ?_)
      · refine sim_iconst (0) dX10_countFiledUnder_33 (by decide +kernel) ?_
        exact sim_lv (am_leS (am_leS (am_leN (am_leS am_leT)))) (t_X10_countFiledUnder_34 d (by omega) _ hrc4 _ _ _ _ _ _)
      · refine sim_iconst (1) dX10_countFiledUnder_29 (by decide +kernel) ?_
        refine sim_goto 34 dX10_countFiledUnder_30 (by decide) ?_
        exact sim_lv (am_leS (am_leS (am_leN (am_leS am_leT)))) (t_X10_countFiledUnder_34 d (by omega) _ hrc4 _ _ _ _ _ _)
def f_X10_countFiledUnder (a0 : Nat × Nat) (x1 : Int32) (h : am_H) : am_R := f_X10_countFiledUnder_4 5000 a0 x1 (0 : Int32) (0 : Int32) h
theorem k_X10_countFiledUnder (d : Nat) (hd : 1 ≤ d) (a0 : Nat × Nat) (x1 : Int32) (h : am_H) : am_Con m_X10_countFiledUnder d [.inr (.inr (some a0)), .inl x1] h (f_X10_countFiledUnder a0 x1 h) := am_con (by decide +kernel) (Nat.le_of_ble_eq_true rfl) (by
  unfold f_X10_countFiledUnder
  refine sim_iconst (0) dX10_countFiledUnder_0 (by decide +kernel) ?_
  refine sim_istore_n dX10_countFiledUnder_1 (Nat.le_of_ble_eq_true rfl) ?_
  refine sim_iconst (0) dX10_countFiledUnder_2 (by decide +kernel) ?_
  refine sim_istore_n dX10_countFiledUnder_3 (Nat.le_of_ble_eq_true rfl) ?_
  exact sim_lv (am_leS (am_leS (am_leS (am_leS am_leT)))) (t_X10_countFiledUnder_4 d (by omega) _ _ _ _ _ _))
theorem q_X10_countFiledUnder : am_Cal m_X10_countFiledUnder 1 2 := ⟨am_mem 627 (w := Cond.code yX10_countFiledUnder cX10_countFiledUnder 4 (some .int)) (by decide +kernel) rfl, am_mem 30 (w := Cond.initialized RX10) (by decide +kernel) rfl, fun z => absurd z (by decide), fun _ => am_mem 626 (w := Cond.instanceMethod yX10_countFiledUnder) (by decide +kernel) rfl, fun z => absurd z (by decide), fun _ => am_mem 7 (w := Cond.selects RX10 yX10_countFiledUnder yX10_countFiledUnder) (by decide +kernel) rfl, by decide +kernel, by decide +kernel, Nat.le_of_ble_eq_true rfl⟩
abbrev m_X10_countWith : am_M := (yX10_countWith, cX10_countWith, 4, some .int, [])
def f_X10_countWith_34 (rc4 : Nat × Nat → Int32 → Int32 → Int32 → am_H → am_R) (a0 : Nat × Nat) (x1 : Int32) (x3 : Int32) (s0 : Int32) (s1 : Int32) (h : am_H) : am_R := rc4 a0 x1 (s1 + s0) (x3 + 1) h
theorem t_X10_countWith_34 (d : Nat) (hd : 1 ≤ d) (rc4 : Nat × Nat → Int32 → Int32 → Int32 → am_H → am_R) (hrc4 : ∀ a0 x1 x2 x3 h, Sim m_X10_countWith d 4 [some (.inr (.inr (some a0))), some (.inl x1), some (.inl x2), some (.inl x3)] [] h (rc4 a0 x1 x2 x3 h)) (a0 : Nat × Nat) (x1 : Int32) (x3 : Int32) (s0 : Int32) (s1 : Int32) (h : am_H) : Sim m_X10_countWith d 34 [some (.inr (.inr (some a0))), some (.inl x1), none, some (.inl x3)] [.inl s0, .inl s1] h (f_X10_countWith_34 rc4 a0 x1 x3 s0 s1 h) := by
  unfold f_X10_countWith_34
  refine sim_iadd dX10_countWith_34 ?_
  refine sim_istore_n dX10_countWith_35 (Nat.le_of_ble_eq_true rfl) ?_
  refine sim_iinc (1) dX10_countWith_36 rfl (by decide +kernel) (Nat.le_of_ble_eq_true rfl) ?_
  refine sim_goto 4 dX10_countWith_39 (by decide) ?_
  exact sim_lv (am_leS (am_leS (am_leS (am_leS am_leT)))) (hrc4 _ _ _ _ _)
def f_X10_countWith_4  : Nat → Nat × Nat → Int32 → Int32 → Int32 → am_H → am_R
  | 0, _, _, _, _, _ => none
  | n + 1, a0, x1, x2, x3, h => m_gI (some a0) 10 4 h fun v1 => if v1 ≤ x3 then (m_ri h x2) else (m_gR (some a0) 10 3 h fun o2 => m_aR o2 5 x3 h fun o3 => m_gI o3 9 7 h fun v4 => m_bI (f_X10_has v4 x1 h) fun h5 v6 => if v6 = 0 then (f_X10_countWith_34 (f_X10_countWith_4  n) a0 x1 x3 (0 : Int32) x2 h5) else (f_X10_countWith_34 (f_X10_countWith_4  n) a0 x1 x3 (1 : Int32) x2 h5))
theorem t_X10_countWith_4 (d : Nat) (hd : 1 ≤ d)  : ∀ (n : Nat) (a0 : Nat × Nat) (x1 : Int32) (x2 : Int32) (x3 : Int32) (h : am_H), Sim m_X10_countWith d 4 [some (.inr (.inr (some a0))), some (.inl x1), some (.inl x2), some (.inl x3)] [] h (f_X10_countWith_4  n a0 x1 x2 x3 h) := by
  intro n
  induction n with
  | zero => intros; exact sim_none
  | succ n hrc4 =>
    intro a0 x1 x2 x3 h
    rw [f_X10_countWith_4]
    refine sim_iload_n dX10_countWith_4 rfl ?_
    refine sim_aload_n dX10_countWith_5 rfl ?_
    refine sim_gI 10 4 dX10_countWith_6 rfl wf_RX10_104 (Nat.le_of_ble_eq_true rfl) rfl (fun v1 => ?_)
    refine sim_ic_ge 42 dX10_countWith_9 (by decide) (fun c => ?_) (fun c => ?_)
    · refine sim_iload_n dX10_countWith_42 rfl ?_
      exact sim_iret dX10_countWith_43 rfl
    · refine sim_iload_n dX10_countWith_12 rfl ?_
      refine sim_aload_n dX10_countWith_13 rfl ?_
      refine sim_gR 10 3 dX10_countWith_14 rfl wf_RX10_21 (Nat.le_of_ble_eq_true rfl) rfl (fun o2 => ?_)
      refine sim_iload_n dX10_countWith_17 rfl ?_
      refine sim_aR 5 rfl dX10_countWith_18 (fun o3 => ?_)
      refine sim_gI 9 7 dX10_countWith_19 rfl wf_RX10_234 (Nat.le_of_ble_eq_true rfl) rfl (fun v4 => ?_)
      refine sim_iload_n dX10_countWith_22 rfl ?_
      refine sim_static (d - 1) dX10_countWith_23 (k_X10_has (d - 1) (by omega) _ _ _) q_X10_has wm_RX10_91 rfl rfl (by omega) (Nat.le_of_ble_eq_true rfl) am_nI (am_rI fun h5 v6 => ?_) am_eI
      refine sim_if_eq 33 dX10_countWith_26 (by decide) (fun c => ?_) (fun c => ?_)
      · refine sim_iconst (0) dX10_countWith_33 (by decide +kernel) ?_
        exact sim_lv (am_leS (am_leS (am_leN (am_leS am_leT)))) (t_X10_countWith_34 d (by omega) _ hrc4 _ _ _ _ _ _)
      · refine sim_iconst (1) dX10_countWith_29 (by decide +kernel) ?_
        refine sim_goto 34 dX10_countWith_30 (by decide) ?_
        exact sim_lv (am_leS (am_leS (am_leN (am_leS am_leT)))) (t_X10_countWith_34 d (by omega) _ hrc4 _ _ _ _ _ _)
def f_X10_countWith (a0 : Nat × Nat) (x1 : Int32) (h : am_H) : am_R := f_X10_countWith_4 5000 a0 x1 (0 : Int32) (0 : Int32) h
theorem k_X10_countWith (d : Nat) (hd : 1 ≤ d) (a0 : Nat × Nat) (x1 : Int32) (h : am_H) : am_Con m_X10_countWith d [.inr (.inr (some a0)), .inl x1] h (f_X10_countWith a0 x1 h) := am_con (by decide +kernel) (Nat.le_of_ble_eq_true rfl) (by
  unfold f_X10_countWith
  refine sim_iconst (0) dX10_countWith_0 (by decide +kernel) ?_
  refine sim_istore_n dX10_countWith_1 (Nat.le_of_ble_eq_true rfl) ?_
  refine sim_iconst (0) dX10_countWith_2 (by decide +kernel) ?_
  refine sim_istore_n dX10_countWith_3 (Nat.le_of_ble_eq_true rfl) ?_
  exact sim_lv (am_leS (am_leS (am_leS (am_leS am_leT)))) (t_X10_countWith_4 d (by omega) _ _ _ _ _ _))
theorem q_X10_countWith : am_Cal m_X10_countWith 1 2 := ⟨am_mem 623 (w := Cond.code yX10_countWith cX10_countWith 4 (some .int)) (by decide +kernel) rfl, am_mem 30 (w := Cond.initialized RX10) (by decide +kernel) rfl, fun z => absurd z (by decide), fun _ => am_mem 622 (w := Cond.instanceMethod yX10_countWith) (by decide +kernel) rfl, fun z => absurd z (by decide), fun _ => am_mem 6 (w := Cond.selects RX10 yX10_countWith yX10_countWith) (by decide +kernel) rfl, by decide +kernel, by decide +kernel, Nat.le_of_ble_eq_true rfl⟩
abbrev m_X7_aboveOf : am_M := (yX7_aboveOf, cX7_aboveOf, 2, some .int, [])
def f_X7_aboveOf (a0 : Nat × Nat) (x1 : Int32) (h : am_H) : am_R := m_gR (some a0) 7 3 h fun o1 => m_aI o1 0 x1 h fun v2 => m_ri h v2
theorem k_X7_aboveOf (d : Nat) (hd : 0 ≤ d) (a0 : Nat × Nat) (x1 : Int32) (h : am_H) : am_Con m_X7_aboveOf d [.inr (.inr (some a0)), .inl x1] h (f_X7_aboveOf a0 x1 h) := am_con (by decide +kernel) (Nat.le_of_ble_eq_true rfl) (by
  unfold f_X7_aboveOf
  refine sim_aload_n dX7_aboveOf_0 rfl ?_
  refine sim_gR 7 3 dX7_aboveOf_1 rfl wf_RX7_18 (Nat.le_of_ble_eq_true rfl) rfl (fun o1 => ?_)
  refine sim_iload_n dX7_aboveOf_4 rfl ?_
  refine sim_aI dX7_aboveOf_5 (fun v2 => ?_)
  exact sim_iret dX7_aboveOf_6 rfl)
theorem q_X7_aboveOf : am_Cal m_X7_aboveOf 1 2 := ⟨am_mem 619 (w := Cond.code yX7_aboveOf cX7_aboveOf 2 (some .int)) (by decide +kernel) rfl, am_mem 31 (w := Cond.initialized RX7) (by decide +kernel) rfl, fun z => absurd z (by decide), fun _ => am_mem 617 (w := Cond.instanceMethod yX7_aboveOf) (by decide +kernel) rfl, fun z => absurd z (by decide), fun _ => am_mem 618 (w := Cond.selects RX7 yX7_aboveOf yX7_aboveOf) (by decide +kernel) rfl, by decide +kernel, by decide +kernel, Nat.le_of_ble_eq_true rfl⟩
abbrev m_X7_meaningOf : am_M := (yX7_meaningOf, cX7_meaningOf, 2, some .int, [])
def f_X7_meaningOf (a0 : Nat × Nat) (x1 : Int32) (h : am_H) : am_R := m_gR (some a0) 7 1 h fun o1 => m_aI o1 0 x1 h fun v2 => m_ri h v2
theorem k_X7_meaningOf (d : Nat) (hd : 0 ≤ d) (a0 : Nat × Nat) (x1 : Int32) (h : am_H) : am_Con m_X7_meaningOf d [.inr (.inr (some a0)), .inl x1] h (f_X7_meaningOf a0 x1 h) := am_con (by decide +kernel) (Nat.le_of_ble_eq_true rfl) (by
  unfold f_X7_meaningOf
  refine sim_aload_n dX7_meaningOf_0 rfl ?_
  refine sim_gR 7 1 dX7_meaningOf_1 rfl wf_RX7_9 (Nat.le_of_ble_eq_true rfl) rfl (fun o1 => ?_)
  refine sim_iload_n dX7_meaningOf_4 rfl ?_
  refine sim_aI dX7_meaningOf_5 (fun v2 => ?_)
  exact sim_iret dX7_meaningOf_6 rfl)
theorem q_X7_meaningOf : am_Cal m_X7_meaningOf 1 2 := ⟨am_mem 615 (w := Cond.code yX7_meaningOf cX7_meaningOf 2 (some .int)) (by decide +kernel) rfl, am_mem 31 (w := Cond.initialized RX7) (by decide +kernel) rfl, fun z => absurd z (by decide), fun _ => am_mem 613 (w := Cond.instanceMethod yX7_meaningOf) (by decide +kernel) rfl, fun z => absurd z (by decide), fun _ => am_mem 614 (w := Cond.selects RX7 yX7_meaningOf yX7_meaningOf) (by decide +kernel) rfl, by decide +kernel, by decide +kernel, Nat.le_of_ble_eq_true rfl⟩
abbrev m_X10_ofTag : am_M := (yX10_ofTag, cX10_ofTag, 3, some .int, [])
def f_X10_ofTag (a0 : Nat × Nat) (x1 : Int32) (x2 : Int32) (h : am_H) : am_R := m_ao (some a0) 10 fun a3 => m_bV (f_X10_checkTag a3 x1 h) fun h1 => if x2 = 0 then (m_gR (some a0) 10 7 h1 fun o4 => m_ao o4 7 fun a7 => m_bI (f_X7_kindOf a7 x1 h1) fun h5 v6 => m_ri h5 v6) else if x2 = 1 then (m_gR (some a0) 10 7 h1 fun o8 => m_ao o8 7 fun a11 => m_bI (f_X7_meaningOf a11 x1 h1) fun h9 v10 => m_ri h9 v10) else if x2 = 2 then (m_gR (some a0) 10 7 h1 fun o12 => m_ao o12 7 fun a15 => m_bI (f_X7_aboveOf a15 x1 h1) fun h13 v14 => m_ri h13 v14) else if x2 = 3 then (m_ao (some a0) 10 fun a18 => m_bI (f_X10_countWith a18 x1 h1) fun h16 v17 => m_ri h16 v17) else if x2 = 4 then (m_ao (some a0) 10 fun a21 => m_bI (f_X10_countFiledUnder a21 x1 h1) fun h19 v20 => m_ri h19 v20) else (m_ex h1 1)
theorem k_X10_ofTag (d : Nat) (hd : 7 ≤ d) (a0 : Nat × Nat) (x1 : Int32) (x2 : Int32) (h : am_H) : am_Con m_X10_ofTag d [.inr (.inr (some a0)), .inl x1, .inl x2] h (f_X10_ofTag a0 x1 x2 h) := am_con (by decide +kernel) (Nat.le_of_ble_eq_true rfl) (by
  unfold f_X10_ofTag
  refine sim_aload_n dX10_ofTag_0 rfl ?_
  refine sim_iload_n dX10_ofTag_1 rfl ?_
  refine sim_ao1 (fun a3 e => ?_)
  refine sim_virt (d - 1) e dX10_ofTag_2 (k_X10_checkTag (d - 1) (by omega) _ _ _) q_X10_checkTag rfl rfl wm_RX10_189 rfl rfl (by omega) (Nat.le_of_ble_eq_true rfl) am_nV (am_rV fun h1 => ?_) am_eV
  refine sim_iload_n dX10_ofTag_5 rfl ?_
  refine sim_case (fun c6_0 => ?_) (fun c6_0 => ?_)
  · refine sim_tableIn (off := 34) (0) 40 c6_0 dX10_ofTag_6 (by decide +kernel) (by decide +kernel) (by decide +kernel) (by decide) ?_
    refine sim_aload_n dX10_ofTag_40 rfl ?_
    refine sim_gR 10 7 dX10_ofTag_41 rfl wf_RX10_34 (Nat.le_of_ble_eq_true rfl) rfl (fun o4 => ?_)
    refine sim_iload_n dX10_ofTag_44 rfl ?_
    refine sim_ao1 (fun a7 e => ?_)
    refine sim_virt (d - 1) e dX10_ofTag_45 (k_X7_kindOf (d - 1) (by omega) _ _ _) q_X7_kindOf rfl rfl wm_RX10_192 rfl rfl (by omega) (Nat.le_of_ble_eq_true rfl) am_nI (am_rI fun h5 v6 => ?_) am_eI
    exact sim_iret dX10_ofTag_48 rfl
  refine sim_case (fun c6_1 => ?_) (fun c6_1 => ?_)
  · refine sim_tableIn (off := 43) (1) 49 c6_1 dX10_ofTag_6 (by decide +kernel) (by decide +kernel) (by decide +kernel) (by decide) ?_
    refine sim_aload_n dX10_ofTag_49 rfl ?_
    refine sim_gR 10 7 dX10_ofTag_50 rfl wf_RX10_34 (Nat.le_of_ble_eq_true rfl) rfl (fun o8 => ?_)
    refine sim_iload_n dX10_ofTag_53 rfl ?_
    refine sim_ao1 (fun a11 e => ?_)
    refine sim_virt (d - 1) e dX10_ofTag_54 (k_X7_meaningOf (d - 1) (by omega) _ _ _) q_X7_meaningOf rfl rfl wm_RX10_220 rfl rfl (by omega) (Nat.le_of_ble_eq_true rfl) am_nI (am_rI fun h9 v10 => ?_) am_eI
    exact sim_iret dX10_ofTag_57 rfl
  refine sim_case (fun c6_2 => ?_) (fun c6_2 => ?_)
  · refine sim_tableIn (off := 52) (2) 58 c6_2 dX10_ofTag_6 (by decide +kernel) (by decide +kernel) (by decide +kernel) (by decide) ?_
    refine sim_aload_n dX10_ofTag_58 rfl ?_
    refine sim_gR 10 7 dX10_ofTag_59 rfl wf_RX10_34 (Nat.le_of_ble_eq_true rfl) rfl (fun o12 => ?_)
    refine sim_iload_n dX10_ofTag_62 rfl ?_
    refine sim_ao1 (fun a15 e => ?_)
    refine sim_virt (d - 1) e dX10_ofTag_63 (k_X7_aboveOf (d - 1) (by omega) _ _ _) q_X7_aboveOf rfl rfl wm_RX10_223 rfl rfl (by omega) (Nat.le_of_ble_eq_true rfl) am_nI (am_rI fun h13 v14 => ?_) am_eI
    exact sim_iret dX10_ofTag_66 rfl
  refine sim_case (fun c6_3 => ?_) (fun c6_3 => ?_)
  · refine sim_tableIn (off := 61) (3) 67 c6_3 dX10_ofTag_6 (by decide +kernel) (by decide +kernel) (by decide +kernel) (by decide) ?_
    refine sim_aload_n dX10_ofTag_67 rfl ?_
    refine sim_iload_n dX10_ofTag_68 rfl ?_
    refine sim_ao1 (fun a18 e => ?_)
    refine sim_virt (d - 1) e dX10_ofTag_69 (k_X10_countWith (d - 1) (by omega) _ _ _) q_X10_countWith rfl rfl wm_RX10_226 rfl rfl (by omega) (Nat.le_of_ble_eq_true rfl) am_nI (am_rI fun h16 v17 => ?_) am_eI
    exact sim_iret dX10_ofTag_72 rfl
  refine sim_case (fun c6_4 => ?_) (fun c6_4 => ?_)
  · refine sim_tableIn (off := 67) (4) 73 c6_4 dX10_ofTag_6 (by decide +kernel) (by decide +kernel) (by decide +kernel) (by decide) ?_
    refine sim_aload_n dX10_ofTag_73 rfl ?_
    refine sim_iload_n dX10_ofTag_74 rfl ?_
    refine sim_ao1 (fun a21 e => ?_)
    refine sim_virt (d - 1) e dX10_ofTag_75 (k_X10_countFiledUnder (d - 1) (by omega) _ _ _) q_X10_countFiledUnder rfl rfl wm_RX10_229 rfl rfl (by omega) (Nat.le_of_ble_eq_true rfl) am_nI (am_rI fun h19 v20 => ?_) am_eI
    exact sim_iret dX10_ofTag_78 rfl
  refine sim_tableOut 79 dX10_ofTag_6 ((am_out (N := 5) (by decide) (lt_s (lt_s (lt_s (lt_s (lt_s lt_0 c6_0) c6_1) c6_2) c6_3) c6_4)).imp id (fun z => by omega)) (by decide) ?_
  exact sim_throw 1 (by decide) dX10_ofTag_79 dX10_ofTag_82 dX10_ofTag_83 dX10_ofTag_85 dX10_ofTag_88 wx_RX10_66 wy_1 ws_RX10_232 at_RX10_70 gd_RX10_70 (by omega) (Nat.le_of_ble_eq_true rfl))
theorem q_X10_ofTag : am_Cal m_X10_ofTag 2 2 := ⟨am_mem 611 (w := Cond.code yX10_ofTag cX10_ofTag 3 (some .int)) (by decide +kernel) rfl, am_mem 30 (w := Cond.initialized RX10) (by decide +kernel) rfl, fun z => absurd z (by decide), fun _ => am_mem 609 (w := Cond.instanceMethod yX10_ofTag) (by decide +kernel) rfl, fun z => absurd z (by decide), fun _ => am_mem 610 (w := Cond.selects RX10 yX10_ofTag yX10_ofTag) (by decide +kernel) rfl, by decide +kernel, by decide +kernel, Nat.le_of_ble_eq_true rfl⟩
abbrev m_X9_fileUnder : am_M := (yX9_fileUnder, cX9_fileUnder, 2, none, [])
def f_X9_fileUnder (a0 : Nat × Nat) (x1 : Int32) (h : am_H) : am_R := m_pI (some a0) 9 8 x1 h fun h1 => m_pZ (some a0) 9 9 (0 : Int32) h1 fun h2 => m_rt h2 none
theorem k_X9_fileUnder (d : Nat) (hd : 0 ≤ d) (a0 : Nat × Nat) (x1 : Int32) (h : am_H) : am_Con m_X9_fileUnder d [.inr (.inr (some a0)), .inl x1] h (f_X9_fileUnder a0 x1 h) := am_con (by decide +kernel) (Nat.le_of_ble_eq_true rfl) (by
  unfold f_X9_fileUnder
  refine sim_aload_n dX9_fileUnder_0 rfl ?_
  refine sim_iload_n dX9_fileUnder_1 rfl ?_
  refine sim_pI 9 8 dX9_fileUnder_2 rfl wf_RX9_73 (Nat.le_of_ble_eq_true rfl) rfl (Or.inl rfl) rfl (fun h1 => ?_)
  refine sim_aload_n dX9_fileUnder_5 rfl ?_
  refine sim_iconst (0) dX9_fileUnder_6 (by decide +kernel) ?_
  refine sim_pZ 9 9 dX9_fileUnder_7 rfl wf_RX9_76 (Nat.le_of_ble_eq_true rfl) rfl (Or.inl rfl) rfl (fun h2 => ?_)
  exact sim_vret dX9_fileUnder_10 rfl)
theorem q_X9_fileUnder : am_Cal m_X9_fileUnder 1 2 := ⟨am_mem 640 (w := Cond.code yX9_fileUnder cX9_fileUnder 2 none) (by decide +kernel) rfl, am_mem 44 (w := Cond.initialized RX9) (by decide +kernel) rfl, fun z => absurd z (by decide), fun _ => am_mem 638 (w := Cond.instanceMethod yX9_fileUnder) (by decide +kernel) rfl, fun z => absurd z (by decide), fun _ => am_mem 639 (w := Cond.selects RX9 yX9_fileUnder yX9_fileUnder) (by decide +kernel) rfl, by decide +kernel, by decide +kernel, Nat.le_of_ble_eq_true rfl⟩
abbrev m_X10_put : am_M := (yX10_put, cX10_put, 6, some .boolean, [])
def f_X10_put (a0 : Nat × Nat) (x1 : Int32) (x2 : Int32) (x3 : Int32) (h : am_H) : am_R := m_ao (some a0) 10 fun a3 => m_bR (f_X10_workAt a3 x1 h) fun h1 o2 => m_ao (some a0) 10 fun a6 => m_bV (f_X10_checkTag a6 x2 h1) fun h4 => m_gI o2 9 7 h4 fun v7 => m_bI (f_X10_has v7 x2 h4) fun h8 v9 => m_gI o2 9 7 h8 fun v10 => m_bI (f_X10_with v10 x2 x3 h8) fun h11 v12 => m_pI o2 9 7 v12 h11 fun h13 => m_gR (some a0) 10 7 h13 fun o14 => m_gI o2 9 7 h13 fun v15 => m_ao o14 7 fun a18 => m_bI (f_X7_belongUnder a18 v15 h13) fun h16 v17 => m_ao o2 9 fun a21 => m_bV (f_X9_fileUnder a21 v17 h16) fun h19 => m_rz h19 v9
theorem k_X10_put (d : Nat) (hd : 8 ≤ d) (a0 : Nat × Nat) (x1 : Int32) (x2 : Int32) (x3 : Int32) (h : am_H) : am_Con m_X10_put d [.inr (.inr (some a0)), .inl x1, .inl x2, .inl x3] h (f_X10_put a0 x1 x2 x3 h) := am_con (by decide +kernel) (Nat.le_of_ble_eq_true rfl) (by
  unfold f_X10_put
  refine sim_aload_n dX10_put_0 rfl ?_
  refine sim_iload_n dX10_put_1 rfl ?_
  refine sim_ao1 (fun a3 e => ?_)
  refine sim_virt (d - 1) e dX10_put_2 (k_X10_workAt (d - 1) (by omega) _ _ _) q_X10_workAt rfl rfl wm_RX10_112 rfl rfl (by omega) (Nat.le_of_ble_eq_true rfl) am_nR (am_rR fun h1 o2 => ?_) am_eR
  refine sim_astore dX10_put_5 (Nat.le_of_ble_eq_true rfl) ?_
  refine sim_aload_n dX10_put_7 rfl ?_
  refine sim_iload_n dX10_put_8 rfl ?_
  refine sim_ao1 (fun a6 e => ?_)
  refine sim_virt (d - 1) e dX10_put_9 (k_X10_checkTag (d - 1) (by omega) _ _ _) q_X10_checkTag rfl rfl wm_RX10_189 rfl rfl (by omega) (Nat.le_of_ble_eq_true rfl) am_nV (am_rV fun h4 => ?_) am_eV
  refine sim_aload dX10_put_12 rfl ?_
  refine sim_gI 9 7 dX10_put_14 rfl wf_RX10_234 (Nat.le_of_ble_eq_true rfl) rfl (fun v7 => ?_)
  refine sim_iload_n dX10_put_17 rfl ?_
  refine sim_static (d - 1) dX10_put_18 (k_X10_has (d - 1) (by omega) _ _ _) q_X10_has wm_RX10_91 rfl rfl (by omega) (Nat.le_of_ble_eq_true rfl) am_nI (am_rI fun h8 v9 => ?_) am_eI
  refine sim_istore dX10_put_21 (Nat.le_of_ble_eq_true rfl) ?_
  refine sim_aload dX10_put_23 rfl ?_
  refine sim_aload dX10_put_25 rfl ?_
  refine sim_gI 9 7 dX10_put_27 rfl wf_RX10_234 (Nat.le_of_ble_eq_true rfl) rfl (fun v10 => ?_)
  refine sim_iload_n dX10_put_30 rfl ?_
  refine sim_iload_n dX10_put_31 rfl ?_
  refine sim_static (d - 1) dX10_put_32 (k_X10_with (d - 1) (by omega) _ _ _ _) q_X10_with wm_RX10_95 rfl rfl (by omega) (Nat.le_of_ble_eq_true rfl) am_nI (am_rI fun h11 v12 => ?_) am_eI
  refine sim_pI 9 7 dX10_put_35 rfl wf_RX10_234 (Nat.le_of_ble_eq_true rfl) rfl (Or.inl rfl) rfl (fun h13 => ?_)
  refine sim_aload dX10_put_38 rfl ?_
  refine sim_aload_n dX10_put_40 rfl ?_
  refine sim_gR 10 7 dX10_put_41 rfl wf_RX10_34 (Nat.le_of_ble_eq_true rfl) rfl (fun o14 => ?_)
  refine sim_aload dX10_put_44 rfl ?_
  refine sim_gI 9 7 dX10_put_46 rfl wf_RX10_234 (Nat.le_of_ble_eq_true rfl) rfl (fun v15 => ?_)
  refine sim_ao1 (fun a18 e => ?_)
  refine sim_virt (d - 1) e dX10_put_49 (k_X7_belongUnder (d - 1) (by omega) _ _ _) q_X7_belongUnder rfl rfl wm_RX10_236 rfl rfl (by omega) (Nat.le_of_ble_eq_true rfl) am_nI (am_rI fun h16 v17 => ?_) am_eI
  refine sim_ao1 (fun a21 e => ?_)
  refine sim_virt (d - 1) e dX10_put_52 (k_X9_fileUnder (d - 1) (by omega) _ _ _) q_X9_fileUnder rfl rfl wm_RX10_239 rfl rfl (by omega) (Nat.le_of_ble_eq_true rfl) am_nV (am_rV fun h19 => ?_) am_eV
  refine sim_iload dX10_put_55 rfl ?_
  exact sim_zret dX10_put_57 rfl)
theorem q_X10_put : am_Cal m_X10_put 3 2 := ⟨am_mem 632 (w := Cond.code yX10_put cX10_put 6 (some .boolean)) (by decide +kernel) rfl, am_mem 30 (w := Cond.initialized RX10) (by decide +kernel) rfl, fun z => absurd z (by decide), fun _ => am_mem 630 (w := Cond.instanceMethod yX10_put) (by decide +kernel) rfl, fun z => absurd z (by decide), fun _ => am_mem 631 (w := Cond.selects RX10 yX10_put yX10_put) (by decide +kernel) rfl, by decide +kernel, by decide +kernel, Nat.le_of_ble_eq_true rfl⟩
abbrev m_X4_isAtEnd : am_M := (yX4_isAtEnd, cX4_isAtEnd, 1, some .boolean, [])
def f_X4_isAtEnd_26  (s0 : Int32) (h : am_H) : am_R := m_rz h s0
theorem t_X4_isAtEnd_26 (d : Nat) (hd : 0 ≤ d)  (s0 : Int32) (h : am_H) : Sim m_X4_isAtEnd d 26 [none] [.inl s0] h (f_X4_isAtEnd_26  s0 h) := by
  unfold f_X4_isAtEnd_26
  exact sim_zret dX4_isAtEnd_26 rfl
def f_X4_isAtEnd_25   (h : am_H) : am_R := f_X4_isAtEnd_26 (0 : Int32) h
theorem t_X4_isAtEnd_25 (d : Nat) (hd : 0 ≤ d)   (h : am_H) : Sim m_X4_isAtEnd d 25 [none] [] h (f_X4_isAtEnd_25   h) := by
  unfold f_X4_isAtEnd_25
  refine sim_iconst (0) dX4_isAtEnd_25 (by decide +kernel) ?_
  exact sim_lv (am_leN am_leT) (t_X4_isAtEnd_26 d (by omega) _ _)
def f_X4_isAtEnd (a0 : Nat × Nat) (h : am_H) : am_R := m_gI (some a0) 4 0 h fun v1 => if v1 = 0 then (m_gI (some a0) 4 1 h fun v2 => if v2 = 0 then (m_gI (some a0) 4 2 h fun v3 => if v3 = 0 then (f_X4_isAtEnd_26 (1 : Int32) h) else (f_X4_isAtEnd_25 h)) else (f_X4_isAtEnd_25 h)) else (f_X4_isAtEnd_25 h)
theorem k_X4_isAtEnd (d : Nat) (hd : 0 ≤ d) (a0 : Nat × Nat) (h : am_H) : am_Con m_X4_isAtEnd d [.inr (.inr (some a0))] h (f_X4_isAtEnd a0 h) := am_con (by decide +kernel) (Nat.le_of_ble_eq_true rfl) (by
  unfold f_X4_isAtEnd
  refine sim_aload_n dX4_isAtEnd_0 rfl ?_
  refine sim_gI 4 0 dX4_isAtEnd_1 rfl wf_RX4_9 (Nat.le_of_ble_eq_true rfl) rfl (fun v1 => ?_)
  refine sim_if_ne 25 dX4_isAtEnd_4 (by decide) (fun c => ?_) (fun c => ?_)
  · exact sim_lv (am_leN am_leT) (t_X4_isAtEnd_25 d (by omega) _)
  · refine sim_aload_n dX4_isAtEnd_7 rfl ?_
    refine sim_gI 4 1 dX4_isAtEnd_8 rfl wf_RX4_15 (Nat.le_of_ble_eq_true rfl) rfl (fun v2 => ?_)
    refine sim_if_ne 25 dX4_isAtEnd_11 (by decide) (fun c => ?_) (fun c => ?_)
    · exact sim_lv (am_leN am_leT) (t_X4_isAtEnd_25 d (by omega) _)
    · refine sim_aload_n dX4_isAtEnd_14 rfl ?_
      refine sim_gI 4 2 dX4_isAtEnd_15 rfl wf_RX4_19 (Nat.le_of_ble_eq_true rfl) rfl (fun v3 => ?_)
      refine sim_if_ne 25 dX4_isAtEnd_18 (by decide) (fun c => ?_) (fun c => ?_)
      · exact sim_lv (am_leN am_leT) (t_X4_isAtEnd_25 d (by omega) _)
      · refine sim_iconst (1) dX4_isAtEnd_21 (by decide +kernel) ?_
        refine sim_goto 26 dX4_isAtEnd_22 (by decide) ?_
        exact sim_lv (am_leN am_leT) (t_X4_isAtEnd_26 d (by omega) _ _))
theorem q_X4_isAtEnd : am_Cal m_X4_isAtEnd 0 2 := ⟨am_mem 718 (w := Cond.code yX4_isAtEnd cX4_isAtEnd 1 (some .boolean)) (by decide +kernel) rfl, am_mem 33 (w := Cond.initialized RX4) (by decide +kernel) rfl, fun z => absurd z (by decide), fun _ => am_mem 716 (w := Cond.instanceMethod yX4_isAtEnd) (by decide +kernel) rfl, fun z => absurd z (by decide), fun _ => am_mem 717 (w := Cond.selects RX4 yX4_isAtEnd yX4_isAtEnd) (by decide +kernel) rfl, by decide +kernel, by decide +kernel, Nat.le_of_ble_eq_true rfl⟩
abbrev m_X4_start : am_M := (yX4_start, cX4_start, 1, none, [])
def f_X4_start (a0 : Nat × Nat) (h : am_H) : am_R := m_pI (some a0) 4 0 (0 : Int32) h fun h1 => m_pZ (some a0) 4 1 (1 : Int32) h1 fun h2 => m_pI (some a0) 4 2 (0 : Int32) h2 fun h3 => m_rt h3 none
theorem k_X4_start (d : Nat) (hd : 0 ≤ d) (a0 : Nat × Nat) (h : am_H) : am_Con m_X4_start d [.inr (.inr (some a0))] h (f_X4_start a0 h) := am_con (by decide +kernel) (Nat.le_of_ble_eq_true rfl) (by
  unfold f_X4_start
  refine sim_aload_n dX4_start_0 rfl ?_
  refine sim_iconst (0) dX4_start_1 (by decide +kernel) ?_
  refine sim_pI 4 0 dX4_start_2 rfl wf_RX4_9 (Nat.le_of_ble_eq_true rfl) rfl (Or.inl rfl) rfl (fun h1 => ?_)
  refine sim_aload_n dX4_start_5 rfl ?_
  refine sim_iconst (1) dX4_start_6 (by decide +kernel) ?_
  refine sim_pZ 4 1 dX4_start_7 rfl wf_RX4_15 (Nat.le_of_ble_eq_true rfl) rfl (Or.inl rfl) rfl (fun h2 => ?_)
  refine sim_aload_n dX4_start_10 rfl ?_
  refine sim_iconst (0) dX4_start_11 (by decide +kernel) ?_
  refine sim_pI 4 2 dX4_start_12 rfl wf_RX4_19 (Nat.le_of_ble_eq_true rfl) rfl (Or.inl rfl) rfl (fun h3 => ?_)
  exact sim_vret dX4_start_15 rfl)
theorem q_X4_start : am_Cal m_X4_start 0 2 := ⟨am_mem 693 (w := Cond.code yX4_start cX4_start 1 none) (by decide +kernel) rfl, am_mem 33 (w := Cond.initialized RX4) (by decide +kernel) rfl, fun z => absurd z (by decide), fun _ => am_mem 691 (w := Cond.instanceMethod yX4_start) (by decide +kernel) rfl, fun z => absurd z (by decide), fun _ => am_mem 692 (w := Cond.selects RX4 yX4_start yX4_start) (by decide +kernel) rfl, by decide +kernel, by decide +kernel, Nat.le_of_ble_eq_true rfl⟩
abbrev m_X4_greatestOf : am_M := (yX4_greatestOf, cX4_greatestOf, 1, some .int, [])
def f_X4_greatestOf_21  (s0 : Int32) (h : am_H) : am_R := m_ri h s0
theorem t_X4_greatestOf_21 (d : Nat) (hd : 0 ≤ d)  (s0 : Int32) (h : am_H) : Sim m_X4_greatestOf d 21 [none] [.inl s0] h (f_X4_greatestOf_21  s0 h) := by
  unfold f_X4_greatestOf_21
  exact sim_iret dX4_greatestOf_21 rfl
def f_X4_greatestOf (x0 : Int32) (h : am_H) : am_R := if x0 = (116 : Int32) then (m_ri h (29 : Int32)) else (if x0 = (97 : Int32) then (f_X4_greatestOf_21 (11 : Int32) h) else (f_X4_greatestOf_21 (3 : Int32) h))
theorem k_X4_greatestOf (d : Nat) (hd : 0 ≤ d) (x0 : Int32) (h : am_H) : am_Con m_X4_greatestOf d [.inl x0] h (f_X4_greatestOf x0 h) := am_con (by decide +kernel) (Nat.le_of_ble_eq_true rfl) (by
  unfold f_X4_greatestOf
  refine sim_iload_n dX4_greatestOf_0 rfl ?_
  refine sim_bipush (116) dX4_greatestOf_1 (by decide +kernel) ?_
  refine sim_ic_ne 9 dX4_greatestOf_3 (by decide) (fun c => ?_) (fun c => ?_)
  · refine sim_iload_n dX4_greatestOf_9 rfl ?_
    refine sim_bipush (97) dX4_greatestOf_10 (by decide +kernel) ?_
    refine sim_ic_ne 20 dX4_greatestOf_12 (by decide) (fun c => ?_) (fun c => ?_)
    · refine sim_iconst (3) dX4_greatestOf_20 (by decide +kernel) ?_
      exact sim_lv (am_leN am_leT) (t_X4_greatestOf_21 d (by omega) _ _)
    · refine sim_bipush (11) dX4_greatestOf_15 (by decide +kernel) ?_
      refine sim_goto 21 dX4_greatestOf_17 (by decide) ?_
      exact sim_lv (am_leN am_leT) (t_X4_greatestOf_21 d (by omega) _ _)
  · refine sim_bipush (29) dX4_greatestOf_6 (by decide +kernel) ?_
    exact sim_iret dX4_greatestOf_8 rfl)
theorem q_X4_greatestOf : am_Cal m_X4_greatestOf 1 0 := ⟨am_mem 705 (w := Cond.code yX4_greatestOf cX4_greatestOf 1 (some .int)) (by decide +kernel) rfl, am_mem 33 (w := Cond.initialized RX4) (by decide +kernel) rfl, fun _ => am_mem 704 (w := Cond.static yX4_greatestOf) (by decide +kernel) rfl, fun z => absurd rfl z, fun z => absurd z (by decide), fun z => absurd z (by decide), by decide +kernel, by decide +kernel, Nat.le_of_ble_eq_true rfl⟩
abbrev m_X4_isFigure : am_M := (yX4_isFigure, cX4_isFigure, 1, some .boolean, [])
def f_X4_isFigure_17  (s0 : Int32) (h : am_H) : am_R := m_rz h s0
theorem t_X4_isFigure_17 (d : Nat) (hd : 0 ≤ d)  (s0 : Int32) (h : am_H) : Sim m_X4_isFigure d 17 [none] [.inl s0] h (f_X4_isFigure_17  s0 h) := by
  unfold f_X4_isFigure_17
  exact sim_zret dX4_isFigure_17 rfl
def f_X4_isFigure_16   (h : am_H) : am_R := f_X4_isFigure_17 (0 : Int32) h
theorem t_X4_isFigure_16 (d : Nat) (hd : 0 ≤ d)   (h : am_H) : Sim m_X4_isFigure d 16 [none] [] h (f_X4_isFigure_16   h) := by
  unfold f_X4_isFigure_16
  refine sim_iconst (0) dX4_isFigure_16 (by decide +kernel) ?_
  exact sim_lv (am_leN am_leT) (t_X4_isFigure_17 d (by omega) _ _)
def f_X4_isFigure (x0 : Int32) (h : am_H) : am_R := if x0 < (48 : Int32) then (f_X4_isFigure_16 h) else (if (57 : Int32) < x0 then (f_X4_isFigure_16 h) else (f_X4_isFigure_17 (1 : Int32) h))
theorem k_X4_isFigure (d : Nat) (hd : 0 ≤ d) (x0 : Int32) (h : am_H) : am_Con m_X4_isFigure d [.inl x0] h (f_X4_isFigure x0 h) := am_con (by decide +kernel) (Nat.le_of_ble_eq_true rfl) (by
  unfold f_X4_isFigure
  refine sim_iload_n dX4_isFigure_0 rfl ?_
  refine sim_bipush (48) dX4_isFigure_1 (by decide +kernel) ?_
  refine sim_ic_lt 16 dX4_isFigure_3 (by decide) (fun c => ?_) (fun c => ?_)
  · exact sim_lv (am_leN am_leT) (t_X4_isFigure_16 d (by omega) _)
  · refine sim_iload_n dX4_isFigure_6 rfl ?_
    refine sim_bipush (57) dX4_isFigure_7 (by decide +kernel) ?_
    refine sim_ic_gt 16 dX4_isFigure_9 (by decide) (fun c => ?_) (fun c => ?_)
    · exact sim_lv (am_leN am_leT) (t_X4_isFigure_16 d (by omega) _)
    · refine sim_iconst (1) dX4_isFigure_12 (by decide +kernel) ?_
      refine sim_goto 17 dX4_isFigure_13 (by decide) ?_
      exact sim_lv (am_leN am_leT) (t_X4_isFigure_17 d (by omega) _ _))
theorem q_X4_isFigure : am_Cal m_X4_isFigure 1 0 := ⟨am_mem 668 (w := Cond.code yX4_isFigure cX4_isFigure 1 (some .boolean)) (by decide +kernel) rfl, am_mem 33 (w := Cond.initialized RX4) (by decide +kernel) rfl, fun _ => am_mem 667 (w := Cond.static yX4_isFigure) (by decide +kernel) rfl, fun z => absurd rfl z, fun z => absurd z (by decide), fun z => absurd z (by decide), by decide +kernel, by decide +kernel, Nat.le_of_ble_eq_true rfl⟩
abbrev m_X4_takesFigure : am_M := (yX4_takesFigure, cX4_takesFigure, 3, some .boolean, [])
def f_X4_takesFigure_73  (s0 : Int32) (h : am_H) : am_R := m_rz h s0
theorem t_X4_takesFigure_73 (d : Nat) (hd : 1 ≤ d)  (s0 : Int32) (h : am_H) : Sim m_X4_takesFigure d 73 [none, none, none] [.inl s0] h (f_X4_takesFigure_73  s0 h) := by
  unfold f_X4_takesFigure_73
  exact sim_zret dX4_takesFigure_73 rfl
def f_X4_takesFigure_56  (a0 : Nat × Nat) (s0 : Int32) (h : am_H) : am_R := m_gI (some a0) 4 3 h fun v10 => m_bI (f_X4_greatestOf v10 h) fun h11 v12 => if v12 < s0 then (f_X4_takesFigure_73 (0 : Int32) h11) else (f_X4_takesFigure_73 (1 : Int32) h11)
theorem t_X4_takesFigure_56 (d : Nat) (hd : 1 ≤ d)  (a0 : Nat × Nat) (s0 : Int32) (h : am_H) : Sim m_X4_takesFigure d 56 [some (.inr (.inr (some a0))), none, none] [.inl s0] h (f_X4_takesFigure_56  a0 s0 h) := by
  unfold f_X4_takesFigure_56
  refine sim_istore_n dX4_takesFigure_56 (Nat.le_of_ble_eq_true rfl) ?_
  refine sim_iload_n dX4_takesFigure_57 rfl ?_
  refine sim_aload_n dX4_takesFigure_58 rfl ?_
  refine sim_gI 4 3 dX4_takesFigure_59 rfl wf_RX4_35 (Nat.le_of_ble_eq_true rfl) rfl (fun v10 => ?_)
  refine sim_static (d - 1) dX4_takesFigure_62 (k_X4_greatestOf (d - 1) (by omega) _ _) q_X4_greatestOf wm_RX4_46 rfl rfl (by omega) (Nat.le_of_ble_eq_true rfl) am_nI (am_rI fun h11 v12 => ?_) am_eI
  refine sim_ic_gt 72 dX4_takesFigure_65 (by decide) (fun c => ?_) (fun c => ?_)
  · refine sim_iconst (0) dX4_takesFigure_72 (by decide +kernel) ?_
    exact sim_lv (am_leN (am_leN (am_leN am_leT))) (t_X4_takesFigure_73 d (by omega) _ _)
  · refine sim_iconst (1) dX4_takesFigure_68 (by decide +kernel) ?_
    refine sim_goto 73 dX4_takesFigure_69 (by decide) ?_
    exact sim_lv (am_leN (am_leN (am_leN am_leT))) (t_X4_takesFigure_73 d (by omega) _ _)
def f_X4_takesFigure (a0 : Nat × Nat) (x1 : Int32) (h : am_H) : am_R := m_bI (f_X4_isFigure x1 h) fun h1 v2 => if v2 = 0 then (m_rz h1 (0 : Int32)) else (m_gI (some a0) 4 4 h1 fun v3 => m_pI (some a0) 4 4 ((v3 * (10 : Int32)) + (x1 - (48 : Int32))) h1 fun h4 => m_gI (some a0) 4 2 h4 fun v5 => m_pI (some a0) 4 2 (v5 - (1 : Int32)) h4 fun h6 => m_gI (some a0) 4 2 h6 fun v7 => if v7 ≤ 0 then (m_gI (some a0) 4 4 h6 fun v8 => f_X4_takesFigure_56 a0 v8 h6) else (m_gI (some a0) 4 4 h6 fun v9 => f_X4_takesFigure_56 a0 (v9 * (10 : Int32)) h6))
theorem k_X4_takesFigure (d : Nat) (hd : 1 ≤ d) (a0 : Nat × Nat) (x1 : Int32) (h : am_H) : am_Con m_X4_takesFigure d [.inr (.inr (some a0)), .inl x1] h (f_X4_takesFigure a0 x1 h) := am_con (by decide +kernel) (Nat.le_of_ble_eq_true rfl) (by
  unfold f_X4_takesFigure
  refine sim_iload_n dX4_takesFigure_0 rfl ?_
  refine sim_static (d - 1) dX4_takesFigure_1 (k_X4_isFigure (d - 1) (by omega) _ _) q_X4_isFigure wm_RX4_32 rfl rfl (by omega) (Nat.le_of_ble_eq_true rfl) am_nI (am_rI fun h1 v2 => ?_) am_eI
  refine sim_if_ne 9 dX4_takesFigure_4 (by decide) (fun c => ?_) (fun c => ?_)
  · refine sim_aload_n dX4_takesFigure_9 rfl ?_
    refine sim_aload_n dX4_takesFigure_10 rfl ?_
    refine sim_gI 4 4 dX4_takesFigure_11 rfl wf_RX4_39 (Nat.le_of_ble_eq_true rfl) rfl (fun v3 => ?_)
    refine sim_bipush (10) dX4_takesFigure_14 (by decide +kernel) ?_
    refine sim_imul dX4_takesFigure_16 ?_
    refine sim_iload_n dX4_takesFigure_17 rfl ?_
    refine sim_bipush (48) dX4_takesFigure_18 (by decide +kernel) ?_
    refine sim_isub dX4_takesFigure_20 ?_
    refine sim_iadd dX4_takesFigure_21 ?_
    refine sim_pI 4 4 dX4_takesFigure_22 rfl wf_RX4_39 (Nat.le_of_ble_eq_true rfl) rfl (Or.inl rfl) rfl (fun h4 => ?_)
    refine sim_aload_n dX4_takesFigure_25 rfl ?_
    refine sim_dup_r dX4_takesFigure_26 ?_
    refine sim_gI 4 2 dX4_takesFigure_27 rfl wf_RX4_19 (Nat.le_of_ble_eq_true rfl) rfl (fun v5 => ?_)
    refine sim_iconst (1) dX4_takesFigure_30 (by decide +kernel) ?_
    refine sim_isub dX4_takesFigure_31 ?_
    refine sim_pI 4 2 dX4_takesFigure_32 rfl wf_RX4_19 (Nat.le_of_ble_eq_true rfl) rfl (Or.inl rfl) rfl (fun h6 => ?_)
    refine sim_aload_n dX4_takesFigure_35 rfl ?_
    refine sim_gI 4 2 dX4_takesFigure_36 rfl wf_RX4_19 (Nat.le_of_ble_eq_true rfl) rfl (fun v7 => ?_)
    refine sim_if_le 52 dX4_takesFigure_39 (by decide) (fun c => ?_) (fun c => ?_)
    · refine sim_aload_n dX4_takesFigure_52 rfl ?_
      refine sim_gI 4 4 dX4_takesFigure_53 rfl wf_RX4_39 (Nat.le_of_ble_eq_true rfl) rfl (fun v8 => ?_)
      exact sim_lv (am_leS (am_leN (am_leN am_leT))) (t_X4_takesFigure_56 d (by omega) _ _ _)
    · refine sim_aload_n dX4_takesFigure_42 rfl ?_
      refine sim_gI 4 4 dX4_takesFigure_43 rfl wf_RX4_39 (Nat.le_of_ble_eq_true rfl) rfl (fun v9 => ?_)
      refine sim_bipush (10) dX4_takesFigure_46 (by decide +kernel) ?_
      refine sim_imul dX4_takesFigure_48 ?_
      refine sim_goto 56 dX4_takesFigure_49 (by decide) ?_
      exact sim_lv (am_leS (am_leN (am_leN am_leT))) (t_X4_takesFigure_56 d (by omega) _ _ _)
  · refine sim_iconst (0) dX4_takesFigure_7 (by decide +kernel) ?_
    exact sim_zret dX4_takesFigure_8 rfl)
theorem q_X4_takesFigure : am_Cal m_X4_takesFigure 1 2 := ⟨am_mem 701 (w := Cond.code yX4_takesFigure cX4_takesFigure 3 (some .boolean)) (by decide +kernel) rfl, am_mem 33 (w := Cond.initialized RX4) (by decide +kernel) rfl, fun z => absurd z (by decide), fun _ => am_mem 700 (w := Cond.instanceMethod yX4_takesFigure) (by decide +kernel) rfl, fun z => absurd z (by decide), fun _ => am_mem 10 (w := Cond.selects RX4 yX4_takesFigure yX4_takesFigure) (by decide +kernel) rfl, by decide +kernel, by decide +kernel, Nat.le_of_ble_eq_true rfl⟩
