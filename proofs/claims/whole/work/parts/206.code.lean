abbrev m_X10_isTagSo : am_M := (yX10_isTagSo, cX10_isTagSo, 5, some .boolean, [])
def f_X10_isTagSo_51  (s0 : Int32) (h : am_H) : am_R := m_rz h s0
theorem t_X10_isTagSo_51 (d : Nat) (hd : 3 ≤ d)  (s0 : Int32) (h : am_H) : Sim m_X10_isTagSo d 51 [none, none, none, none, none] [.inl s0] h (f_X10_isTagSo_51  s0 h) := by
  unfold f_X10_isTagSo_51
  exact sim_zret dX10_isTagSo_51 rfl
def f_X10_isTagSo (a0 : Nat × Nat) (x1 : Option (Nat × Nat)) (x2 : Int32) (x3 : Int32) (h : am_H) : am_R := m_gR (some a0) 10 7 h fun o1 => m_gI o1 7 0 h fun v2 => if x2 < v2 then (m_gR (some a0) 10 7 h fun o3 => m_ao o3 7 fun a6 => m_bI (f_X7_meaningOf a6 x2 h) fun h4 v5 => if v5 = (-1 : Int32) then (m_gI x1 9 7 h4 fun v12 => m_bI (f_X10_has v12 x2 h4) fun h13 v14 => f_X10_isTagSo_51 v14 h13) else (m_ao (some a0) 10 fun a9 => m_bI (f_X10_placesOf a9 x1 x3 h4) fun h7 v8 => m_bI (f_X10_has v8 v5 h7) fun h10 v11 => f_X10_isTagSo_51 v11 h10)) else (m_rz h (0 : Int32))
theorem k_X10_isTagSo (d : Nat) (hd : 3 ≤ d) (a0 : Nat × Nat) (x1 : Option (Nat × Nat)) (x2 : Int32) (x3 : Int32) (h : am_H) : am_Con m_X10_isTagSo d [.inr (.inr (some a0)), .inr (.inr x1), .inl x2, .inl x3] h (f_X10_isTagSo a0 x1 x2 x3 h) := am_con (by decide +kernel) (Nat.le_of_ble_eq_true rfl) (by
  unfold f_X10_isTagSo
  refine sim_iload_n dX10_isTagSo_0 rfl ?_
  refine sim_aload_n dX10_isTagSo_1 rfl ?_
  refine sim_gR 10 7 dX10_isTagSo_2 rfl wf_RX10_34 (Nat.le_of_ble_eq_true rfl) rfl (fun o1 => ?_)
  refine sim_gI 7 0 dX10_isTagSo_5 rfl wf_RX10_180 (Nat.le_of_ble_eq_true rfl) rfl (fun v2 => ?_)
  refine sim_ic_lt 13 dX10_isTagSo_8 (by decide) (fun c => ?_) (fun c => ?_)
  · refine sim_aload_n dX10_isTagSo_13 rfl ?_
    refine sim_gR 10 7 dX10_isTagSo_14 rfl wf_RX10_34 (Nat.le_of_ble_eq_true rfl) rfl (fun o3 => ?_)
    refine sim_iload_n dX10_isTagSo_17 rfl ?_
    refine sim_ao1 (fun a6 e => ?_)
    refine sim_virt (d - 1) e dX10_isTagSo_18 (k_X7_meaningOf (d - 1) (by omega) _ _ _) q_X7_meaningOf rfl rfl wm_RX10_220 rfl rfl (by omega) (Nat.le_of_ble_eq_true rfl) am_nI (am_rI fun h4 v5 => ?_) am_eI
    refine sim_istore dX10_isTagSo_21 (Nat.le_of_ble_eq_true rfl) ?_
    refine sim_iload dX10_isTagSo_23 rfl ?_
    refine sim_iconst (-1) dX10_isTagSo_25 (by decide +kernel) ?_
    refine sim_ic_ne 40 dX10_isTagSo_26 (by decide) (fun c => ?_) (fun c => ?_)
    · refine sim_aload_n dX10_isTagSo_40 rfl ?_
      refine sim_aload_n dX10_isTagSo_41 rfl ?_
      refine sim_iload_n dX10_isTagSo_42 rfl ?_
      refine sim_ao2 (fun a9 e => ?_)
      refine sim_virt (d - 1) e dX10_isTagSo_43 (k_X10_placesOf (d - 1) (by omega) _ _ _ _) q_X10_placesOf rfl rfl wm_RX10_247 rfl rfl (by omega) (Nat.le_of_ble_eq_true rfl) am_nI (am_rI fun h7 v8 => ?_) am_eI
      refine sim_iload dX10_isTagSo_46 rfl ?_
      refine sim_static (d - 1) dX10_isTagSo_48 (k_X10_has (d - 1) (by omega) _ _ _) q_X10_has wm_RX10_91 rfl rfl (by omega) (Nat.le_of_ble_eq_true rfl) am_nI (am_rI fun h10 v11 => ?_) am_eI
      exact sim_lv (am_leN (am_leN (am_leN (am_leN (am_leN am_leT))))) (t_X10_isTagSo_51 d (by omega) _ _)
    · refine sim_aload_n dX10_isTagSo_29 rfl ?_
      refine sim_gI 9 7 dX10_isTagSo_30 rfl wf_RX10_234 (Nat.le_of_ble_eq_true rfl) rfl (fun v12 => ?_)
      refine sim_iload_n dX10_isTagSo_33 rfl ?_
      refine sim_static (d - 1) dX10_isTagSo_34 (k_X10_has (d - 1) (by omega) _ _ _) q_X10_has wm_RX10_91 rfl rfl (by omega) (Nat.le_of_ble_eq_true rfl) am_nI (am_rI fun h13 v14 => ?_) am_eI
      refine sim_goto 51 dX10_isTagSo_37 (by decide) ?_
      exact sim_lv (am_leN (am_leN (am_leN (am_leN (am_leN am_leT))))) (t_X10_isTagSo_51 d (by omega) _ _)
  · refine sim_iconst (0) dX10_isTagSo_11 (by decide +kernel) ?_
    exact sim_zret dX10_isTagSo_12 rfl)
theorem q_X10_isTagSo : am_Cal m_X10_isTagSo 3 2 := ⟨am_mem 869 (w := Cond.code yX10_isTagSo cX10_isTagSo 5 (some .boolean)) (by decide +kernel) rfl, am_mem 56 (w := Cond.initialized RX10) (by decide +kernel) rfl, fun z => absurd z (by decide), fun _ => am_mem 868 (w := Cond.instanceMethod yX10_isTagSo) (by decide +kernel) rfl, fun z => absurd z (by decide), fun _ => am_mem 18 (w := Cond.selects RX10 yX10_isTagSo yX10_isTagSo) (by decide +kernel) rfl, by decide +kernel, by decide +kernel, Nat.le_of_ble_eq_true rfl⟩
abbrev m_X10_worksOfItem : am_M := (yX10_worksOfItem, cX10_worksOfItem, 9, some .int, [])
def f_X10_worksOfItem_79 (rc6 : Nat × Nat → Int32 → Int32 → Int32 → Int32 → Int32 → Int32 → am_H → am_R) (a0 : Nat × Nat) (x1 : Int32) (x2 : Int32) (x3 : Int32) (x4 : Int32) (x5 : Int32) (x6 : Int32) (s0 : Int32) (h : am_H) : am_R := m_bI (f_X10_with x5 x6 s0 h) fun h14 v15 => rc6 a0 x1 x2 x3 x4 v15 (x6 + 1) h14
theorem t_X10_worksOfItem_79 (d : Nat) (hd : 4 ≤ d) (rc6 : Nat × Nat → Int32 → Int32 → Int32 → Int32 → Int32 → Int32 → am_H → am_R) (hrc6 : ∀ a0 x1 x2 x3 x4 x5 x6 h, Sim m_X10_worksOfItem d 6 [some (.inr (.inr (some a0))), some (.inl x1), some (.inl x2), some (.inl x3), some (.inl x4), some (.inl x5), some (.inl x6), none, none] [] h (rc6 a0 x1 x2 x3 x4 x5 x6 h)) (a0 : Nat × Nat) (x1 : Int32) (x2 : Int32) (x3 : Int32) (x4 : Int32) (x5 : Int32) (x6 : Int32) (s0 : Int32) (h : am_H) : Sim m_X10_worksOfItem d 79 [some (.inr (.inr (some a0))), some (.inl x1), some (.inl x2), some (.inl x3), some (.inl x4), some (.inl x5), some (.inl x6), none, none] [.inl s0] h (f_X10_worksOfItem_79 rc6 a0 x1 x2 x3 x4 x5 x6 s0 h) := by
  unfold f_X10_worksOfItem_79
  refine sim_istore dX10_worksOfItem_79 (Nat.le_of_ble_eq_true rfl) ?_
  refine sim_iload dX10_worksOfItem_81 rfl ?_
  refine sim_iload dX10_worksOfItem_83 rfl ?_
  refine sim_iload dX10_worksOfItem_85 rfl ?_
  refine sim_static (d - 1) dX10_worksOfItem_87 (k_X10_with (d - 1) (by omega) _ _ _ _) q_X10_with wm_RX10_95 rfl rfl (by omega) (Nat.le_of_ble_eq_true rfl) am_nI (am_rI fun h14 v15 => ?_) am_eI
  refine sim_istore dX10_worksOfItem_90 (Nat.le_of_ble_eq_true rfl) ?_
  refine sim_iinc (1) dX10_worksOfItem_92 rfl (by decide +kernel) (Nat.le_of_ble_eq_true rfl) ?_
  refine sim_goto 6 dX10_worksOfItem_95 (by decide) ?_
  exact sim_lv (am_leS (am_leS (am_leS (am_leS (am_leS (am_leS (am_leS (am_leN (am_leN am_leT))))))))) (hrc6 _ _ _ _ _ _ _ _)
def f_X10_worksOfItem_6  : Nat → Nat × Nat → Int32 → Int32 → Int32 → Int32 → Int32 → Int32 → am_H → am_R
  | 0, _, _, _, _, _, _, _, _ => none
  | n + 1, a0, x1, x2, x3, x4, x5, x6, h => m_gI (some a0) 10 4 h fun v1 => if v1 ≤ x6 then (m_ri h x5) else (m_gR (some a0) 10 3 h fun o2 => m_aR o2 5 x6 h fun o3 => if x1 = (116 : Int32) then (m_ao (some a0) 10 fun a13 => m_bI (f_X10_isTagSo a13 o3 x2 x4 h) fun h11 v12 => f_X10_worksOfItem_79 (f_X10_worksOfItem_6  n) a0 x1 x2 x3 x4 x5 x6 v12 h11) else (if x1 = (97 : Int32) then (m_gI (some a0) 10 0 h fun v5 => m_ao o3 9 fun a8 => m_bI (f_X9_ownersToldTo a8 x3 v5 h) fun h6 v7 => m_bI (f_X10_has v7 x2 h6) fun h9 v10 => f_X10_worksOfItem_79 (f_X10_worksOfItem_6  n) a0 x1 x2 x3 x4 x5 x6 v10 h9) else (m_gI o3 9 0 h fun v4 => if x2 < v4 then (f_X10_worksOfItem_79 (f_X10_worksOfItem_6  n) a0 x1 x2 x3 x4 x5 x6 (0 : Int32) h) else (f_X10_worksOfItem_79 (f_X10_worksOfItem_6  n) a0 x1 x2 x3 x4 x5 x6 (1 : Int32) h))))
theorem t_X10_worksOfItem_6 (d : Nat) (hd : 4 ≤ d)  : ∀ (n : Nat) (a0 : Nat × Nat) (x1 : Int32) (x2 : Int32) (x3 : Int32) (x4 : Int32) (x5 : Int32) (x6 : Int32) (h : am_H), Sim m_X10_worksOfItem d 6 [some (.inr (.inr (some a0))), some (.inl x1), some (.inl x2), some (.inl x3), some (.inl x4), some (.inl x5), some (.inl x6), none, none] [] h (f_X10_worksOfItem_6  n a0 x1 x2 x3 x4 x5 x6 h) := by
  intro n
  induction n with
  | zero => intros; exact sim_none
  | succ n hrc6 =>
    intro a0 x1 x2 x3 x4 x5 x6 h
    rw [f_X10_worksOfItem_6]
    refine sim_iload dX10_worksOfItem_6 rfl ?_
    refine sim_aload_n dX10_worksOfItem_8 rfl ?_
    refine sim_gI 10 4 dX10_worksOfItem_9 rfl wf_RX10_104 (Nat.le_of_ble_eq_true rfl) rfl (fun v1 => ?_)
    refine sim_ic_ge 98 dX10_worksOfItem_12 (by decide) (fun c => ?_) (fun c => ?_)
    · refine sim_iload dX10_worksOfItem_98 rfl ?_
      exact sim_iret dX10_worksOfItem_100 rfl
    · refine sim_aload_n dX10_worksOfItem_15 rfl ?_
      refine sim_gR 10 3 dX10_worksOfItem_16 rfl wf_RX10_21 (Nat.le_of_ble_eq_true rfl) rfl (fun o2 => ?_)
      refine sim_iload dX10_worksOfItem_19 rfl ?_
      refine sim_aR 5 rfl dX10_worksOfItem_21 (fun o3 => ?_)
      refine sim_astore dX10_worksOfItem_22 (Nat.le_of_ble_eq_true rfl) ?_
      refine sim_iload_n dX10_worksOfItem_24 rfl ?_
      refine sim_bipush (116) dX10_worksOfItem_25 (by decide +kernel) ?_
      refine sim_ic_ne 42 dX10_worksOfItem_27 (by decide) (fun c => ?_) (fun c => ?_)
      · refine sim_iload_n dX10_worksOfItem_42 rfl ?_
        refine sim_bipush (97) dX10_worksOfItem_43 (by decide +kernel) ?_
        refine sim_ic_ne 65 dX10_worksOfItem_45 (by decide) (fun c => ?_) (fun c => ?_)
        · refine sim_aload dX10_worksOfItem_65 rfl ?_
          refine sim_gI 9 0 dX10_worksOfItem_67 rfl wf_RX10_440 (Nat.le_of_ble_eq_true rfl) rfl (fun v4 => ?_)
          refine sim_iload_n dX10_worksOfItem_70 rfl ?_
          refine sim_ic_gt 78 dX10_worksOfItem_71 (by decide) (fun c => ?_) (fun c => ?_)
          · refine sim_iconst (0) dX10_worksOfItem_78 (by decide +kernel) ?_
            exact sim_lv (am_leS (am_leS (am_leS (am_leS (am_leS (am_leS (am_leS (am_leN (am_leN am_leT))))))))) (t_X10_worksOfItem_79 d (by omega) _ hrc6 _ _ _ _ _ _ _ _ _)
          · refine sim_iconst (1) dX10_worksOfItem_74 (by decide +kernel) ?_
            refine sim_goto 79 dX10_worksOfItem_75 (by decide) ?_
            exact sim_lv (am_leS (am_leS (am_leS (am_leS (am_leS (am_leS (am_leS (am_leN (am_leN am_leT))))))))) (t_X10_worksOfItem_79 d (by omega) _ hrc6 _ _ _ _ _ _ _ _ _)
        · refine sim_aload dX10_worksOfItem_48 rfl ?_
          refine sim_iload_n dX10_worksOfItem_50 rfl ?_
          refine sim_aload_n dX10_worksOfItem_51 rfl ?_
          refine sim_gI 10 0 dX10_worksOfItem_52 rfl wf_RX10_73 (Nat.le_of_ble_eq_true rfl) rfl (fun v5 => ?_)
          refine sim_ao2 (fun a8 e => ?_)
          refine sim_virt (d - 1) e dX10_worksOfItem_55 (k_X9_ownersToldTo (d - 1) (by omega) _ _ _ _) q_X9_ownersToldTo rfl rfl wm_RX10_176 rfl rfl (by omega) (Nat.le_of_ble_eq_true rfl) am_nI (am_rI fun h6 v7 => ?_) am_eI
          refine sim_iload_n dX10_worksOfItem_58 rfl ?_
          refine sim_static (d - 1) dX10_worksOfItem_59 (k_X10_has (d - 1) (by omega) _ _ _) q_X10_has wm_RX10_91 rfl rfl (by omega) (Nat.le_of_ble_eq_true rfl) am_nI (am_rI fun h9 v10 => ?_) am_eI
          refine sim_goto 79 dX10_worksOfItem_62 (by decide) ?_
          exact sim_lv (am_leS (am_leS (am_leS (am_leS (am_leS (am_leS (am_leS (am_leN (am_leN am_leT))))))))) (t_X10_worksOfItem_79 d (by omega) _ hrc6 _ _ _ _ _ _ _ _ _)
      · refine sim_aload_n dX10_worksOfItem_30 rfl ?_
        refine sim_aload dX10_worksOfItem_31 rfl ?_
        refine sim_iload_n dX10_worksOfItem_33 rfl ?_
        refine sim_iload dX10_worksOfItem_34 rfl ?_
        refine sim_ao3 (fun a13 e => ?_)
        refine sim_virt (d - 1) e dX10_worksOfItem_36 (k_X10_isTagSo (d - 1) (by omega) _ _ _ _ _) q_X10_isTagSo rfl rfl wm_RX10_436 rfl rfl (by omega) (Nat.le_of_ble_eq_true rfl) am_nI (am_rI fun h11 v12 => ?_) am_eI
        refine sim_goto 79 dX10_worksOfItem_39 (by decide) ?_
        exact sim_lv (am_leS (am_leS (am_leS (am_leS (am_leS (am_leS (am_leS (am_leN (am_leN am_leT))))))))) (t_X10_worksOfItem_79 d (by omega) _ hrc6 _ _ _ _ _ _ _ _ _)
def f_X10_worksOfItem (a0 : Nat × Nat) (x1 : Int32) (x2 : Int32) (x3 : Int32) (x4 : Int32) (h : am_H) : am_R := f_X10_worksOfItem_6 5000 a0 x1 x2 x3 x4 (0 : Int32) (0 : Int32) h
theorem k_X10_worksOfItem (d : Nat) (hd : 4 ≤ d) (a0 : Nat × Nat) (x1 : Int32) (x2 : Int32) (x3 : Int32) (x4 : Int32) (h : am_H) : am_Con m_X10_worksOfItem d [.inr (.inr (some a0)), .inl x1, .inl x2, .inl x3, .inl x4] h (f_X10_worksOfItem a0 x1 x2 x3 x4 h) := am_con (by decide +kernel) (Nat.le_of_ble_eq_true rfl) (by
  unfold f_X10_worksOfItem
  refine sim_iconst (0) dX10_worksOfItem_0 (by decide +kernel) ?_
  refine sim_istore dX10_worksOfItem_1 (Nat.le_of_ble_eq_true rfl) ?_
  refine sim_iconst (0) dX10_worksOfItem_3 (by decide +kernel) ?_
  refine sim_istore dX10_worksOfItem_4 (Nat.le_of_ble_eq_true rfl) ?_
  exact sim_lv (am_leS (am_leS (am_leS (am_leS (am_leS (am_leS (am_leS (am_leN (am_leN am_leT))))))))) (t_X10_worksOfItem_6 d (by omega) _ _ _ _ _ _ _ _ _))
theorem q_X10_worksOfItem : am_Cal m_X10_worksOfItem 4 2 := ⟨am_mem 865 (w := Cond.code yX10_worksOfItem cX10_worksOfItem 9 (some .int)) (by decide +kernel) rfl, am_mem 56 (w := Cond.initialized RX10) (by decide +kernel) rfl, fun z => absurd z (by decide), fun _ => am_mem 864 (w := Cond.instanceMethod yX10_worksOfItem) (by decide +kernel) rfl, fun z => absurd z (by decide), fun _ => am_mem 17 (w := Cond.selects RX10 yX10_worksOfItem yX10_worksOfItem) (by decide +kernel) rfl, by decide +kernel, by decide +kernel, Nat.le_of_ble_eq_true rfl⟩
abbrev m_X10_worksSeenBy : am_M := (yX10_worksSeenBy, cX10_worksSeenBy, 4, some .int, [])
def f_X10_worksSeenBy_4  : Nat → Nat × Nat → Int32 → Int32 → Int32 → am_H → am_R
  | 0, _, _, _, _, _ => none
  | n + 1, a0, x1, x2, x3, h => m_gI (some a0) 10 4 h fun v1 => if v1 ≤ x3 then (m_ri h x2) else (m_gR (some a0) 10 3 h fun o2 => m_aR o2 5 x3 h fun o3 => m_gI (some a0) 10 0 h fun v4 => m_ao o3 9 fun a7 => m_bI (f_X9_isSeenBy a7 x1 v4 h) fun h5 v6 => m_bI (f_X10_with x2 x3 v6 h5) fun h8 v9 => (f_X10_worksSeenBy_4  n) a0 x1 v9 (x3 + 1) h8)
theorem t_X10_worksSeenBy_4 (d : Nat) (hd : 3 ≤ d)  : ∀ (n : Nat) (a0 : Nat × Nat) (x1 : Int32) (x2 : Int32) (x3 : Int32) (h : am_H), Sim m_X10_worksSeenBy d 4 [some (.inr (.inr (some a0))), some (.inl x1), some (.inl x2), some (.inl x3)] [] h (f_X10_worksSeenBy_4  n a0 x1 x2 x3 h) := by
  intro n
  induction n with
  | zero => intros; exact sim_none
  | succ n hrc4 =>
    intro a0 x1 x2 x3 h
    rw [f_X10_worksSeenBy_4]
    refine sim_iload_n dX10_worksSeenBy_4 rfl ?_
    refine sim_aload_n dX10_worksSeenBy_5 rfl ?_
    refine sim_gI 10 4 dX10_worksSeenBy_6 rfl wf_RX10_104 (Nat.le_of_ble_eq_true rfl) rfl (fun v1 => ?_)
    refine sim_ic_ge 38 dX10_worksSeenBy_9 (by decide) (fun c => ?_) (fun c => ?_)
    · refine sim_iload_n dX10_worksSeenBy_38 rfl ?_
      exact sim_iret dX10_worksSeenBy_39 rfl
    · refine sim_iload_n dX10_worksSeenBy_12 rfl ?_
      refine sim_iload_n dX10_worksSeenBy_13 rfl ?_
      refine sim_aload_n dX10_worksSeenBy_14 rfl ?_
      refine sim_gR 10 3 dX10_worksSeenBy_15 rfl wf_RX10_21 (Nat.le_of_ble_eq_true rfl) rfl (fun o2 => ?_)
      refine sim_iload_n dX10_worksSeenBy_18 rfl ?_
      refine sim_aR 5 rfl dX10_worksSeenBy_19 (fun o3 => ?_)
      refine sim_iload_n dX10_worksSeenBy_20 rfl ?_
      refine sim_aload_n dX10_worksSeenBy_21 rfl ?_
      refine sim_gI 10 0 dX10_worksSeenBy_22 rfl wf_RX10_73 (Nat.le_of_ble_eq_true rfl) rfl (fun v4 => ?_)
      refine sim_ao2 (fun a7 e => ?_)
      refine sim_virt (d - 1) e dX10_worksSeenBy_25 (k_X9_isSeenBy (d - 1) (by omega) _ _ _ _) q_X9_isSeenBy rfl rfl wm_RX10_173 rfl rfl (by omega) (Nat.le_of_ble_eq_true rfl) am_nI (am_rI fun h5 v6 => ?_) am_eI
      refine sim_static (d - 1) dX10_worksSeenBy_28 (k_X10_with (d - 1) (by omega) _ _ _ _) q_X10_with wm_RX10_95 rfl rfl (by omega) (Nat.le_of_ble_eq_true rfl) am_nI (am_rI fun h8 v9 => ?_) am_eI
      refine sim_istore_n dX10_worksSeenBy_31 (Nat.le_of_ble_eq_true rfl) ?_
      refine sim_iinc (1) dX10_worksSeenBy_32 rfl (by decide +kernel) (Nat.le_of_ble_eq_true rfl) ?_
      refine sim_goto 4 dX10_worksSeenBy_35 (by decide) ?_
      exact sim_lv (am_leS (am_leS (am_leS (am_leS am_leT)))) (hrc4 _ _ _ _ _)
def f_X10_worksSeenBy (a0 : Nat × Nat) (x1 : Int32) (h : am_H) : am_R := f_X10_worksSeenBy_4 5000 a0 x1 (0 : Int32) (0 : Int32) h
theorem k_X10_worksSeenBy (d : Nat) (hd : 3 ≤ d) (a0 : Nat × Nat) (x1 : Int32) (h : am_H) : am_Con m_X10_worksSeenBy d [.inr (.inr (some a0)), .inl x1] h (f_X10_worksSeenBy a0 x1 h) := am_con (by decide +kernel) (Nat.le_of_ble_eq_true rfl) (by
  unfold f_X10_worksSeenBy
  refine sim_iconst (0) dX10_worksSeenBy_0 (by decide +kernel) ?_
  refine sim_istore_n dX10_worksSeenBy_1 (Nat.le_of_ble_eq_true rfl) ?_
  refine sim_iconst (0) dX10_worksSeenBy_2 (by decide +kernel) ?_
  refine sim_istore_n dX10_worksSeenBy_3 (Nat.le_of_ble_eq_true rfl) ?_
  exact sim_lv (am_leS (am_leS (am_leS (am_leS am_leT)))) (t_X10_worksSeenBy_4 d (by omega) _ _ _ _ _ _))
theorem q_X10_worksSeenBy : am_Cal m_X10_worksSeenBy 1 2 := ⟨am_mem 875 (w := Cond.code yX10_worksSeenBy cX10_worksSeenBy 4 (some .int)) (by decide +kernel) rfl, am_mem 56 (w := Cond.initialized RX10) (by decide +kernel) rfl, fun z => absurd z (by decide), fun _ => am_mem 874 (w := Cond.instanceMethod yX10_worksSeenBy) (by decide +kernel) rfl, fun z => absurd z (by decide), fun _ => am_mem 19 (w := Cond.selects RX10 yX10_worksSeenBy yX10_worksSeenBy) (by decide +kernel) rfl, by decide +kernel, by decide +kernel, Nat.le_of_ble_eq_true rfl⟩
abbrev m_X4_hasItem : am_M := (yX4_hasItem, cX4_hasItem, 2, some .boolean, [])
def f_X4_hasItem_19  (s0 : Int32) (h : am_H) : am_R := m_rz h s0
theorem t_X4_hasItem_19 (d : Nat) (hd : 1 ≤ d)  (s0 : Int32) (h : am_H) : Sim m_X4_hasItem d 19 [none, none] [.inl s0] h (f_X4_hasItem_19  s0 h) := by
  unfold f_X4_hasItem_19
  exact sim_zret dX4_hasItem_19 rfl
def f_X4_hasItem_18   (h : am_H) : am_R := f_X4_hasItem_19 (0 : Int32) h
theorem t_X4_hasItem_18 (d : Nat) (hd : 1 ≤ d)   (h : am_H) : Sim m_X4_hasItem d 18 [none, none] [] h (f_X4_hasItem_18   h) := by
  unfold f_X4_hasItem_18
  refine sim_iconst (0) dX4_hasItem_18 (by decide +kernel) ?_
  exact sim_lv (am_leN (am_leN am_leT)) (t_X4_hasItem_19 d (by omega) _ _)
def f_X4_hasItem (a0 : Nat × Nat) (x1 : Int32) (h : am_H) : am_R := m_gI (some a0) 4 2 h fun v1 => if v1 = 0 then (m_bI (f_X4_isFigure x1 h) fun h2 v3 => if v3 = 0 then (f_X4_hasItem_18 h2) else (f_X4_hasItem_19 (1 : Int32) h2)) else (f_X4_hasItem_18 h)
theorem k_X4_hasItem (d : Nat) (hd : 1 ≤ d) (a0 : Nat × Nat) (x1 : Int32) (h : am_H) : am_Con m_X4_hasItem d [.inr (.inr (some a0)), .inl x1] h (f_X4_hasItem a0 x1 h) := am_con (by decide +kernel) (Nat.le_of_ble_eq_true rfl) (by
  unfold f_X4_hasItem
  refine sim_aload_n dX4_hasItem_0 rfl ?_
  refine sim_gI 4 2 dX4_hasItem_1 rfl wf_RX4_19 (Nat.le_of_ble_eq_true rfl) rfl (fun v1 => ?_)
  refine sim_if_ne 18 dX4_hasItem_4 (by decide) (fun c => ?_) (fun c => ?_)
  · exact sim_lv (am_leN (am_leN am_leT)) (t_X4_hasItem_18 d (by omega) _)
  · refine sim_iload_n dX4_hasItem_7 rfl ?_
    refine sim_static (d - 1) dX4_hasItem_8 (k_X4_isFigure (d - 1) (by omega) _ _) q_X4_isFigure wm_RX4_32 rfl rfl (by omega) (Nat.le_of_ble_eq_true rfl) am_nI (am_rI fun h2 v3 => ?_) am_eI
    refine sim_if_eq 18 dX4_hasItem_11 (by decide) (fun c => ?_) (fun c => ?_)
    · exact sim_lv (am_leN (am_leN am_leT)) (t_X4_hasItem_18 d (by omega) _)
    · refine sim_iconst (1) dX4_hasItem_14 (by decide +kernel) ?_
      refine sim_goto 19 dX4_hasItem_15 (by decide) ?_
      exact sim_lv (am_leN (am_leN am_leT)) (t_X4_hasItem_19 d (by omega) _ _))
theorem q_X4_hasItem : am_Cal m_X4_hasItem 1 2 := ⟨am_mem 861 (w := Cond.code yX4_hasItem cX4_hasItem 2 (some .boolean)) (by decide +kernel) rfl, am_mem 59 (w := Cond.initialized RX4) (by decide +kernel) rfl, fun z => absurd z (by decide), fun _ => am_mem 859 (w := Cond.instanceMethod yX4_hasItem) (by decide +kernel) rfl, fun z => absurd z (by decide), fun _ => am_mem 860 (w := Cond.selects RX4 yX4_hasItem yX4_hasItem) (by decide +kernel) rfl, by decide +kernel, by decide +kernel, Nat.le_of_ble_eq_true rfl⟩
abbrev m_X5_end : am_M := (yX5_end, cX5_end, 1, some .int, [])
def f_X5_end (a0 : Nat × Nat) (h : am_H) : am_R := m_gR (some a0) 5 0 h fun o1 => m_gI (some a0) 5 3 h fun v2 => m_aI o1 0 v2 h fun v3 => m_gR (some a0) 5 1 h fun o4 => m_gI (some a0) 5 3 h fun v5 => m_aI o4 0 v5 h fun v6 => m_ri h (v3 ||| v6)
theorem k_X5_end (d : Nat) (hd : 0 ≤ d) (a0 : Nat × Nat) (h : am_H) : am_Con m_X5_end d [.inr (.inr (some a0))] h (f_X5_end a0 h) := am_con (by decide +kernel) (Nat.le_of_ble_eq_true rfl) (by
  unfold f_X5_end
  refine sim_aload_n dX5_end_0 rfl ?_
  refine sim_gR 5 0 dX5_end_1 rfl wf_RX5_9 (Nat.le_of_ble_eq_true rfl) rfl (fun o1 => ?_)
  refine sim_aload_n dX5_end_4 rfl ?_
  refine sim_gI 5 3 dX5_end_5 rfl wf_RX5_22 (Nat.le_of_ble_eq_true rfl) rfl (fun v2 => ?_)
  refine sim_aI dX5_end_8 (fun v3 => ?_)
  refine sim_aload_n dX5_end_9 rfl ?_
  refine sim_gR 5 1 dX5_end_10 rfl wf_RX5_15 (Nat.le_of_ble_eq_true rfl) rfl (fun o4 => ?_)
  refine sim_aload_n dX5_end_13 rfl ?_
  refine sim_gI 5 3 dX5_end_14 rfl wf_RX5_22 (Nat.le_of_ble_eq_true rfl) rfl (fun v5 => ?_)
  refine sim_aI dX5_end_17 (fun v6 => ?_)
  refine sim_ior dX5_end_18 ?_
  exact sim_iret dX5_end_19 rfl)
theorem q_X5_end : am_Cal m_X5_end 0 2 := ⟨am_mem 853 (w := Cond.code yX5_end cX5_end 1 (some .int)) (by decide +kernel) rfl, am_mem 60 (w := Cond.initialized RX5) (by decide +kernel) rfl, fun z => absurd z (by decide), fun _ => am_mem 851 (w := Cond.instanceMethod yX5_end) (by decide +kernel) rfl, fun z => absurd z (by decide), fun _ => am_mem 852 (w := Cond.selects RX5 yX5_end yX5_end) (by decide +kernel) rfl, by decide +kernel, by decide +kernel, Nat.le_of_ble_eq_true rfl⟩
abbrev m_X5_item : am_M := (yX5_item, cX5_item, 2, none, [])
def f_X5_item_29  (a0 : Nat × Nat) (s0 : Int32) (s1 : Int32) (s2 : Int32) (s3 : Option (Nat × Nat)) (h : am_H) : am_R := m_sI s3 s2 (s1 &&& s0) h fun h7 => m_gR (some a0) 5 2 h7 fun o8 => m_gI (some a0) 5 3 h7 fun v9 => m_sZ o8 v9 (0 : Int32) h7 fun h10 => m_rt h10 none
theorem t_X5_item_29 (d : Nat) (hd : 0 ≤ d)  (a0 : Nat × Nat) (s0 : Int32) (s1 : Int32) (s2 : Int32) (s3 : Option (Nat × Nat)) (h : am_H) : Sim m_X5_item d 29 [some (.inr (.inr (some a0))), none] [.inl s0, .inl s1, .inl s2, .inr (.inr s3)] h (f_X5_item_29  a0 s0 s1 s2 s3 h) := by
  unfold f_X5_item_29
  refine sim_iand dX5_item_29 ?_
  refine sim_sI dX5_item_30 (fun h7 => ?_)
  refine sim_aload_n dX5_item_31 rfl ?_
  refine sim_gR 5 2 dX5_item_32 rfl wf_RX5_18 (Nat.le_of_ble_eq_true rfl) rfl (fun o8 => ?_)
  refine sim_aload_n dX5_item_35 rfl ?_
  refine sim_gI 5 3 dX5_item_36 rfl wf_RX5_22 (Nat.le_of_ble_eq_true rfl) rfl (fun v9 => ?_)
  refine sim_iconst (0) dX5_item_39 (by decide +kernel) ?_
  refine sim_sZ dX5_item_40 (fun h10 => ?_)
  exact sim_vret dX5_item_41 rfl
def f_X5_item (a0 : Nat × Nat) (x1 : Int32) (h : am_H) : am_R := m_gR (some a0) 5 1 h fun o1 => m_gI (some a0) 5 3 h fun v2 => m_aI o1 0 v2 h fun v3 => m_gR (some a0) 5 2 h fun o4 => m_gI (some a0) 5 3 h fun v5 => m_aI o4 1 v5 h fun v6 => if v6 = 0 then (f_X5_item_29 a0 x1 v3 v2 o1 h) else (f_X5_item_29 a0 (x1 ^^^ (-1 : Int32)) v3 v2 o1 h)
theorem k_X5_item (d : Nat) (hd : 0 ≤ d) (a0 : Nat × Nat) (x1 : Int32) (h : am_H) : am_Con m_X5_item d [.inr (.inr (some a0)), .inl x1] h (f_X5_item a0 x1 h) := am_con (by decide +kernel) (Nat.le_of_ble_eq_true rfl) (by
  unfold f_X5_item
  refine sim_aload_n dX5_item_0 rfl ?_
  refine sim_gR 5 1 dX5_item_1 rfl wf_RX5_15 (Nat.le_of_ble_eq_true rfl) rfl (fun o1 => ?_)
  refine sim_aload_n dX5_item_4 rfl ?_
  refine sim_gI 5 3 dX5_item_5 rfl wf_RX5_22 (Nat.le_of_ble_eq_true rfl) rfl (fun v2 => ?_)
  refine sim_dup2 dX5_item_8 ?_
  refine sim_aI dX5_item_9 (fun v3 => ?_)
  refine sim_aload_n dX5_item_10 rfl ?_
  refine sim_gR 5 2 dX5_item_11 rfl wf_RX5_18 (Nat.le_of_ble_eq_true rfl) rfl (fun o4 => ?_)
  refine sim_aload_n dX5_item_14 rfl ?_
  refine sim_gI 5 3 dX5_item_15 rfl wf_RX5_22 (Nat.le_of_ble_eq_true rfl) rfl (fun v5 => ?_)
  refine sim_aZ dX5_item_18 (fun v6 => ?_)
  refine sim_if_eq 28 dX5_item_19 (by decide) (fun c => ?_) (fun c => ?_)
  · refine sim_iload_n dX5_item_28 rfl ?_
    exact sim_lv (am_leS (am_leN am_leT)) (t_X5_item_29 d (by omega) _ _ _ _ _ _)
  · refine sim_iload_n dX5_item_22 rfl ?_
    refine sim_iconst (-1) dX5_item_23 (by decide +kernel) ?_
    refine sim_ixor dX5_item_24 ?_
    refine sim_goto 29 dX5_item_25 (by decide) ?_
    exact sim_lv (am_leS (am_leN am_leT)) (t_X5_item_29 d (by omega) _ _ _ _ _ _))
theorem q_X5_item : am_Cal m_X5_item 1 2 := ⟨am_mem 857 (w := Cond.code yX5_item cX5_item 2 none) (by decide +kernel) rfl, am_mem 60 (w := Cond.initialized RX5) (by decide +kernel) rfl, fun z => absurd z (by decide), fun _ => am_mem 855 (w := Cond.instanceMethod yX5_item) (by decide +kernel) rfl, fun z => absurd z (by decide), fun _ => am_mem 856 (w := Cond.selects RX5 yX5_item yX5_item) (by decide +kernel) rfl, by decide +kernel, by decide +kernel, Nat.le_of_ble_eq_true rfl⟩
abbrev m_X5_clear : am_M := (yX5_clear, cX5_clear, 1, none, [])
def f_X5_clear (a0 : Nat × Nat) (h : am_H) : am_R := m_gR (some a0) 5 0 h fun o1 => m_gI (some a0) 5 3 h fun v2 => m_sI o1 v2 (0 : Int32) h fun h3 => m_gR (some a0) 5 1 h3 fun o4 => m_gI (some a0) 5 3 h3 fun v5 => m_sI o4 v5 (-1 : Int32) h3 fun h6 => m_gR (some a0) 5 2 h6 fun o7 => m_gI (some a0) 5 3 h6 fun v8 => m_sZ o7 v8 (0 : Int32) h6 fun h9 => m_rt h9 none
theorem k_X5_clear (d : Nat) (hd : 0 ≤ d) (a0 : Nat × Nat) (h : am_H) : am_Con m_X5_clear d [.inr (.inr (some a0))] h (f_X5_clear a0 h) := am_con (by decide +kernel) (Nat.le_of_ble_eq_true rfl) (by
  unfold f_X5_clear
  refine sim_aload_n dX5_clear_0 rfl ?_
  refine sim_gR 5 0 dX5_clear_1 rfl wf_RX5_9 (Nat.le_of_ble_eq_true rfl) rfl (fun o1 => ?_)
  refine sim_aload_n dX5_clear_4 rfl ?_
  refine sim_gI 5 3 dX5_clear_5 rfl wf_RX5_22 (Nat.le_of_ble_eq_true rfl) rfl (fun v2 => ?_)
  refine sim_iconst (0) dX5_clear_8 (by decide +kernel) ?_
  refine sim_sI dX5_clear_9 (fun h3 => ?_)
  refine sim_aload_n dX5_clear_10 rfl ?_
  refine sim_gR 5 1 dX5_clear_11 rfl wf_RX5_15 (Nat.le_of_ble_eq_true rfl) rfl (fun o4 => ?_)
  refine sim_aload_n dX5_clear_14 rfl ?_
  refine sim_gI 5 3 dX5_clear_15 rfl wf_RX5_22 (Nat.le_of_ble_eq_true rfl) rfl (fun v5 => ?_)
  refine sim_iconst (-1) dX5_clear_18 (by decide +kernel) ?_
  refine sim_sI dX5_clear_19 (fun h6 => ?_)
  refine sim_aload_n dX5_clear_20 rfl ?_
  refine sim_gR 5 2 dX5_clear_21 rfl wf_RX5_18 (Nat.le_of_ble_eq_true rfl) rfl (fun o7 => ?_)
  refine sim_aload_n dX5_clear_24 rfl ?_
  refine sim_gI 5 3 dX5_clear_25 rfl wf_RX5_22 (Nat.le_of_ble_eq_true rfl) rfl (fun v8 => ?_)
  refine sim_iconst (0) dX5_clear_28 (by decide +kernel) ?_
  refine sim_sZ dX5_clear_29 (fun h9 => ?_)
  exact sim_vret dX5_clear_30 rfl)
theorem q_X5_clear : am_Cal m_X5_clear 0 2 := ⟨am_mem 844 (w := Cond.code yX5_clear cX5_clear 1 none) (by decide +kernel) rfl, am_mem 60 (w := Cond.initialized RX5) (by decide +kernel) rfl, fun z => absurd z (by decide), fun _ => am_mem 843 (w := Cond.instanceMethod yX5_clear) (by decide +kernel) rfl, fun z => absurd z (by decide), fun _ => am_mem 16 (w := Cond.selects RX5 yX5_clear yX5_clear) (by decide +kernel) rfl, by decide +kernel, by decide +kernel, Nat.le_of_ble_eq_true rfl⟩
abbrev m_X5_mark : am_M := (yX5_mark, cX5_mark, 3, none, [])
def f_X5_mark_140   (h : am_H) : am_R := m_rt h none
theorem t_X5_mark_140 (d : Nat) (hd : 1 ≤ d)   (h : am_H) : Sim m_X5_mark d 140 [none, none, none] [] h (f_X5_mark_140   h) := by
  unfold f_X5_mark_140
  exact sim_vret dX5_mark_140 rfl
def f_X5_mark_103  (a0 : Nat × Nat) (x1 : Int32) (h : am_H) : am_R := if x1 = (124 : Int32) then (m_gR (some a0) 5 0 h fun o22 => m_gI (some a0) 5 3 h fun v23 => m_aI o22 0 v23 h fun v24 => m_gR (some a0) 5 1 h fun o25 => m_gI (some a0) 5 3 h fun v26 => m_aI o25 0 v26 h fun v27 => m_sI o22 v23 (v24 ||| v27) h fun h28 => m_gR (some a0) 5 1 h28 fun o29 => m_gI (some a0) 5 3 h28 fun v30 => m_sI o29 v30 (-1 : Int32) h28 fun h31 => f_X5_mark_140 h31) else (f_X5_mark_140 h)
theorem t_X5_mark_103 (d : Nat) (hd : 1 ≤ d)  (a0 : Nat × Nat) (x1 : Int32) (h : am_H) : Sim m_X5_mark d 103 [some (.inr (.inr (some a0))), some (.inl x1), none] [] h (f_X5_mark_103  a0 x1 h) := by
  unfold f_X5_mark_103
  refine sim_iload_n dX5_mark_103 rfl ?_
  refine sim_bipush (124) dX5_mark_104 (by decide +kernel) ?_
  refine sim_ic_ne 140 dX5_mark_106 (by decide) (fun c => ?_) (fun c => ?_)
  · exact sim_lv (am_leN (am_leN (am_leN am_leT))) (t_X5_mark_140 d (by omega) _)
  · refine sim_aload_n dX5_mark_109 rfl ?_
    refine sim_gR 5 0 dX5_mark_110 rfl wf_RX5_9 (Nat.le_of_ble_eq_true rfl) rfl (fun o22 => ?_)
    refine sim_aload_n dX5_mark_113 rfl ?_
    refine sim_gI 5 3 dX5_mark_114 rfl wf_RX5_22 (Nat.le_of_ble_eq_true rfl) rfl (fun v23 => ?_)
    refine sim_dup2 dX5_mark_117 ?_
    refine sim_aI dX5_mark_118 (fun v24 => ?_)
    refine sim_aload_n dX5_mark_119 rfl ?_
    refine sim_gR 5 1 dX5_mark_120 rfl wf_RX5_15 (Nat.le_of_ble_eq_true rfl) rfl (fun o25 => ?_)
    refine sim_aload_n dX5_mark_123 rfl ?_
    refine sim_gI 5 3 dX5_mark_124 rfl wf_RX5_22 (Nat.le_of_ble_eq_true rfl) rfl (fun v26 => ?_)
    refine sim_aI dX5_mark_127 (fun v27 => ?_)
    refine sim_ior dX5_mark_128 ?_
    refine sim_sI dX5_mark_129 (fun h28 => ?_)
    refine sim_aload_n dX5_mark_130 rfl ?_
    refine sim_gR 5 1 dX5_mark_131 rfl wf_RX5_15 (Nat.le_of_ble_eq_true rfl) rfl (fun o29 => ?_)
    refine sim_aload_n dX5_mark_134 rfl ?_
    refine sim_gI 5 3 dX5_mark_135 rfl wf_RX5_22 (Nat.le_of_ble_eq_true rfl) rfl (fun v30 => ?_)
    refine sim_iconst (-1) dX5_mark_138 (by decide +kernel) ?_
    refine sim_sI dX5_mark_139 (fun h31 => ?_)
    exact sim_lv (am_leN (am_leN (am_leN am_leT))) (t_X5_mark_140 d (by omega) _)
def f_X5_mark_67  (a0 : Nat × Nat) (x1 : Int32) (h : am_H) : am_R := if x1 = (41 : Int32) then (m_gI (some a0) 5 3 h fun v13 => if v13 ≤ 0 then (f_X5_mark_103 a0 x1 h) else (m_ao (some a0) 5 fun a16 => m_bI (f_X5_end a16 h) fun h14 v15 => m_gI (some a0) 5 3 h14 fun v17 => m_pI (some a0) 5 3 (v17 - (1 : Int32)) h14 fun h18 => m_ao (some a0) 5 fun a21 => m_bV (f_X5_item a21 v15 h18) fun h19 => f_X5_mark_140 h19)) else (f_X5_mark_103 a0 x1 h)
theorem t_X5_mark_67 (d : Nat) (hd : 1 ≤ d)  (a0 : Nat × Nat) (x1 : Int32) (h : am_H) : Sim m_X5_mark d 67 [some (.inr (.inr (some a0))), some (.inl x1), none] [] h (f_X5_mark_67  a0 x1 h) := by
  unfold f_X5_mark_67
  refine sim_iload_n dX5_mark_67 rfl ?_
  refine sim_bipush (41) dX5_mark_68 (by decide +kernel) ?_
  refine sim_ic_ne 103 dX5_mark_70 (by decide) (fun c => ?_) (fun c => ?_)
  · exact sim_lv (am_leS (am_leS (am_leN am_leT))) (t_X5_mark_103 d (by omega) _ _ _)
  · refine sim_aload_n dX5_mark_73 rfl ?_
    refine sim_gI 5 3 dX5_mark_74 rfl wf_RX5_22 (Nat.le_of_ble_eq_true rfl) rfl (fun v13 => ?_)
    refine sim_if_le 103 dX5_mark_77 (by decide) (fun c => ?_) (fun c => ?_)
    · exact sim_lv (am_leS (am_leS (am_leN am_leT))) (t_X5_mark_103 d (by omega) _ _ _)
    · refine sim_aload_n dX5_mark_80 rfl ?_
      refine sim_ao0 (fun a16 e => ?_)
      refine sim_virt (d - 1) e dX5_mark_81 (k_X5_end (d - 1) (by omega) _  _) q_X5_end rfl rfl wm_RX5_29 rfl rfl (by omega) (Nat.le_of_ble_eq_true rfl) am_nI (am_rI fun h14 v15 => ?_) am_eI
      refine sim_istore_n dX5_mark_84 (Nat.le_of_ble_eq_true rfl) ?_
      refine sim_aload_n dX5_mark_85 rfl ?_
      refine sim_dup_r dX5_mark_86 ?_
      refine sim_gI 5 3 dX5_mark_87 rfl wf_RX5_22 (Nat.le_of_ble_eq_true rfl) rfl (fun v17 => ?_)
      refine sim_iconst (1) dX5_mark_90 (by decide +kernel) ?_
      refine sim_isub dX5_mark_91 ?_
      refine sim_pI 5 3 dX5_mark_92 rfl wf_RX5_22 (Nat.le_of_ble_eq_true rfl) rfl (Or.inl rfl) rfl (fun h18 => ?_)
      refine sim_aload_n dX5_mark_95 rfl ?_
      refine sim_iload_n dX5_mark_96 rfl ?_
      refine sim_ao1 (fun a21 e => ?_)
      refine sim_virt (d - 1) e dX5_mark_97 (k_X5_item (d - 1) (by omega) _ _ _) q_X5_item rfl rfl wm_RX5_33 rfl rfl (by omega) (Nat.le_of_ble_eq_true rfl) am_nV (am_rV fun h19 => ?_) am_eV
      refine sim_goto 140 dX5_mark_100 (by decide) ?_
      exact sim_lv (am_leN (am_leN (am_leN am_leT))) (t_X5_mark_140 d (by omega) _)
def f_X5_mark_31  (s0 : Int32) (s1 : Int32) (s2 : Option (Nat × Nat)) (h : am_H) : am_R := m_sZ s2 s1 s0 h fun h12 => f_X5_mark_140 h12
theorem t_X5_mark_31 (d : Nat) (hd : 1 ≤ d)  (s0 : Int32) (s1 : Int32) (s2 : Option (Nat × Nat)) (h : am_H) : Sim m_X5_mark d 31 [none, none, none] [.inl s0, .inl s1, .inr (.inr s2)] h (f_X5_mark_31  s0 s1 s2 h) := by
  unfold f_X5_mark_31
  refine sim_sZ dX5_mark_31 (fun h12 => ?_)
  refine sim_goto 140 dX5_mark_32 (by decide) ?_
  exact sim_lv (am_leN (am_leN (am_leN am_leT))) (t_X5_mark_140 d (by omega) _)
def f_X5_mark (a0 : Nat × Nat) (x1 : Int32) (h : am_H) : am_R := if x1 = (33 : Int32) then (m_gR (some a0) 5 2 h fun o7 => m_gI (some a0) 5 3 h fun v8 => m_gR (some a0) 5 2 h fun o9 => m_gI (some a0) 5 3 h fun v10 => m_aI o9 1 v10 h fun v11 => if v11 = 0 then (f_X5_mark_31 (1 : Int32) v8 o7 h) else (f_X5_mark_31 (0 : Int32) v8 o7 h)) else (if x1 = (40 : Int32) then (m_gI (some a0) 5 3 h fun v1 => if (60 : Int32) ≤ v1 then (f_X5_mark_67 a0 x1 h) else (m_gI (some a0) 5 3 h fun v2 => m_pI (some a0) 5 3 (v2 + (1 : Int32)) h fun h3 => m_ao (some a0) 5 fun a6 => m_bV (f_X5_clear a6 h3) fun h4 => f_X5_mark_140 h4)) else (f_X5_mark_67 a0 x1 h))
theorem k_X5_mark (d : Nat) (hd : 1 ≤ d) (a0 : Nat × Nat) (x1 : Int32) (h : am_H) : am_Con m_X5_mark d [.inr (.inr (some a0)), .inl x1] h (f_X5_mark a0 x1 h) := am_con (by decide +kernel) (Nat.le_of_ble_eq_true rfl) (by
  unfold f_X5_mark
  refine sim_iload_n dX5_mark_0 rfl ?_
  refine sim_bipush (33) dX5_mark_1 (by decide +kernel) ?_
  refine sim_ic_ne 35 dX5_mark_3 (by decide) (fun c => ?_) (fun c => ?_)
  · refine sim_iload_n dX5_mark_35 rfl ?_
    refine sim_bipush (40) dX5_mark_36 (by decide +kernel) ?_
    refine sim_ic_ne 67 dX5_mark_38 (by decide) (fun c => ?_) (fun c => ?_)
    · exact sim_lv (am_leS (am_leS (am_leN am_leT))) (t_X5_mark_67 d (by omega) _ _ _)
    · refine sim_aload_n dX5_mark_41 rfl ?_
      refine sim_gI 5 3 dX5_mark_42 rfl wf_RX5_22 (Nat.le_of_ble_eq_true rfl) rfl (fun v1 => ?_)
      refine sim_bipush (60) dX5_mark_45 (by decide +kernel) ?_
      refine sim_ic_ge 67 dX5_mark_47 (by decide) (fun c => ?_) (fun c => ?_)
      · exact sim_lv (am_leS (am_leS (am_leN am_leT))) (t_X5_mark_67 d (by omega) _ _ _)
      · refine sim_aload_n dX5_mark_50 rfl ?_
        refine sim_dup_r dX5_mark_51 ?_
        refine sim_gI 5 3 dX5_mark_52 rfl wf_RX5_22 (Nat.le_of_ble_eq_true rfl) rfl (fun v2 => ?_)
        refine sim_iconst (1) dX5_mark_55 (by decide +kernel) ?_
        refine sim_iadd dX5_mark_56 ?_
        refine sim_pI 5 3 dX5_mark_57 rfl wf_RX5_22 (Nat.le_of_ble_eq_true rfl) rfl (Or.inl rfl) rfl (fun h3 => ?_)
        refine sim_aload_n dX5_mark_60 rfl ?_
        refine sim_ao0 (fun a6 e => ?_)
        refine sim_virt (d - 1) e dX5_mark_61 (k_X5_clear (d - 1) (by omega) _  _) q_X5_clear rfl rfl wm_RX5_26 rfl rfl (by omega) (Nat.le_of_ble_eq_true rfl) am_nV (am_rV fun h4 => ?_) am_eV
        refine sim_goto 140 dX5_mark_64 (by decide) ?_
        exact sim_lv (am_leN (am_leN (am_leN am_leT))) (t_X5_mark_140 d (by omega) _)
  · refine sim_aload_n dX5_mark_6 rfl ?_
    refine sim_gR 5 2 dX5_mark_7 rfl wf_RX5_18 (Nat.le_of_ble_eq_true rfl) rfl (fun o7 => ?_)
    refine sim_aload_n dX5_mark_10 rfl ?_
    refine sim_gI 5 3 dX5_mark_11 rfl wf_RX5_22 (Nat.le_of_ble_eq_true rfl) rfl (fun v8 => ?_)
    refine sim_aload_n dX5_mark_14 rfl ?_
    refine sim_gR 5 2 dX5_mark_15 rfl wf_RX5_18 (Nat.le_of_ble_eq_true rfl) rfl (fun o9 => ?_)
    refine sim_aload_n dX5_mark_18 rfl ?_
    refine sim_gI 5 3 dX5_mark_19 rfl wf_RX5_22 (Nat.le_of_ble_eq_true rfl) rfl (fun v10 => ?_)
    refine sim_aZ dX5_mark_22 (fun v11 => ?_)
    refine sim_if_ne 30 dX5_mark_23 (by decide) (fun c => ?_) (fun c => ?_)
    · refine sim_iconst (0) dX5_mark_30 (by decide +kernel) ?_
      exact sim_lv (am_leN (am_leN (am_leN am_leT))) (t_X5_mark_31 d (by omega) _ _ _ _)
    · refine sim_iconst (1) dX5_mark_26 (by decide +kernel) ?_
      refine sim_goto 31 dX5_mark_27 (by decide) ?_
      exact sim_lv (am_leN (am_leN (am_leN am_leT))) (t_X5_mark_31 d (by omega) _ _ _ _))
theorem q_X5_mark : am_Cal m_X5_mark 1 2 := ⟨am_mem 849 (w := Cond.code yX5_mark cX5_mark 3 none) (by decide +kernel) rfl, am_mem 60 (w := Cond.initialized RX5) (by decide +kernel) rfl, fun z => absurd z (by decide), fun _ => am_mem 847 (w := Cond.instanceMethod yX5_mark) (by decide +kernel) rfl, fun z => absurd z (by decide), fun _ => am_mem 848 (w := Cond.selects RX5 yX5_mark yX5_mark) (by decide +kernel) rfl, by decide +kernel, by decide +kernel, Nat.le_of_ble_eq_true rfl⟩
abbrev m_X5_start : am_M := (yX5_start, cX5_start, 1, none, [])
def f_X5_start (a0 : Nat × Nat) (h : am_H) : am_R := m_pI (some a0) 5 3 (0 : Int32) h fun h1 => m_ao (some a0) 5 fun a4 => m_bV (f_X5_clear a4 h1) fun h2 => m_rt h2 none
theorem k_X5_start (d : Nat) (hd : 1 ≤ d) (a0 : Nat × Nat) (h : am_H) : am_Con m_X5_start d [.inr (.inr (some a0))] h (f_X5_start a0 h) := am_con (by decide +kernel) (Nat.le_of_ble_eq_true rfl) (by
  unfold f_X5_start
  refine sim_aload_n dX5_start_0 rfl ?_
  refine sim_iconst (0) dX5_start_1 (by decide +kernel) ?_
  refine sim_pI 5 3 dX5_start_2 rfl wf_RX5_22 (Nat.le_of_ble_eq_true rfl) rfl (Or.inl rfl) rfl (fun h1 => ?_)
  refine sim_aload_n dX5_start_5 rfl ?_
  refine sim_ao0 (fun a4 e => ?_)
  refine sim_virt (d - 1) e dX5_start_6 (k_X5_clear (d - 1) (by omega) _  _) q_X5_clear rfl rfl wm_RX5_26 rfl rfl (by omega) (Nat.le_of_ble_eq_true rfl) am_nV (am_rV fun h2 => ?_) am_eV
  exact sim_vret dX5_start_9 rfl)
theorem q_X5_start : am_Cal m_X5_start 0 2 := ⟨am_mem 840 (w := Cond.code yX5_start cX5_start 1 none) (by decide +kernel) rfl, am_mem 60 (w := Cond.initialized RX5) (by decide +kernel) rfl, fun z => absurd z (by decide), fun _ => am_mem 838 (w := Cond.instanceMethod yX5_start) (by decide +kernel) rfl, fun z => absurd z (by decide), fun _ => am_mem 839 (w := Cond.selects RX5 yX5_start yX5_start) (by decide +kernel) rfl, by decide +kernel, by decide +kernel, Nat.le_of_ble_eq_true rfl⟩
abbrev m_X10_found : am_M := (yX10_found, cX10_found, 6, some .int, [])
def f_X10_found_92 (rc22 : Nat × Nat → Int32 → Int32 → Option (Nat × Nat) → Int32 → am_H → am_R) (a0 : Nat × Nat) (x1 : Int32) (x2 : Int32) (x3 : Option (Nat × Nat)) (x4 : Int32) (h : am_H) : am_R := rc22 a0 x1 x2 x3 (x4 + 1) h
theorem t_X10_found_92 (d : Nat) (hd : 5 ≤ d) (rc22 : Nat × Nat → Int32 → Int32 → Option (Nat × Nat) → Int32 → am_H → am_R) (hrc22 : ∀ a0 x1 x2 x3 x4 h, Sim m_X10_found d 22 [some (.inr (.inr (some a0))), some (.inl x1), some (.inl x2), some (.inr (.inr x3)), some (.inl x4), none] [] h (rc22 a0 x1 x2 x3 x4 h)) (a0 : Nat × Nat) (x1 : Int32) (x2 : Int32) (x3 : Option (Nat × Nat)) (x4 : Int32) (h : am_H) : Sim m_X10_found d 92 [some (.inr (.inr (some a0))), some (.inl x1), some (.inl x2), some (.inr (.inr x3)), some (.inl x4), none] [] h (f_X10_found_92 rc22 a0 x1 x2 x3 x4 h) := by
  unfold f_X10_found_92
  refine sim_iinc (1) dX10_found_92 rfl (by decide +kernel) (Nat.le_of_ble_eq_true rfl) ?_
  refine sim_goto 22 dX10_found_95 (by decide) ?_
  exact sim_lv (am_leS (am_leS (am_leS (am_leS (am_leS (am_leN am_leT)))))) (hrc22 _ _ _ _ _ _)
def f_X10_found_22  : Nat → Nat × Nat → Int32 → Int32 → Option (Nat × Nat) → Int32 → am_H → am_R
  | 0, _, _, _, _, _, _ => none
  | n + 1, a0, x1, x2, x3, x4, h => m_gR (some a0) 10 8 h fun o10 => m_gI o10 8 1 h fun v11 => if v11 ≤ x4 then (m_gR (some a0) 10 9 h fun o12 => m_ao o12 5 fun a15 => m_bI (f_X5_end a15 h) fun h13 v14 => m_ao (some a0) 10 fun a18 => m_bI (f_X10_worksSeenBy a18 x1 h13) fun h16 v17 => m_ri h16 (v14 &&& v17)) else (m_gR (some a0) 10 8 h fun o19 => m_gR o19 8 0 h fun o20 => m_aI o20 2 x4 h fun v21 => m_ao x3 4 fun a24 => m_bI (f_X4_takes a24 v21 h) fun h22 v23 => m_gR (some a0) 10 9 h22 fun o25 => m_ao o25 5 fun a28 => m_bV (f_X5_mark a28 v21 h22) fun h26 => m_ao x3 4 fun a31 => m_bI (f_X4_hasItem a31 v21 h26) fun h29 v30 => if v30 = 0 then (f_X10_found_92 (f_X10_found_22  n) a0 x1 x2 x3 x4 h29) else (m_gR (some a0) 10 9 h29 fun o32 => m_gI x3 4 3 h29 fun v33 => m_gI x3 4 4 h29 fun v34 => m_ao (some a0) 10 fun a37 => m_bI (f_X10_worksOfItem a37 v33 v34 x1 x2 h29) fun h35 v36 => m_ao o32 5 fun a40 => m_bV (f_X5_item a40 v36 h35) fun h38 => f_X10_found_92 (f_X10_found_22  n) a0 x1 x2 x3 x4 h38))
theorem t_X10_found_22 (d : Nat) (hd : 5 ≤ d)  : ∀ (n : Nat) (a0 : Nat × Nat) (x1 : Int32) (x2 : Int32) (x3 : Option (Nat × Nat)) (x4 : Int32) (h : am_H), Sim m_X10_found d 22 [some (.inr (.inr (some a0))), some (.inl x1), some (.inl x2), some (.inr (.inr x3)), some (.inl x4), none] [] h (f_X10_found_22  n a0 x1 x2 x3 x4 h) := by
  intro n
  induction n with
  | zero => intros; exact sim_none
  | succ n hrc22 =>
    intro a0 x1 x2 x3 x4 h
    rw [f_X10_found_22]
    refine sim_iload dX10_found_22 rfl ?_
    refine sim_aload_n dX10_found_24 rfl ?_
    refine sim_gR 10 8 dX10_found_25 rfl wf_RX10_41 (Nat.le_of_ble_eq_true rfl) rfl (fun o10 => ?_)
    refine sim_gI 8 1 dX10_found_28 rfl wf_RX10_263 (Nat.le_of_ble_eq_true rfl) rfl (fun v11 => ?_)
    refine sim_ic_ge 98 dX10_found_31 (by decide) (fun c => ?_) (fun c => ?_)
    · refine sim_aload_n dX10_found_98 rfl ?_
      refine sim_gR 10 9 dX10_found_99 rfl wf_RX10_48 (Nat.le_of_ble_eq_true rfl) rfl (fun o12 => ?_)
      refine sim_ao0 (fun a15 e => ?_)
      refine sim_virt (d - 1) e dX10_found_102 (k_X5_end (d - 1) (by omega) _  _) q_X5_end rfl rfl wm_RX10_430 rfl rfl (by omega) (Nat.le_of_ble_eq_true rfl) am_nI (am_rI fun h13 v14 => ?_) am_eI
      refine sim_aload_n dX10_found_105 rfl ?_
      refine sim_iload_n dX10_found_106 rfl ?_
      refine sim_ao1 (fun a18 e => ?_)
      refine sim_virt (d - 1) e dX10_found_107 (k_X10_worksSeenBy (d - 1) (by omega) _ _ _) q_X10_worksSeenBy rfl rfl wm_RX10_433 rfl rfl (by omega) (Nat.le_of_ble_eq_true rfl) am_nI (am_rI fun h16 v17 => ?_) am_eI
      refine sim_iand dX10_found_110 ?_
      exact sim_iret dX10_found_111 rfl
    · refine sim_aload_n dX10_found_34 rfl ?_
      refine sim_gR 10 8 dX10_found_35 rfl wf_RX10_41 (Nat.le_of_ble_eq_true rfl) rfl (fun o19 => ?_)
      refine sim_gR 8 0 dX10_found_38 rfl wf_RX10_403 (Nat.le_of_ble_eq_true rfl) rfl (fun o20 => ?_)
      refine sim_iload dX10_found_41 rfl ?_
      refine sim_aC dX10_found_43 (fun v21 => ?_)
      refine sim_istore dX10_found_44 (Nat.le_of_ble_eq_true rfl) ?_
      refine sim_aload_n dX10_found_46 rfl ?_
      refine sim_iload dX10_found_47 rfl ?_
      refine sim_ao1 (fun a24 e => ?_)
      refine sim_virt (d - 1) e dX10_found_49 (k_X4_takes (d - 1) (by omega) _ _ _) q_X4_takes rfl rfl wm_RX10_407 rfl rfl (by omega) (Nat.le_of_ble_eq_true rfl) am_nI (am_rI fun h22 v23 => ?_) am_eI
      refine sim_pop_i dX10_found_52 ?_
      refine sim_aload_n dX10_found_53 rfl ?_
      refine sim_gR 10 9 dX10_found_54 rfl wf_RX10_48 (Nat.le_of_ble_eq_true rfl) rfl (fun o25 => ?_)
      refine sim_iload dX10_found_57 rfl ?_
      refine sim_ao1 (fun a28 e => ?_)
      refine sim_virt (d - 1) e dX10_found_59 (k_X5_mark (d - 1) (by omega) _ _ _) q_X5_mark rfl rfl wm_RX10_410 rfl rfl (by omega) (Nat.le_of_ble_eq_true rfl) am_nV (am_rV fun h26 => ?_) am_eV
      refine sim_aload_n dX10_found_62 rfl ?_
      refine sim_iload dX10_found_63 rfl ?_
      refine sim_ao1 (fun a31 e => ?_)
      refine sim_virt (d - 1) e dX10_found_65 (k_X4_hasItem (d - 1) (by omega) _ _ _) q_X4_hasItem rfl rfl wm_RX10_413 rfl rfl (by omega) (Nat.le_of_ble_eq_true rfl) am_nI (am_rI fun h29 v30 => ?_) am_eI
      refine sim_if_eq 92 dX10_found_68 (by decide) (fun c => ?_) (fun c => ?_)
      · exact sim_lv (am_leS (am_leS (am_leS (am_leS (am_leS (am_leN am_leT)))))) (t_X10_found_92 d (by omega) _ hrc22 _ _ _ _ _ _)
      · refine sim_aload_n dX10_found_71 rfl ?_
        refine sim_gR 10 9 dX10_found_72 rfl wf_RX10_48 (Nat.le_of_ble_eq_true rfl) rfl (fun o32 => ?_)
        refine sim_aload_n dX10_found_75 rfl ?_
        refine sim_aload_n dX10_found_76 rfl ?_
        refine sim_gI 4 3 dX10_found_77 rfl wf_RX10_416 (Nat.le_of_ble_eq_true rfl) rfl (fun v33 => ?_)
        refine sim_aload_n dX10_found_80 rfl ?_
        refine sim_gI 4 4 dX10_found_81 rfl wf_RX10_420 (Nat.le_of_ble_eq_true rfl) rfl (fun v34 => ?_)
        refine sim_iload_n dX10_found_84 rfl ?_
        refine sim_iload_n dX10_found_85 rfl ?_
        refine sim_ao4 (fun a37 e => ?_)
        refine sim_virt (d - 1) e dX10_found_86 (k_X10_worksOfItem (d - 1) (by omega) _ _ _ _ _ _) q_X10_worksOfItem rfl rfl wm_RX10_423 rfl rfl (by omega) (Nat.le_of_ble_eq_true rfl) am_nI (am_rI fun h35 v36 => ?_) am_eI
        refine sim_ao1 (fun a40 e => ?_)
        refine sim_virt (d - 1) e dX10_found_89 (k_X5_item (d - 1) (by omega) _ _ _) q_X5_item rfl rfl wm_RX10_427 rfl rfl (by omega) (Nat.le_of_ble_eq_true rfl) am_nV (am_rV fun h38 => ?_) am_eV
        exact sim_lv (am_leS (am_leS (am_leS (am_leS (am_leS (am_leN am_leT)))))) (t_X10_found_92 d (by omega) _ hrc22 _ _ _ _ _ _)
def f_X10_found (a0 : Nat × Nat) (x1 : Int32) (x2 : Int32) (h : am_H) : am_R := m_gR (some a0) 10 8 h fun o1 => m_gR o1 8 2 h fun o2 => m_ao o2 4 fun a5 => m_bV (f_X4_start a5 h) fun h3 => m_gR (some a0) 10 9 h3 fun o6 => m_ao o6 5 fun a9 => m_bV (f_X5_start a9 h3) fun h7 => f_X10_found_22 5000 a0 x1 x2 o2 (0 : Int32) h7
theorem k_X10_found (d : Nat) (hd : 5 ≤ d) (a0 : Nat × Nat) (x1 : Int32) (x2 : Int32) (h : am_H) : am_Con m_X10_found d [.inr (.inr (some a0)), .inl x1, .inl x2] h (f_X10_found a0 x1 x2 h) := am_con (by decide +kernel) (Nat.le_of_ble_eq_true rfl) (by
  unfold f_X10_found
  refine sim_aload_n dX10_found_0 rfl ?_
  refine sim_gR 10 8 dX10_found_1 rfl wf_RX10_41 (Nat.le_of_ble_eq_true rfl) rfl (fun o1 => ?_)
  refine sim_gR 8 2 dX10_found_4 rfl wf_RX10_393 (Nat.le_of_ble_eq_true rfl) rfl (fun o2 => ?_)
  refine sim_astore_n dX10_found_7 (Nat.le_of_ble_eq_true rfl) ?_
  refine sim_aload_n dX10_found_8 rfl ?_
  refine sim_ao0 (fun a5 e => ?_)
  refine sim_virt (d - 1) e dX10_found_9 (k_X4_start (d - 1) (by omega) _  _) q_X4_start rfl rfl wm_RX10_397 rfl rfl (by omega) (Nat.le_of_ble_eq_true rfl) am_nV (am_rV fun h3 => ?_) am_eV
  refine sim_aload_n dX10_found_12 rfl ?_
  refine sim_gR 10 9 dX10_found_13 rfl wf_RX10_48 (Nat.le_of_ble_eq_true rfl) rfl (fun o6 => ?_)
  refine sim_ao0 (fun a9 e => ?_)
  refine sim_virt (d - 1) e dX10_found_16 (k_X5_start (d - 1) (by omega) _  _) q_X5_start rfl rfl wm_RX10_402 rfl rfl (by omega) (Nat.le_of_ble_eq_true rfl) am_nV (am_rV fun h7 => ?_) am_eV
  refine sim_iconst (0) dX10_found_19 (by decide +kernel) ?_
  refine sim_istore dX10_found_20 (Nat.le_of_ble_eq_true rfl) ?_
  exact sim_lv (am_leS (am_leS (am_leS (am_leS (am_leS (am_leN am_leT)))))) (t_X10_found_22 d (by omega) _ _ _ _ _ _ _))
theorem q_X10_found : am_Cal m_X10_found 2 2 := ⟨am_mem 835 (w := Cond.code yX10_found cX10_found 6 (some .int)) (by decide +kernel) rfl, am_mem 56 (w := Cond.initialized RX10) (by decide +kernel) rfl, fun z => absurd z (by decide), fun _ => am_mem 834 (w := Cond.instanceMethod yX10_found) (by decide +kernel) rfl, fun z => absurd z (by decide), fun _ => am_mem 15 (w := Cond.selects RX10 yX10_found yX10_found) (by decide +kernel) rfl, by decide +kernel, by decide +kernel, Nat.le_of_ble_eq_true rfl⟩
abbrev m_X10_result : am_M := (yX10_result, cX10_result, 5, some .int, [])
def f_X10_result_65 (rc33 : Nat × Nat → Int32 → Int32 → Int32 → am_H → am_R) (a0 : Nat × Nat) (x2 : Int32) (x3 : Int32) (x4 : Int32) (h : am_H) : am_R := rc33 a0 x2 x3 (x4 + 1) h
theorem t_X10_result_65 (d : Nat) (hd : 7 ≤ d) (rc33 : Nat × Nat → Int32 → Int32 → Int32 → am_H → am_R) (hrc33 : ∀ a0 x2 x3 x4 h, Sim m_X10_result d 33 [some (.inr (.inr (some a0))), none, some (.inl x2), some (.inl x3), some (.inl x4)] [] h (rc33 a0 x2 x3 x4 h)) (a0 : Nat × Nat) (x2 : Int32) (x3 : Int32) (x4 : Int32) (h : am_H) : Sim m_X10_result d 65 [some (.inr (.inr (some a0))), none, some (.inl x2), some (.inl x3), some (.inl x4)] [] h (f_X10_result_65 rc33 a0 x2 x3 x4 h) := by
  unfold f_X10_result_65
  refine sim_iinc (1) dX10_result_65 rfl (by decide +kernel) (Nat.le_of_ble_eq_true rfl) ?_
  refine sim_goto 33 dX10_result_68 (by decide) ?_
  exact sim_lv (am_leS (am_leN (am_leS (am_leS (am_leS am_leT))))) (hrc33 _ _ _ _ _)
def f_X10_result_33  : Nat → Nat × Nat → Int32 → Int32 → Int32 → am_H → am_R
  | 0, _, _, _, _, _ => none
  | n + 1, a0, x2, x3, x4, h => m_gI (some a0) 10 4 h fun v9 => if v9 ≤ x4 then (m_ri h (-1 : Int32)) else (m_bI (f_X10_has x3 x4 h) fun h10 v11 => if v11 = 0 then (f_X10_result_65 (f_X10_result_33  n) a0 x2 x3 x4 h10) else (m_ao (some a0) 10 fun a14 => m_bI (f_X10_countAheadOf a14 x4 x3 h10) fun h12 v13 => if v13 = x2 then (m_ri h12 x4) else (f_X10_result_65 (f_X10_result_33  n) a0 x2 x3 x4 h12)))
theorem t_X10_result_33 (d : Nat) (hd : 7 ≤ d)  : ∀ (n : Nat) (a0 : Nat × Nat) (x2 : Int32) (x3 : Int32) (x4 : Int32) (h : am_H), Sim m_X10_result d 33 [some (.inr (.inr (some a0))), none, some (.inl x2), some (.inl x3), some (.inl x4)] [] h (f_X10_result_33  n a0 x2 x3 x4 h) := by
  intro n
  induction n with
  | zero => intros; exact sim_none
  | succ n hrc33 =>
    intro a0 x2 x3 x4 h
    rw [f_X10_result_33]
    refine sim_iload dX10_result_33 rfl ?_
    refine sim_aload_n dX10_result_35 rfl ?_
    refine sim_gI 10 4 dX10_result_36 rfl wf_RX10_104 (Nat.le_of_ble_eq_true rfl) rfl (fun v9 => ?_)
    refine sim_ic_ge 71 dX10_result_39 (by decide) (fun c => ?_) (fun c => ?_)
    · refine sim_iconst (-1) dX10_result_71 (by decide +kernel) ?_
      exact sim_iret dX10_result_72 rfl
    · refine sim_iload_n dX10_result_42 rfl ?_
      refine sim_iload dX10_result_43 rfl ?_
      refine sim_static (d - 1) dX10_result_45 (k_X10_has (d - 1) (by omega) _ _ _) q_X10_has wm_RX10_91 rfl rfl (by omega) (Nat.le_of_ble_eq_true rfl) am_nI (am_rI fun h10 v11 => ?_) am_eI
      refine sim_if_eq 65 dX10_result_48 (by decide) (fun c => ?_) (fun c => ?_)
      · exact sim_lv (am_leS (am_leN (am_leS (am_leS (am_leS am_leT))))) (t_X10_result_65 d (by omega) _ hrc33 _ _ _ _ _)
      · refine sim_aload_n dX10_result_51 rfl ?_
        refine sim_iload dX10_result_52 rfl ?_
        refine sim_iload_n dX10_result_54 rfl ?_
        refine sim_ao2 (fun a14 e => ?_)
        refine sim_virt (d - 1) e dX10_result_55 (k_X10_countAheadOf (d - 1) (by omega) _ _ _ _) q_X10_countAheadOf rfl rfl wm_RX10_283 rfl rfl (by omega) (Nat.le_of_ble_eq_true rfl) am_nI (am_rI fun h12 v13 => ?_) am_eI
        refine sim_iload_n dX10_result_58 rfl ?_
        refine sim_ic_ne 65 dX10_result_59 (by decide) (fun c => ?_) (fun c => ?_)
        · exact sim_lv (am_leS (am_leN (am_leS (am_leS (am_leS am_leT))))) (t_X10_result_65 d (by omega) _ hrc33 _ _ _ _ _)
        · refine sim_iload dX10_result_62 rfl ?_
          exact sim_iret dX10_result_64 rfl
def f_X10_result (a0 : Nat × Nat) (x1 : Int32) (x2 : Int32) (h : am_H) : am_R := m_bV (f_X10_checkFace x1 h) fun h1 => if 0 ≤ x2 then (m_ao (some a0) 10 fun a5 => m_bV (f_X10_checkQuery a5 h1) fun h3 => m_ao (some a0) 10 fun a8 => m_bI (f_X10_found a8 x1 (0 : Int32) h3) fun h6 v7 => f_X10_result_33 5000 a0 x2 v7 (0 : Int32) h6) else (m_ex h1 0)
theorem k_X10_result (d : Nat) (hd : 7 ≤ d) (a0 : Nat × Nat) (x1 : Int32) (x2 : Int32) (h : am_H) : am_Con m_X10_result d [.inr (.inr (some a0)), .inl x1, .inl x2] h (f_X10_result a0 x1 x2 h) := am_con (by decide +kernel) (Nat.le_of_ble_eq_true rfl) (by
  unfold f_X10_result
  refine sim_iload_n dX10_result_0 rfl ?_
  refine sim_static (d - 1) dX10_result_1 (k_X10_checkFace (d - 1) (by omega) _ _) q_X10_checkFace wm_RX10_99 rfl rfl (by omega) (Nat.le_of_ble_eq_true rfl) am_nV (am_rV fun h1 => ?_) am_eV
  refine sim_iload_n dX10_result_4 rfl ?_
  refine sim_if_ge 19 dX10_result_5 (by decide) (fun c => ?_) (fun c => ?_)
  · refine sim_aload_n dX10_result_19 rfl ?_
    refine sim_ao0 (fun a5 e => ?_)
    refine sim_virt (d - 1) e dX10_result_20 (k_X10_checkQuery (d - 1) (by omega) _  _) q_X10_checkQuery rfl rfl wm_RX10_274 rfl rfl (by omega) (Nat.le_of_ble_eq_true rfl) am_nV (am_rV fun h3 => ?_) am_eV
    refine sim_aload_n dX10_result_23 rfl ?_
    refine sim_iload_n dX10_result_24 rfl ?_
    refine sim_iconst (0) dX10_result_25 (by decide +kernel) ?_
    refine sim_ao2 (fun a8 e => ?_)
    refine sim_virt (d - 1) e dX10_result_26 (k_X10_found (d - 1) (by omega) _ _ _ _) q_X10_found rfl rfl wm_RX10_277 rfl rfl (by omega) (Nat.le_of_ble_eq_true rfl) am_nI (am_rI fun h6 v7 => ?_) am_eI
    refine sim_istore_n dX10_result_29 (Nat.le_of_ble_eq_true rfl) ?_
    refine sim_iconst (0) dX10_result_30 (by decide +kernel) ?_
    refine sim_istore dX10_result_31 (Nat.le_of_ble_eq_true rfl) ?_
    exact sim_lv (am_leS (am_leN (am_leS (am_leS (am_leS am_leT))))) (t_X10_result_33 d (by omega) _ _ _ _ _ _)
  · exact sim_throwW 0 (by decide) dX10_result_8 dX10_result_11 dX10_result_12 dX10_result_15 dX10_result_18 wx_RX10_162 wy_0 ws_RX10_281 at_RX10_166 gd_RX10_166 (by omega) (Nat.le_of_ble_eq_true rfl))
theorem q_X10_result : am_Cal m_X10_result 2 2 := ⟨am_mem 882 (w := Cond.code yX10_result cX10_result 5 (some .int)) (by decide +kernel) rfl, am_mem 56 (w := Cond.initialized RX10) (by decide +kernel) rfl, fun z => absurd z (by decide), fun _ => am_mem 880 (w := Cond.instanceMethod yX10_result) (by decide +kernel) rfl, fun z => absurd z (by decide), fun _ => am_mem 881 (w := Cond.selects RX10 yX10_result yX10_result) (by decide +kernel) rfl, by decide +kernel, by decide +kernel, Nat.le_of_ble_eq_true rfl⟩
abbrev m_L_result : am_M := (yL_result, cL_result, 5, some .int, [(0, 10, 13, 21), (0, 10, 17, 13)])
def f_L_result (x0 : Option (Nat × Nat)) (x1 : Int32) (x2 : Int32) (x3 : Option (Nat × Nat)) (h : am_H) : am_R := m_ao x0 10 fun a3 => m_bIx (f_X10_result a3 x1 x2 h) (fun h1 v2 => m_sL x3 (0 : Int32) (Int32.toInt64 v2) h1 fun h6 => m_ri h6 (0 : Int32)) (fun h4 e5 => if e5 = 0 then (m_ri h4 (1 : Int32)) else if e5 = 1 then (m_ri h4 (2 : Int32)) else none)
theorem k_L_result (d : Nat) (hd : 8 ≤ d) (x0 : Option (Nat × Nat)) (x1 : Int32) (x2 : Int32) (x3 : Option (Nat × Nat)) (h : am_H) : am_Con m_L_result d [.inr (.inr x0), .inl x1, .inl x2, .inr (.inr x3)] h (f_L_result x0 x1 x2 x3 h) := am_conX (by decide +kernel) (Nat.le_of_ble_eq_true rfl) (by
  unfold f_L_result
  refine sim_aload_n dL_result_0 rfl ?_
  refine sim_iconst (0) dL_result_1 (by decide +kernel) ?_
  refine sim_aload_n dL_result_2 rfl ?_
  refine sim_iload_n dL_result_3 rfl ?_
  refine sim_iload_n dL_result_4 rfl ?_
  refine sim_ao2 (fun a3 e => ?_)
  refine sim_virt (d - 1) e dL_result_5 (k_X10_result (d - 1) (by omega) _ _ _ _) q_X10_result rfl rfl wm_RL_93 rfl rfl (by omega) (Nat.le_of_ble_eq_true rfl) am_nIx (am_rIx fun h1 v2 => ?_) (am_eIx fun h9 k9 => ?_)
  · refine sim_i2l dL_result_8 ?_
    refine sim_sL dL_result_9 (fun h6 => ?_)
    refine sim_goto 21 dL_result_10 (by decide) ?_
    refine sim_iconst (0) dL_result_21 (by decide +kernel) ?_
    exact sim_iret dL_result_22 rfl
  · refine simx_case (fun cx => ?_) (fun cx => ?_)
    · subst cx
      refine simx_catch [] (0, 10, 13, 21) [(0, 10, 17, 13)] rfl ⟨by decide, by decide⟩ (by decide) wx_RL_21 wca_0 (by decide) (fun z hz => by cases hz) ?_
      refine sim_astore dL_result_13 (Nat.le_of_ble_eq_true rfl) ?_
      refine sim_iconst (1) dL_result_15 (by decide +kernel) ?_
      exact sim_iret dL_result_16 rfl
    refine simx_case (fun cx => ?_) (fun cx => ?_)
    · subst cx
      refine simx_catch [(0, 10, 13, 21)] (0, 10, 17, 13) [] rfl ⟨by decide, by decide⟩ (by decide) wx_RL_13 wca_1 (by decide) (fun z hz => by simp only [List.mem_cons, List.not_mem_nil, or_false] at hz; subst hz; exact ⟨by decide, 0, _, by decide, by decide, wx_RL_21⟩) ?_
      refine sim_astore dL_result_17 (Nat.le_of_ble_eq_true rfl) ?_
      refine sim_iconst (2) dL_result_19 (by decide +kernel) ?_
      exact sim_iret dL_result_20 rfl
    exact simx_none)
theorem q_L_result : am_Cal m_L_result 4 0 := ⟨am_mem 878 (w := Cond.codeWith yL_result cL_result 5 (some .int) [(0, 10, 13, 21), (0, 10, 17, 13)]) (by decide +kernel) rfl, am_mem 55 (w := Cond.initialized RL) (by decide +kernel) rfl, fun _ => am_mem 877 (w := Cond.static yL_result) (by decide +kernel) rfl, fun z => absurd rfl z, fun z => absurd z (by decide), fun z => absurd z (by decide), by decide +kernel, by decide +kernel, Nat.le_of_ble_eq_true rfl⟩
abbrev m_X10_same : am_M := (yX10_same, cX10_same, 6, some .boolean, [])
def f_X10_same_78  (s0 : Int32) (h : am_H) : am_R := m_rz h s0
theorem t_X10_same_78 (d : Nat) (hd : 7 ≤ d)  (s0 : Int32) (h : am_H) : Sim m_X10_same d 78 [none, none, none, none, none, none] [.inl s0] h (f_X10_same_78  s0 h) := by
  unfold f_X10_same_78
  exact sim_zret dX10_same_78 rfl
def f_X10_same_63 (rc37 : Nat × Nat → Int32 → Int32 → Int32 → am_H → am_R) (a0 : Nat × Nat) (x3 : Int32) (x4 : Int32) (x5 : Int32) (h : am_H) : am_R := rc37 a0 x3 x4 (x5 + 1) h
theorem t_X10_same_63 (d : Nat) (hd : 7 ≤ d) (rc37 : Nat × Nat → Int32 → Int32 → Int32 → am_H → am_R) (hrc37 : ∀ a0 x3 x4 x5 h, Sim m_X10_same d 37 [some (.inr (.inr (some a0))), none, none, some (.inl x3), some (.inl x4), some (.inl x5)] [] h (rc37 a0 x3 x4 x5 h)) (a0 : Nat × Nat) (x3 : Int32) (x4 : Int32) (x5 : Int32) (h : am_H) : Sim m_X10_same d 63 [some (.inr (.inr (some a0))), none, none, some (.inl x3), some (.inl x4), some (.inl x5)] [] h (f_X10_same_63 rc37 a0 x3 x4 x5 h) := by
  unfold f_X10_same_63
  refine sim_iinc (1) dX10_same_63 rfl (by decide +kernel) (Nat.le_of_ble_eq_true rfl) ?_
  refine sim_goto 37 dX10_same_66 (by decide) ?_
  exact sim_lv (am_leS (am_leN (am_leN (am_leS (am_leS (am_leS am_leT)))))) (hrc37 _ _ _ _ _)
def f_X10_same_37  : Nat → Nat × Nat → Int32 → Int32 → Int32 → am_H → am_R
  | 0, _, _, _, _, _ => none
  | n + 1, a0, x3, x4, x5, h => if (32 : Int32) ≤ x5 then (if x3 = 0 then (f_X10_same_78 (1 : Int32) h) else (f_X10_same_78 (0 : Int32) h)) else (m_bI (f_X10_has x4 x5 h) fun h13 v14 => if v14 = 0 then (f_X10_same_63 (f_X10_same_37  n) a0 x3 x4 x5 h13) else (m_gR (some a0) 10 1 h13 fun o15 => m_sI o15 x5 x4 h13 fun h16 => f_X10_same_63 (f_X10_same_37  n) a0 x3 x4 x5 h16))
theorem t_X10_same_37 (d : Nat) (hd : 7 ≤ d)  : ∀ (n : Nat) (a0 : Nat × Nat) (x3 : Int32) (x4 : Int32) (x5 : Int32) (h : am_H), Sim m_X10_same d 37 [some (.inr (.inr (some a0))), none, none, some (.inl x3), some (.inl x4), some (.inl x5)] [] h (f_X10_same_37  n a0 x3 x4 x5 h) := by
  intro n
  induction n with
  | zero => intros; exact sim_none
  | succ n hrc37 =>
    intro a0 x3 x4 x5 h
    rw [f_X10_same_37]
    refine sim_iload dX10_same_37 rfl ?_
    refine sim_bipush (32) dX10_same_39 (by decide +kernel) ?_
    refine sim_ic_ge 69 dX10_same_41 (by decide) (fun c => ?_) (fun c => ?_)
    · refine sim_iload_n dX10_same_69 rfl ?_
      refine sim_if_ne 77 dX10_same_70 (by decide) (fun c => ?_) (fun c => ?_)
      · refine sim_iconst (0) dX10_same_77 (by decide +kernel) ?_
        exact sim_lv (am_leN (am_leN (am_leN (am_leN (am_leN (am_leN am_leT)))))) (t_X10_same_78 d (by omega) _ _)
      · refine sim_iconst (1) dX10_same_73 (by decide +kernel) ?_
        refine sim_goto 78 dX10_same_74 (by decide) ?_
        exact sim_lv (am_leN (am_leN (am_leN (am_leN (am_leN (am_leN am_leT)))))) (t_X10_same_78 d (by omega) _ _)
    · refine sim_iload dX10_same_44 rfl ?_
      refine sim_iload dX10_same_46 rfl ?_
      refine sim_static (d - 1) dX10_same_48 (k_X10_has (d - 1) (by omega) _ _ _) q_X10_has wm_RX10_91 rfl rfl (by omega) (Nat.le_of_ble_eq_true rfl) am_nI (am_rI fun h13 v14 => ?_) am_eI
      refine sim_if_eq 63 dX10_same_51 (by decide) (fun c => ?_) (fun c => ?_)
      · exact sim_lv (am_leS (am_leN (am_leN (am_leS (am_leS (am_leS am_leT)))))) (t_X10_same_63 d (by omega) _ hrc37 _ _ _ _ _)
      · refine sim_aload_n dX10_same_54 rfl ?_
        refine sim_gR 10 1 dX10_same_55 rfl wf_RX10_9 (Nat.le_of_ble_eq_true rfl) rfl (fun o15 => ?_)
        refine sim_iload dX10_same_58 rfl ?_
        refine sim_iload dX10_same_60 rfl ?_
        refine sim_sI dX10_same_62 (fun h16 => ?_)
        exact sim_lv (am_leS (am_leN (am_leN (am_leS (am_leS (am_leS am_leT)))))) (t_X10_same_63 d (by omega) _ hrc37 _ _ _ _ _)
def f_X10_same (a0 : Nat × Nat) (x1 : Int32) (x2 : Int32) (h : am_H) : am_R := m_bV (f_X10_checkFace x1 h) fun h1 => m_bV (f_X10_checkFace x2 h1) fun h3 => m_gR (some a0) 10 1 h3 fun o5 => m_aI o5 0 x1 h3 fun v6 => m_bI (f_X10_has v6 x2 h3) fun h7 v8 => m_gR (some a0) 10 1 h7 fun o9 => m_aI o9 0 x1 h7 fun v10 => m_gR (some a0) 10 1 h7 fun o11 => m_aI o11 0 x2 h7 fun v12 => f_X10_same_37 5000 a0 v8 (v10 ||| v12) (0 : Int32) h7
theorem k_X10_same (d : Nat) (hd : 7 ≤ d) (a0 : Nat × Nat) (x1 : Int32) (x2 : Int32) (h : am_H) : am_Con m_X10_same d [.inr (.inr (some a0)), .inl x1, .inl x2] h (f_X10_same a0 x1 x2 h) := am_con (by decide +kernel) (Nat.le_of_ble_eq_true rfl) (by
  unfold f_X10_same
  refine sim_iload_n dX10_same_0 rfl ?_
  refine sim_static (d - 1) dX10_same_1 (k_X10_checkFace (d - 1) (by omega) _ _) q_X10_checkFace wm_RX10_99 rfl rfl (by omega) (Nat.le_of_ble_eq_true rfl) am_nV (am_rV fun h1 => ?_) am_eV
  refine sim_iload_n dX10_same_4 rfl ?_
  refine sim_static (d - 1) dX10_same_5 (k_X10_checkFace (d - 1) (by omega) _ _) q_X10_checkFace wm_RX10_99 rfl rfl (by omega) (Nat.le_of_ble_eq_true rfl) am_nV (am_rV fun h3 => ?_) am_eV
  refine sim_aload_n dX10_same_8 rfl ?_
  refine sim_gR 10 1 dX10_same_9 rfl wf_RX10_9 (Nat.le_of_ble_eq_true rfl) rfl (fun o5 => ?_)
  refine sim_iload_n dX10_same_12 rfl ?_
  refine sim_aI dX10_same_13 (fun v6 => ?_)
  refine sim_iload_n dX10_same_14 rfl ?_
  refine sim_static (d - 1) dX10_same_15 (k_X10_has (d - 1) (by omega) _ _ _) q_X10_has wm_RX10_91 rfl rfl (by omega) (Nat.le_of_ble_eq_true rfl) am_nI (am_rI fun h7 v8 => ?_) am_eI
  refine sim_istore_n dX10_same_18 (Nat.le_of_ble_eq_true rfl) ?_
  refine sim_aload_n dX10_same_19 rfl ?_
  refine sim_gR 10 1 dX10_same_20 rfl wf_RX10_9 (Nat.le_of_ble_eq_true rfl) rfl (fun o9 => ?_)
  refine sim_iload_n dX10_same_23 rfl ?_
  refine sim_aI dX10_same_24 (fun v10 => ?_)
  refine sim_aload_n dX10_same_25 rfl ?_
  refine sim_gR 10 1 dX10_same_26 rfl wf_RX10_9 (Nat.le_of_ble_eq_true rfl) rfl (fun o11 => ?_)
  refine sim_iload_n dX10_same_29 rfl ?_
  refine sim_aI dX10_same_30 (fun v12 => ?_)
  refine sim_ior dX10_same_31 ?_
  refine sim_istore dX10_same_32 (Nat.le_of_ble_eq_true rfl) ?_
  refine sim_iconst (0) dX10_same_34 (by decide +kernel) ?_
  refine sim_istore dX10_same_35 (Nat.le_of_ble_eq_true rfl) ?_
  exact sim_lv (am_leS (am_leN (am_leN (am_leS (am_leS (am_leS am_leT)))))) (t_X10_same_37 d (by omega) _ _ _ _ _ _))
theorem q_X10_same : am_Cal m_X10_same 2 2 := ⟨am_mem 485 (w := Cond.code yX10_same cX10_same 6 (some .boolean)) (by decide +kernel) rfl, am_mem 56 (w := Cond.initialized RX10) (by decide +kernel) rfl, fun z => absurd z (by decide), fun _ => am_mem 483 (w := Cond.instanceMethod yX10_same) (by decide +kernel) rfl, fun z => absurd z (by decide), fun _ => am_mem 484 (w := Cond.selects RX10 yX10_same yX10_same) (by decide +kernel) rfl, by decide +kernel, by decide +kernel, Nat.le_of_ble_eq_true rfl⟩
abbrev m_L_same : am_M := (yL_same, cL_same, 5, some .int, [(0, 17, 20, 21)])
def f_L_same_16  (s0 : Int64) (s1 : Int32) (s2 : Option (Nat × Nat)) (h : am_H) : am_R := m_sL s2 s1 s0 h fun h6 => m_ri h6 (0 : Int32)
theorem t_L_same_16 (d : Nat) (hd : 8 ≤ d)  (s0 : Int64) (s1 : Int32) (s2 : Option (Nat × Nat)) (h : am_H) : Sim m_L_same d 16 [none, none, none, none, none] [.inr (.inl s0), .inl s1, .inr (.inr s2)] h (f_L_same_16  s0 s1 s2 h) := by
  unfold f_L_same_16
  refine sim_sL dL_same_16 (fun h6 => ?_)
  refine sim_goto 24 dL_same_17 (by decide) ?_
  refine sim_iconst (0) dL_same_24 (by decide +kernel) ?_
  exact sim_iret dL_same_25 rfl
def f_L_same (x0 : Option (Nat × Nat)) (x1 : Int32) (x2 : Int32) (x3 : Option (Nat × Nat)) (h : am_H) : am_R := m_ao x0 10 fun a3 => m_bIx (f_X10_same a3 x1 x2 h) (fun h1 v2 => if v2 = 0 then (f_L_same_16 (0 : Int64) (0 : Int32) x3 h1) else (f_L_same_16 (1 : Int64) (0 : Int32) x3 h1)) (fun h4 e5 => if e5 = 0 then (m_ri h4 (1 : Int32)) else none)
theorem k_L_same (d : Nat) (hd : 8 ≤ d) (x0 : Option (Nat × Nat)) (x1 : Int32) (x2 : Int32) (x3 : Option (Nat × Nat)) (h : am_H) : am_Con m_L_same d [.inr (.inr x0), .inl x1, .inl x2, .inr (.inr x3)] h (f_L_same x0 x1 x2 x3 h) := am_conX (by decide +kernel) (Nat.le_of_ble_eq_true rfl) (by
  unfold f_L_same
  refine sim_aload_n dL_same_0 rfl ?_
  refine sim_iconst (0) dL_same_1 (by decide +kernel) ?_
  refine sim_aload_n dL_same_2 rfl ?_
  refine sim_iload_n dL_same_3 rfl ?_
  refine sim_iload_n dL_same_4 rfl ?_
  refine sim_ao2 (fun a3 e => ?_)
  refine sim_virt (d - 1) e dL_same_5 (k_X10_same (d - 1) (by omega) _ _ _ _) q_X10_same rfl rfl wm_RL_23 rfl rfl (by omega) (Nat.le_of_ble_eq_true rfl) am_nIx (am_rIx fun h1 v2 => ?_) (am_eIx fun h9 k9 => ?_)
  · refine sim_if_eq 15 dL_same_8 (by decide) (fun c => ?_) (fun c => ?_)
    · refine sim_lconst (0) dL_same_15 (by decide +kernel) ?_
      exact sim_lv (am_leN (am_leN (am_leN (am_leN (am_leN am_leT))))) (t_L_same_16 d (by omega) _ _ _ _)
    · refine sim_lconst (1) dL_same_11 (by decide +kernel) ?_
      refine sim_goto 16 dL_same_12 (by decide) ?_
      exact sim_lv (am_leN (am_leN (am_leN (am_leN (am_leN am_leT))))) (t_L_same_16 d (by omega) _ _ _ _)
  · refine simx_case (fun cx => ?_) (fun cx => ?_)
    · subst cx
      refine simx_catch [] (0, 17, 20, 21) [] rfl ⟨by decide, by decide⟩ (by decide) wx_RL_21 wca_0 (by decide) (fun z hz => by cases hz) ?_
      refine sim_astore dL_same_20 (Nat.le_of_ble_eq_true rfl) ?_
      refine sim_iconst (1) dL_same_22 (by decide +kernel) ?_
      exact sim_iret dL_same_23 rfl
    exact simx_none)
theorem q_L_same : am_Cal m_L_same 4 0 := ⟨am_mem 481 (w := Cond.codeWith yL_same cL_same 5 (some .int) [(0, 17, 20, 21)]) (by decide +kernel) rfl, am_mem 55 (w := Cond.initialized RL) (by decide +kernel) rfl, fun _ => am_mem 480 (w := Cond.static yL_same) (by decide +kernel) rfl, fun z => absurd rfl z, fun z => absurd z (by decide), fun z => absurd z (by decide), by decide +kernel, by decide +kernel, Nat.le_of_ble_eq_true rfl⟩
