abbrev m_X9_isSeenBy : am_M := (yX9_isSeenBy, cX9_isSeenBy, 4, some .boolean, [])
def f_X9_isSeenBy_63  (s0 : Int32) (h : am_H) : am_R := m_rz h s0
theorem t_X9_isSeenBy_63 (d : Nat) (hd : 2 ≤ d)  (s0 : Int32) (h : am_H) : Sim m_X9_isSeenBy d 63 [none, none, none, none] [.inl s0] h (f_X9_isSeenBy_63  s0 h) := by
  unfold f_X9_isSeenBy_63
  exact sim_zret dX9_isSeenBy_63 rfl
def f_X9_isSeenBy_62   (h : am_H) : am_R := f_X9_isSeenBy_63 (0 : Int32) h
theorem t_X9_isSeenBy_62 (d : Nat) (hd : 2 ≤ d)   (h : am_H) : Sim m_X9_isSeenBy d 62 [none, none, none, none] [] h (f_X9_isSeenBy_62   h) := by
  unfold f_X9_isSeenBy_62
  refine sim_iconst (0) dX9_isSeenBy_62 (by decide +kernel) ?_
  exact sim_lv (am_leN (am_leN (am_leN (am_leN am_leT)))) (t_X9_isSeenBy_63 d (by omega) _ _)
def f_X9_isSeenBy_58   (h : am_H) : am_R := f_X9_isSeenBy_63 (1 : Int32) h
theorem t_X9_isSeenBy_58 (d : Nat) (hd : 2 ≤ d)   (h : am_H) : Sim m_X9_isSeenBy d 58 [none, none, none, none] [] h (f_X9_isSeenBy_58   h) := by
  unfold f_X9_isSeenBy_58
  refine sim_iconst (1) dX9_isSeenBy_58 (by decide +kernel) ?_
  refine sim_goto 63 dX9_isSeenBy_59 (by decide) ?_
  exact sim_lv (am_leN (am_leN (am_leN (am_leN am_leT)))) (t_X9_isSeenBy_63 d (by omega) _ _)
def f_X9_isSeenBy_33  (a0 : Nat × Nat) (x1 : Int32) (s0 : Int32) (h : am_H) : am_R := m_ao (some a0) 9 fun a9 => m_bI (f_X9_isPosted a9 h) fun h7 v8 => if v8 = 0 then (f_X9_isSeenBy_62 h7) else (if s0 = 0 then (f_X9_isSeenBy_62 h7) else (m_gI (some a0) 9 5 h7 fun v10 => if v10 = 0 then (f_X9_isSeenBy_58 h7) else (if (12 : Int32) ≤ x1 then (f_X9_isSeenBy_62 h7) else (f_X9_isSeenBy_58 h7))))
theorem t_X9_isSeenBy_33 (d : Nat) (hd : 2 ≤ d)  (a0 : Nat × Nat) (x1 : Int32) (s0 : Int32) (h : am_H) : Sim m_X9_isSeenBy d 33 [some (.inr (.inr (some a0))), some (.inl x1), none, none] [.inl s0] h (f_X9_isSeenBy_33  a0 x1 s0 h) := by
  unfold f_X9_isSeenBy_33
  refine sim_istore_n dX9_isSeenBy_33 (Nat.le_of_ble_eq_true rfl) ?_
  refine sim_aload_n dX9_isSeenBy_34 rfl ?_
  refine sim_ao0 (fun a9 e => ?_)
  refine sim_virt (d - 1) e dX9_isSeenBy_35 (k_X9_isPosted (d - 1) (by omega) _  _) q_X9_isPosted rfl rfl wm_RX9_42 rfl rfl (by omega) (Nat.le_of_ble_eq_true rfl) am_nI (am_rI fun h7 v8 => ?_) am_eI
  refine sim_if_eq 62 dX9_isSeenBy_38 (by decide) (fun c => ?_) (fun c => ?_)
  · exact sim_lv (am_leN (am_leN (am_leN (am_leN am_leT)))) (t_X9_isSeenBy_62 d (by omega) _)
  · refine sim_iload_n dX9_isSeenBy_41 rfl ?_
    refine sim_if_eq 62 dX9_isSeenBy_42 (by decide) (fun c => ?_) (fun c => ?_)
    · exact sim_lv (am_leN (am_leN (am_leN (am_leN am_leT)))) (t_X9_isSeenBy_62 d (by omega) _)
    · refine sim_aload_n dX9_isSeenBy_45 rfl ?_
      refine sim_gI 9 5 dX9_isSeenBy_46 rfl wf_RX9_46 (Nat.le_of_ble_eq_true rfl) rfl (fun v10 => ?_)
      refine sim_if_eq 58 dX9_isSeenBy_49 (by decide) (fun c => ?_) (fun c => ?_)
      · exact sim_lv (am_leN (am_leN (am_leN (am_leN am_leT)))) (t_X9_isSeenBy_58 d (by omega) _)
      · refine sim_iload_n dX9_isSeenBy_52 rfl ?_
        refine sim_bipush (12) dX9_isSeenBy_53 (by decide +kernel) ?_
        refine sim_ic_ge 62 dX9_isSeenBy_55 (by decide) (fun c => ?_) (fun c => ?_)
        · exact sim_lv (am_leN (am_leN (am_leN (am_leN am_leT)))) (t_X9_isSeenBy_62 d (by omega) _)
        · exact sim_lv (am_leN (am_leN (am_leN (am_leN am_leT)))) (t_X9_isSeenBy_58 d (by omega) _)
def f_X9_isSeenBy_28  (a0 : Nat × Nat) (x1 : Int32) (h : am_H) : am_R := f_X9_isSeenBy_33 a0 x1 (1 : Int32) h
theorem t_X9_isSeenBy_28 (d : Nat) (hd : 2 ≤ d)  (a0 : Nat × Nat) (x1 : Int32) (h : am_H) : Sim m_X9_isSeenBy d 28 [some (.inr (.inr (some a0))), some (.inl x1), none, none] [] h (f_X9_isSeenBy_28  a0 x1 h) := by
  unfold f_X9_isSeenBy_28
  refine sim_iconst (1) dX9_isSeenBy_28 (by decide +kernel) ?_
  refine sim_goto 33 dX9_isSeenBy_29 (by decide) ?_
  exact sim_lv (am_leS (am_leS (am_leN (am_leN am_leT)))) (t_X9_isSeenBy_33 d (by omega) _ _ _ _)
def f_X9_isSeenBy (a0 : Nat × Nat) (x1 : Int32) (x2 : Int32) (h : am_H) : am_R := m_ao (some a0) 9 fun a3 => m_bI (f_X9_isOwnedBy a3 x1 h) fun h1 v2 => if v2 = 0 then (m_gR (some a0) 9 6 h1 fun o4 => if o4 = none then (f_X9_isSeenBy_28 a0 x1 h1) else (m_gR (some a0) 9 6 h1 fun o5 => m_gI o5 0 0 h1 fun v6 => if x2 < v6 then (f_X9_isSeenBy_33 a0 x1 (0 : Int32) h1) else (f_X9_isSeenBy_28 a0 x1 h1))) else (m_rz h1 (1 : Int32))
theorem k_X9_isSeenBy (d : Nat) (hd : 2 ≤ d) (a0 : Nat × Nat) (x1 : Int32) (x2 : Int32) (h : am_H) : am_Con m_X9_isSeenBy d [.inr (.inr (some a0)), .inl x1, .inl x2] h (f_X9_isSeenBy a0 x1 x2 h) := am_con (by decide +kernel) (Nat.le_of_ble_eq_true rfl) (by
  unfold f_X9_isSeenBy
  refine sim_aload_n dX9_isSeenBy_0 rfl ?_
  refine sim_iload_n dX9_isSeenBy_1 rfl ?_
  refine sim_ao1 (fun a3 e => ?_)
  refine sim_virt (d - 1) e dX9_isSeenBy_2 (k_X9_isOwnedBy (d - 1) (by omega) _ _ _) q_X9_isOwnedBy rfl rfl wm_RX9_29 rfl rfl (by omega) (Nat.le_of_ble_eq_true rfl) am_nI (am_rI fun h1 v2 => ?_) am_eI
  refine sim_if_eq 10 dX9_isSeenBy_5 (by decide) (fun c => ?_) (fun c => ?_)
  · refine sim_aload_n dX9_isSeenBy_10 rfl ?_
    refine sim_gR 9 6 dX9_isSeenBy_11 rfl wf_RX9_33 (Nat.le_of_ble_eq_true rfl) rfl (fun o4 => ?_)
    refine sim_ifnull 28 dX9_isSeenBy_14 (by decide) (fun c => ?_) (fun c => ?_)
    · exact sim_lv (am_leS (am_leS (am_leN (am_leN am_leT)))) (t_X9_isSeenBy_28 d (by omega) _ _ _)
    · refine sim_aload_n dX9_isSeenBy_17 rfl ?_
      refine sim_gR 9 6 dX9_isSeenBy_18 rfl wf_RX9_33 (Nat.le_of_ble_eq_true rfl) rfl (fun o5 => ?_)
      refine sim_gI 0 0 dX9_isSeenBy_21 rfl wf_RX9_37 (Nat.le_of_ble_eq_true rfl) rfl (fun v6 => ?_)
      refine sim_iload_n dX9_isSeenBy_24 rfl ?_
      refine sim_ic_gt 32 dX9_isSeenBy_25 (by decide) (fun c => ?_) (fun c => ?_)
      · refine sim_iconst (0) dX9_isSeenBy_32 (by decide +kernel) ?_
        exact sim_lv (am_leS (am_leS (am_leN (am_leN am_leT)))) (t_X9_isSeenBy_33 d (by omega) _ _ _ _)
      · exact sim_lv (am_leS (am_leS (am_leN (am_leN am_leT)))) (t_X9_isSeenBy_28 d (by omega) _ _ _)
  · refine sim_iconst (1) dX9_isSeenBy_8 (by decide +kernel) ?_
    exact sim_zret dX9_isSeenBy_9 rfl)
theorem q_X9_isSeenBy : am_Cal m_X9_isSeenBy 2 2 := ⟨am_mem 650 (w := Cond.code yX9_isSeenBy cX9_isSeenBy 4 (some .boolean)) (by decide +kernel) rfl, am_mem 71 (w := Cond.initialized RX9) (by decide +kernel) rfl, fun z => absurd z (by decide), fun _ => am_mem 648 (w := Cond.instanceMethod yX9_isSeenBy) (by decide +kernel) rfl, fun z => absurd z (by decide), fun _ => am_mem 649 (w := Cond.selects RX9 yX9_isSeenBy yX9_isSeenBy) (by decide +kernel) rfl, by decide +kernel, by decide +kernel, Nat.le_of_ble_eq_true rfl⟩
abbrev m_X10_isReadBy : am_M := (yX10_isReadBy, cX10_isReadBy, 4, some .boolean, [])
def f_X10_isReadBy_49  (s0 : Int32) (h : am_H) : am_R := m_rz h s0
theorem t_X10_isReadBy_49 (d : Nat) (hd : 3 ≤ d)  (s0 : Int32) (h : am_H) : Sim m_X10_isReadBy d 49 [none, none, none, none] [.inl s0] h (f_X10_isReadBy_49  s0 h) := by
  unfold f_X10_isReadBy_49
  exact sim_zret dX10_isReadBy_49 rfl
def f_X10_isReadBy_44   (h : am_H) : am_R := f_X10_isReadBy_49 (1 : Int32) h
theorem t_X10_isReadBy_44 (d : Nat) (hd : 3 ≤ d)   (h : am_H) : Sim m_X10_isReadBy d 44 [none, none, none, none] [] h (f_X10_isReadBy_44   h) := by
  unfold f_X10_isReadBy_44
  refine sim_iconst (1) dX10_isReadBy_44 (by decide +kernel) ?_
  refine sim_goto 49 dX10_isReadBy_45 (by decide) ?_
  exact sim_lv (am_leN (am_leN (am_leN (am_leN am_leT)))) (t_X10_isReadBy_49 d (by omega) _ _)
def f_X10_isReadBy_19   (h : am_H) : am_R := m_rz h (0 : Int32)
theorem t_X10_isReadBy_19 (d : Nat) (hd : 3 ≤ d)   (h : am_H) : Sim m_X10_isReadBy d 19 [none, none, none, none] [] h (f_X10_isReadBy_19   h) := by
  unfold f_X10_isReadBy_19
  refine sim_iconst (0) dX10_isReadBy_19 (by decide +kernel) ?_
  exact sim_zret dX10_isReadBy_20 rfl
def f_X10_isReadBy (a0 : Nat × Nat) (x1 : Int32) (x2 : Option (Nat × Nat)) (x3 : Option (Nat × Nat)) (h : am_H) : am_R := m_gI x2 1 4 h fun v1 => if v1 = 0 then (m_gI (some a0) 10 0 h fun v2 => m_ao x3 9 fun a5 => m_bI (f_X9_isSeenBy a5 x1 v2 h) fun h3 v4 => if v4 = 0 then (f_X10_isReadBy_19 h3) else (m_gI x2 1 5 h3 fun v6 => if v6 = 0 then (f_X10_isReadBy_44 h3) else (m_gI x2 1 1 h3 fun v7 => if v7 = x1 then (f_X10_isReadBy_44 h3) else (m_ao x3 9 fun a10 => m_bI (f_X9_isOwnedBy a10 x1 h3) fun h8 v9 => if v9 = 0 then (f_X10_isReadBy_49 (0 : Int32) h8) else (f_X10_isReadBy_44 h8))))) else (f_X10_isReadBy_19 h)
theorem k_X10_isReadBy (d : Nat) (hd : 3 ≤ d) (a0 : Nat × Nat) (x1 : Int32) (x2 : Option (Nat × Nat)) (x3 : Option (Nat × Nat)) (h : am_H) : am_Con m_X10_isReadBy d [.inr (.inr (some a0)), .inl x1, .inr (.inr x2), .inr (.inr x3)] h (f_X10_isReadBy a0 x1 x2 x3 h) := am_con (by decide +kernel) (Nat.le_of_ble_eq_true rfl) (by
  unfold f_X10_isReadBy
  refine sim_aload_n dX10_isReadBy_0 rfl ?_
  refine sim_gI 1 4 dX10_isReadBy_1 rfl wf_RX10_345 (Nat.le_of_ble_eq_true rfl) rfl (fun v1 => ?_)
  refine sim_if_ne 19 dX10_isReadBy_4 (by decide) (fun c => ?_) (fun c => ?_)
  · exact sim_lv (am_leN (am_leN (am_leN (am_leN am_leT)))) (t_X10_isReadBy_19 d (by omega) _)
  · refine sim_aload_n dX10_isReadBy_7 rfl ?_
    refine sim_iload_n dX10_isReadBy_8 rfl ?_
    refine sim_aload_n dX10_isReadBy_9 rfl ?_
    refine sim_gI 10 0 dX10_isReadBy_10 rfl wf_RX10_73 (Nat.le_of_ble_eq_true rfl) rfl (fun v2 => ?_)
    refine sim_ao2 (fun a5 e => ?_)
    refine sim_virt (d - 1) e dX10_isReadBy_13 (k_X9_isSeenBy (d - 1) (by omega) _ _ _ _) q_X9_isSeenBy rfl rfl wm_RX10_173 rfl rfl (by omega) (Nat.le_of_ble_eq_true rfl) am_nI (am_rI fun h3 v4 => ?_) am_eI
    refine sim_if_ne 21 dX10_isReadBy_16 (by decide) (fun c => ?_) (fun c => ?_)
    · refine sim_aload_n dX10_isReadBy_21 rfl ?_
      refine sim_gI 1 5 dX10_isReadBy_22 rfl wf_RX10_342 (Nat.le_of_ble_eq_true rfl) rfl (fun v6 => ?_)
      refine sim_if_eq 44 dX10_isReadBy_25 (by decide) (fun c => ?_) (fun c => ?_)
      · exact sim_lv (am_leN (am_leN (am_leN (am_leN am_leT)))) (t_X10_isReadBy_44 d (by omega) _)
      · refine sim_aload_n dX10_isReadBy_28 rfl ?_
        refine sim_gI 1 1 dX10_isReadBy_29 rfl wf_RX10_446 (Nat.le_of_ble_eq_true rfl) rfl (fun v7 => ?_)
        refine sim_iload_n dX10_isReadBy_32 rfl ?_
        refine sim_ic_eq 44 dX10_isReadBy_33 (by decide) (fun c => ?_) (fun c => ?_)
        · exact sim_lv (am_leN (am_leN (am_leN (am_leN am_leT)))) (t_X10_isReadBy_44 d (by omega) _)
        · refine sim_aload_n dX10_isReadBy_36 rfl ?_
          refine sim_iload_n dX10_isReadBy_37 rfl ?_
          refine sim_ao1 (fun a10 e => ?_)
          refine sim_virt (d - 1) e dX10_isReadBy_38 (k_X9_isOwnedBy (d - 1) (by omega) _ _ _) q_X9_isOwnedBy rfl rfl wm_RX10_125 rfl rfl (by omega) (Nat.le_of_ble_eq_true rfl) am_nI (am_rI fun h8 v9 => ?_) am_eI
          refine sim_if_eq 48 dX10_isReadBy_41 (by decide) (fun c => ?_) (fun c => ?_)
          · refine sim_iconst (0) dX10_isReadBy_48 (by decide +kernel) ?_
            exact sim_lv (am_leN (am_leN (am_leN (am_leN am_leT)))) (t_X10_isReadBy_49 d (by omega) _ _)
          · exact sim_lv (am_leN (am_leN (am_leN (am_leN am_leT)))) (t_X10_isReadBy_44 d (by omega) _)
    · exact sim_lv (am_leN (am_leN (am_leN (am_leN am_leT)))) (t_X10_isReadBy_19 d (by omega) _))
theorem q_X10_isReadBy : am_Cal m_X10_isReadBy 3 2 := ⟨am_mem 990 (w := Cond.code yX10_isReadBy cX10_isReadBy 4 (some .boolean)) (by decide +kernel) rfl, am_mem 56 (w := Cond.initialized RX10) (by decide +kernel) rfl, fun z => absurd z (by decide), fun _ => am_mem 989 (w := Cond.instanceMethod yX10_isReadBy) (by decide +kernel) rfl, fun z => absurd z (by decide), fun _ => am_mem 26 (w := Cond.selects RX10 yX10_isReadBy yX10_isReadBy) (by decide +kernel) rfl, by decide +kernel, by decide +kernel, Nat.le_of_ble_eq_true rfl⟩
abbrev m_X1_isFrozenHereOrAbove : am_M := (yX1_isFrozenHereOrAbove, cX1_isFrozenHereOrAbove, 2, some .boolean, [])
def f_X1_isFrozenHereOrAbove_2  : Nat → Option (Nat × Nat) → am_H → am_R
  | 0, _, _ => none
  | n + 1, x1, h => if x1 = none then (m_rz h (0 : Int32)) else (m_gI x1 1 3 h fun v1 => if v1 = 0 then (m_gR x1 1 2 h fun o2 => (f_X1_isFrozenHereOrAbove_2  n) o2 h) else (m_rz h (1 : Int32)))
theorem t_X1_isFrozenHereOrAbove_2 (d : Nat) (hd : 0 ≤ d)  : ∀ (n : Nat) (x1 : Option (Nat × Nat)) (h : am_H), Sim m_X1_isFrozenHereOrAbove d 2 [none, some (.inr (.inr x1))] [] h (f_X1_isFrozenHereOrAbove_2  n x1 h) := by
  intro n
  induction n with
  | zero => intros; exact sim_none
  | succ n hrc2 =>
    intro x1 h
    rw [f_X1_isFrozenHereOrAbove_2]
    refine sim_aload_n dX1_isFrozenHereOrAbove_2 rfl ?_
    refine sim_ifnull 23 dX1_isFrozenHereOrAbove_3 (by decide) (fun c => ?_) (fun c => ?_)
    · refine sim_iconst (0) dX1_isFrozenHereOrAbove_23 (by decide +kernel) ?_
      exact sim_zret dX1_isFrozenHereOrAbove_24 rfl
    · refine sim_aload_n dX1_isFrozenHereOrAbove_6 rfl ?_
      refine sim_gI 1 3 dX1_isFrozenHereOrAbove_7 rfl wf_RX1_24 (Nat.le_of_ble_eq_true rfl) rfl (fun v1 => ?_)
      refine sim_if_eq 15 dX1_isFrozenHereOrAbove_10 (by decide) (fun c => ?_) (fun c => ?_)
      · refine sim_aload_n dX1_isFrozenHereOrAbove_15 rfl ?_
        refine sim_gR 1 2 dX1_isFrozenHereOrAbove_16 rfl wf_RX1_16 (Nat.le_of_ble_eq_true rfl) rfl (fun o2 => ?_)
        refine sim_astore_n dX1_isFrozenHereOrAbove_19 (Nat.le_of_ble_eq_true rfl) ?_
        refine sim_goto 2 dX1_isFrozenHereOrAbove_20 (by decide) ?_
        exact sim_lv (am_leN (am_leS am_leT)) (hrc2 _ _)
      · refine sim_iconst (1) dX1_isFrozenHereOrAbove_13 (by decide +kernel) ?_
        exact sim_zret dX1_isFrozenHereOrAbove_14 rfl
def f_X1_isFrozenHereOrAbove (a0 : Nat × Nat) (h : am_H) : am_R := f_X1_isFrozenHereOrAbove_2 5000 (some a0) h
theorem k_X1_isFrozenHereOrAbove (d : Nat) (hd : 0 ≤ d) (a0 : Nat × Nat) (h : am_H) : am_Con m_X1_isFrozenHereOrAbove d [.inr (.inr (some a0))] h (f_X1_isFrozenHereOrAbove a0 h) := am_con (by decide +kernel) (Nat.le_of_ble_eq_true rfl) (by
  unfold f_X1_isFrozenHereOrAbove
  refine sim_aload_n dX1_isFrozenHereOrAbove_0 rfl ?_
  refine sim_astore_n dX1_isFrozenHereOrAbove_1 (Nat.le_of_ble_eq_true rfl) ?_
  exact sim_lv (am_leN (am_leS am_leT)) (t_X1_isFrozenHereOrAbove_2 d (by omega) _ _ _))
theorem q_X1_isFrozenHereOrAbove : am_Cal m_X1_isFrozenHereOrAbove 0 2 := ⟨am_mem 994 (w := Cond.code yX1_isFrozenHereOrAbove cX1_isFrozenHereOrAbove 2 (some .boolean)) (by decide +kernel) rfl, am_mem 77 (w := Cond.initialized RX1) (by decide +kernel) rfl, fun z => absurd z (by decide), fun _ => am_mem 992 (w := Cond.instanceMethod yX1_isFrozenHereOrAbove) (by decide +kernel) rfl, fun z => absurd z (by decide), fun _ => am_mem 993 (w := Cond.selects RX1 yX1_isFrozenHereOrAbove yX1_isFrozenHereOrAbove) (by decide +kernel) rfl, by decide +kernel, by decide +kernel, Nat.le_of_ble_eq_true rfl⟩
abbrev m_X10_mayComment : am_M := (yX10_mayComment, cX10_mayComment, 4, some .boolean, [])
def f_X10_mayComment_66  (s0 : Int32) (h : am_H) : am_R := m_rz h s0
theorem t_X10_mayComment_66 (d : Nat) (hd : 4 ≤ d)  (s0 : Int32) (h : am_H) : Sim m_X10_mayComment d 66 [none, none, none, none] [.inl s0] h (f_X10_mayComment_66  s0 h) := by
  unfold f_X10_mayComment_66
  exact sim_zret dX10_mayComment_66 rfl
def f_X10_mayComment_65   (h : am_H) : am_R := f_X10_mayComment_66 (0 : Int32) h
theorem t_X10_mayComment_65 (d : Nat) (hd : 4 ≤ d)   (h : am_H) : Sim m_X10_mayComment d 65 [none, none, none, none] [] h (f_X10_mayComment_65   h) := by
  unfold f_X10_mayComment_65
  refine sim_iconst (0) dX10_mayComment_65 (by decide +kernel) ?_
  exact sim_lv (am_leN (am_leN (am_leN (am_leN am_leT)))) (t_X10_mayComment_66 d (by omega) _ _)
def f_X10_mayComment_24   (h : am_H) : am_R := m_rz h (0 : Int32)
theorem t_X10_mayComment_24 (d : Nat) (hd : 4 ≤ d)   (h : am_H) : Sim m_X10_mayComment d 24 [none, none, none, none] [] h (f_X10_mayComment_24   h) := by
  unfold f_X10_mayComment_24
  refine sim_iconst (0) dX10_mayComment_24 (by decide +kernel) ?_
  exact sim_zret dX10_mayComment_25 rfl
def f_X10_mayComment (a0 : Nat × Nat) (x1 : Option (Nat × Nat)) (x2 : Int32) (x3 : Option (Nat × Nat)) (h : am_H) : am_R := m_gI (some a0) 10 0 h fun v1 => m_ao x1 9 fun a4 => m_bI (f_X9_isSeenBy a4 x2 v1 h) fun h2 v3 => if v3 = 0 then (f_X10_mayComment_24 h2) else (m_gI x1 9 1 h2 fun v5 => m_ao (some a0) 10 fun a8 => m_bI (f_X10_isBlockedByAny a8 v5 x2 h2) fun h6 v7 => if v7 = 0 then (if x3 = none then (m_rz h6 (1 : Int32)) else (m_ao (some a0) 10 fun a11 => m_bI (f_X10_isReadBy a11 x2 x3 x1 h6) fun h9 v10 => if v10 = 0 then (f_X10_mayComment_65 h9) else (m_ao x3 1 fun a14 => m_bI (f_X1_isFrozenHereOrAbove a14 h9) fun h12 v13 => if v13 = 0 then (m_gI x3 1 1 h12 fun v15 => m_ao (some a0) 10 fun a18 => m_bI (f_X10_isBlockedBy a18 v15 x2 h12) fun h16 v17 => if v17 = 0 then (f_X10_mayComment_66 (1 : Int32) h16) else (f_X10_mayComment_65 h16)) else (f_X10_mayComment_65 h12)))) else (f_X10_mayComment_24 h6))
theorem k_X10_mayComment (d : Nat) (hd : 4 ≤ d) (a0 : Nat × Nat) (x1 : Option (Nat × Nat)) (x2 : Int32) (x3 : Option (Nat × Nat)) (h : am_H) : am_Con m_X10_mayComment d [.inr (.inr (some a0)), .inr (.inr x1), .inl x2, .inr (.inr x3)] h (f_X10_mayComment a0 x1 x2 x3 h) := am_con (by decide +kernel) (Nat.le_of_ble_eq_true rfl) (by
  unfold f_X10_mayComment
  refine sim_aload_n dX10_mayComment_0 rfl ?_
  refine sim_iload_n dX10_mayComment_1 rfl ?_
  refine sim_aload_n dX10_mayComment_2 rfl ?_
  refine sim_gI 10 0 dX10_mayComment_3 rfl wf_RX10_73 (Nat.le_of_ble_eq_true rfl) rfl (fun v1 => ?_)
  refine sim_ao2 (fun a4 e => ?_)
  refine sim_virt (d - 1) e dX10_mayComment_6 (k_X9_isSeenBy (d - 1) (by omega) _ _ _ _) q_X9_isSeenBy rfl rfl wm_RX10_173 rfl rfl (by omega) (Nat.le_of_ble_eq_true rfl) am_nI (am_rI fun h2 v3 => ?_) am_eI
  refine sim_if_eq 24 dX10_mayComment_9 (by decide) (fun c => ?_) (fun c => ?_)
  · exact sim_lv (am_leN (am_leN (am_leN (am_leN am_leT)))) (t_X10_mayComment_24 d (by omega) _)
  · refine sim_aload_n dX10_mayComment_12 rfl ?_
    refine sim_aload_n dX10_mayComment_13 rfl ?_
    refine sim_gI 9 1 dX10_mayComment_14 rfl wf_RX10_116 (Nat.le_of_ble_eq_true rfl) rfl (fun v5 => ?_)
    refine sim_iload_n dX10_mayComment_17 rfl ?_
    refine sim_ao2 (fun a8 e => ?_)
    refine sim_virt (d - 1) e dX10_mayComment_18 (k_X10_isBlockedByAny (d - 1) (by omega) _ _ _ _) q_X10_isBlockedByAny rfl rfl wm_RX10_449 rfl rfl (by omega) (Nat.le_of_ble_eq_true rfl) am_nI (am_rI fun h6 v7 => ?_) am_eI
    refine sim_if_eq 26 dX10_mayComment_21 (by decide) (fun c => ?_) (fun c => ?_)
    · refine sim_aload_n dX10_mayComment_26 rfl ?_
      refine sim_ifnonnull 32 dX10_mayComment_27 (by decide) (fun c => ?_) (fun c => ?_)
      · refine sim_aload_n dX10_mayComment_32 rfl ?_
        refine sim_iload_n dX10_mayComment_33 rfl ?_
        refine sim_aload_n dX10_mayComment_34 rfl ?_
        refine sim_aload_n dX10_mayComment_35 rfl ?_
        refine sim_ao3 (fun a11 e => ?_)
        refine sim_virt (d - 1) e dX10_mayComment_36 (k_X10_isReadBy (d - 1) (by omega) _ _ _ _ _) q_X10_isReadBy rfl rfl wm_RX10_348 rfl rfl (by omega) (Nat.le_of_ble_eq_true rfl) am_nI (am_rI fun h9 v10 => ?_) am_eI
        refine sim_if_eq 65 dX10_mayComment_39 (by decide) (fun c => ?_) (fun c => ?_)
        · exact sim_lv (am_leN (am_leN (am_leN (am_leN am_leT)))) (t_X10_mayComment_65 d (by omega) _)
        · refine sim_aload_n dX10_mayComment_42 rfl ?_
          refine sim_ao0 (fun a14 e => ?_)
          refine sim_virt (d - 1) e dX10_mayComment_43 (k_X1_isFrozenHereOrAbove (d - 1) (by omega) _  _) q_X1_isFrozenHereOrAbove rfl rfl wm_RX10_452 rfl rfl (by omega) (Nat.le_of_ble_eq_true rfl) am_nI (am_rI fun h12 v13 => ?_) am_eI
          refine sim_if_ne 65 dX10_mayComment_46 (by decide) (fun c => ?_) (fun c => ?_)
          · exact sim_lv (am_leN (am_leN (am_leN (am_leN am_leT)))) (t_X10_mayComment_65 d (by omega) _)
          · refine sim_aload_n dX10_mayComment_49 rfl ?_
            refine sim_aload_n dX10_mayComment_50 rfl ?_
            refine sim_gI 1 1 dX10_mayComment_51 rfl wf_RX10_446 (Nat.le_of_ble_eq_true rfl) rfl (fun v15 => ?_)
            refine sim_iload_n dX10_mayComment_54 rfl ?_
            refine sim_ao2 (fun a18 e => ?_)
            refine sim_virt (d - 1) e dX10_mayComment_55 (k_X10_isBlockedBy (d - 1) (by omega) _ _ _ _) q_X10_isBlockedBy rfl rfl wm_RX10_455 rfl rfl (by omega) (Nat.le_of_ble_eq_true rfl) am_nI (am_rI fun h16 v17 => ?_) am_eI
            refine sim_if_ne 65 dX10_mayComment_58 (by decide) (fun c => ?_) (fun c => ?_)
            · exact sim_lv (am_leN (am_leN (am_leN (am_leN am_leT)))) (t_X10_mayComment_65 d (by omega) _)
            · refine sim_iconst (1) dX10_mayComment_61 (by decide +kernel) ?_
              refine sim_goto 66 dX10_mayComment_62 (by decide) ?_
              exact sim_lv (am_leN (am_leN (am_leN (am_leN am_leT)))) (t_X10_mayComment_66 d (by omega) _ _)
      · refine sim_iconst (1) dX10_mayComment_30 (by decide +kernel) ?_
        exact sim_zret dX10_mayComment_31 rfl
    · exact sim_lv (am_leN (am_leN (am_leN (am_leN am_leT)))) (t_X10_mayComment_24 d (by omega) _))
theorem q_X10_mayComment : am_Cal m_X10_mayComment 3 2 := ⟨am_mem 978 (w := Cond.code yX10_mayComment cX10_mayComment 4 (some .boolean)) (by decide +kernel) rfl, am_mem 56 (w := Cond.initialized RX10) (by decide +kernel) rfl, fun z => absurd z (by decide), fun _ => am_mem 977 (w := Cond.instanceMethod yX10_mayComment) (by decide +kernel) rfl, fun z => absurd z (by decide), fun _ => am_mem 23 (w := Cond.selects RX10 yX10_mayComment yX10_mayComment) (by decide +kernel) rfl, by decide +kernel, by decide +kernel, Nat.le_of_ble_eq_true rfl⟩
abbrev m_X1_init : am_M := (yX1_init, cX1_init, 5, none, [])
def f_X1_init (a0 : Nat × Nat) (x1 : Int32) (x2 : Int32) (x3 : Option (Nat × Nat)) (x4 : Int32) (h : am_H) : am_R := m_pI (some a0) 1 0 x1 h fun h1 => m_pI (some a0) 1 1 x2 h1 fun h2 => m_pR (some a0) 1 2 x3 h2 fun h3 => m_pZ (some a0) 1 5 x4 h3 fun h4 => m_rt h4 none
theorem k_X1_init (d : Nat) (hd : 1 ≤ d) (a0 : Nat × Nat) (x1 : Int32) (x2 : Int32) (x3 : Option (Nat × Nat)) (x4 : Int32) (h : am_H) : am_Con m_X1_init d [.inr (.inr (some a0)), .inl x1, .inl x2, .inr (.inr x3), .inl x4] h (f_X1_init a0 x1 x2 x3 x4 h) := am_con (by decide +kernel) (Nat.le_of_ble_eq_true rfl) (by
  unfold f_X1_init
  refine sim_aload_n dX1_init_0 rfl ?_
  refine sim_obj dX1_init_1 wm_RX1_1 wobj_i wobj_c (by omega) (Nat.le_of_ble_eq_true rfl) ?_
  refine sim_aload_n dX1_init_4 rfl ?_
  refine sim_iload_n dX1_init_5 rfl ?_
  refine sim_pI 1 0 dX1_init_6 rfl wf_RX1_7 (Nat.le_of_ble_eq_true rfl) rfl (Or.inr ⟨rfl, rfl, rfl⟩) rfl (fun h1 => ?_)
  refine sim_aload_n dX1_init_9 rfl ?_
  refine sim_iload_n dX1_init_10 rfl ?_
  refine sim_pI 1 1 dX1_init_11 rfl wf_RX1_13 (Nat.le_of_ble_eq_true rfl) rfl (Or.inr ⟨rfl, rfl, rfl⟩) rfl (fun h2 => ?_)
  refine sim_aload_n dX1_init_14 rfl ?_
  refine sim_aload_n dX1_init_15 rfl ?_
  refine sim_pR 1 2 dX1_init_16 rfl wf_RX1_16 (Nat.le_of_ble_eq_true rfl) rfl (Or.inr ⟨rfl, rfl, rfl⟩) (fun h3 => ?_)
  refine sim_aload_n dX1_init_19 rfl ?_
  refine sim_iload dX1_init_20 rfl ?_
  refine sim_pZ 1 5 dX1_init_22 rfl wf_RX1_20 (Nat.le_of_ble_eq_true rfl) rfl (Or.inl rfl) rfl (fun h4 => ?_)
  exact sim_vret dX1_init_25 rfl)
theorem q_X1_init : am_Cal m_X1_init 4 1 := ⟨am_mem 999 (w := Cond.code yX1_init cX1_init 5 none) (by decide +kernel) rfl, am_mem 77 (w := Cond.initialized RX1) (by decide +kernel) rfl, fun z => absurd z (by decide), fun _ => am_mem 998 (w := Cond.instanceMethod yX1_init) (by decide +kernel) rfl, fun _ => rfl, fun z => absurd z (by decide), by decide +kernel, by decide +kernel, Nat.le_of_ble_eq_true rfl⟩
abbrev m_X10_comment : am_M := (yX10_comment, cX10_comment, 7, some .int, [])
def f_X10_comment_106  (a0 : Nat × Nat) (x1 : Int32) (x2 : Int32) (x5 : Option (Nat × Nat)) (s0 : Int32) (h : am_H) : am_R := m_gR (some a0) 10 11 h fun o18 => m_gI (some a0) 10 12 h fun v19 => m_new 30 6 h fun a20 h21 => m_bW (f_X1_init a20 x1 x2 x5 s0 h21) fun h22 => m_sR o18 7 1 v19 (some a20) h22 fun h24 => m_gI (some a0) 10 12 h24 fun v25 => m_pI (some a0) 10 12 (v25 + (1 : Int32)) h24 fun h26 => m_gI (some a0) 10 12 h26 fun v27 => m_ri h26 (v27 - (1 : Int32))
theorem t_X10_comment_106 (d : Nat) (hd : 8 ≤ d)  (a0 : Nat × Nat) (x1 : Int32) (x2 : Int32) (x5 : Option (Nat × Nat)) (s0 : Int32) (h : am_H) : Sim m_X10_comment d 106 [some (.inr (.inr (some a0))), some (.inl x1), some (.inl x2), none, none, some (.inr (.inr x5)), none] [.inl s0] h (f_X10_comment_106  a0 x1 x2 x5 s0 h) := by
  unfold f_X10_comment_106
  refine sim_istore dX10_comment_106 (Nat.le_of_ble_eq_true rfl) ?_
  refine sim_aload_n dX10_comment_108 rfl ?_
  refine sim_gR 10 11 dX10_comment_109 rfl wf_RX10_61 (Nat.le_of_ble_eq_true rfl) rfl (fun o18 => ?_)
  refine sim_aload_n dX10_comment_112 rfl ?_
  refine sim_gI 10 12 dX10_comment_113 rfl wf_RX10_327 (Nat.le_of_ble_eq_true rfl) rfl (fun v19 => ?_)
  refine sim_nw 30 1 6 dX10_comment_116 rfl rfl wc_RX10_59 wi_RX1 wz_RX1 (fun a20 h21 => ?_)
  refine sim_dup_r dX10_comment_119 ?_
  refine sim_iload_n dX10_comment_120 rfl ?_
  refine sim_iload_n dX10_comment_121 rfl ?_
  refine sim_aload dX10_comment_122 rfl ?_
  refine sim_iload dX10_comment_124 rfl ?_
  refine sim_ctor (d - 1) dX10_comment_126 (k_X1_init (d - 1) (by omega) _ _ _ _ _ _) q_X1_init wm_RX10_336 rfl rfl (by omega) (Nat.le_of_ble_eq_true rfl) am_nW am_xW (am_rW fun h22 => ?_)
  refine sim_sR 7 rfl dX10_comment_129 (fun h24 => ?_)
  refine sim_aload_n dX10_comment_130 rfl ?_
  refine sim_dup_r dX10_comment_131 ?_
  refine sim_gI 10 12 dX10_comment_132 rfl wf_RX10_327 (Nat.le_of_ble_eq_true rfl) rfl (fun v25 => ?_)
  refine sim_iconst (1) dX10_comment_135 (by decide +kernel) ?_
  refine sim_iadd dX10_comment_136 ?_
  refine sim_pI 10 12 dX10_comment_137 rfl wf_RX10_327 (Nat.le_of_ble_eq_true rfl) rfl (Or.inl rfl) rfl (fun h26 => ?_)
  refine sim_aload_n dX10_comment_140 rfl ?_
  refine sim_gI 10 12 dX10_comment_141 rfl wf_RX10_327 (Nat.le_of_ble_eq_true rfl) rfl (fun v27 => ?_)
  refine sim_iconst (1) dX10_comment_144 (by decide +kernel) ?_
  refine sim_isub dX10_comment_145 ?_
  exact sim_iret dX10_comment_146 rfl
def f_X10_comment_105  (a0 : Nat × Nat) (x1 : Int32) (x2 : Int32) (x5 : Option (Nat × Nat)) (h : am_H) : am_R := f_X10_comment_106 a0 x1 x2 x5 (0 : Int32) h
theorem t_X10_comment_105 (d : Nat) (hd : 8 ≤ d)  (a0 : Nat × Nat) (x1 : Int32) (x2 : Int32) (x5 : Option (Nat × Nat)) (h : am_H) : Sim m_X10_comment d 105 [some (.inr (.inr (some a0))), some (.inl x1), some (.inl x2), none, none, some (.inr (.inr x5)), none] [] h (f_X10_comment_105  a0 x1 x2 x5 h) := by
  unfold f_X10_comment_105
  refine sim_iconst (0) dX10_comment_105 (by decide +kernel) ?_
  exact sim_lv (am_leS (am_leS (am_leS (am_leN (am_leN (am_leS (am_leN am_leT))))))) (t_X10_comment_106 d (by omega) _ _ _ _ _ _)
def f_X10_comment_73   (h : am_H) : am_R := m_ex h 2
theorem t_X10_comment_73 (d : Nat) (hd : 8 ≤ d)   (h : am_H) : Sim m_X10_comment d 73 [none, none, none, none, none, none, none] [] h (f_X10_comment_73   h) := by
  unfold f_X10_comment_73
  exact sim_throwW 2 (by decide) dX10_comment_73 dX10_comment_76 dX10_comment_77 dX10_comment_80 dX10_comment_83 wx_RX10_77 wy_2 ws_RX10_334 at_RX10_81 gd_RX10_81 (by omega) (Nat.le_of_ble_eq_true rfl)
def f_X10_comment_52  (a0 : Nat × Nat) (x1 : Int32) (x2 : Int32) (x4 : Option (Nat × Nat)) (x5 : Option (Nat × Nat)) (h : am_H) : am_R := m_gI (some a0) 10 12 h fun v10 => if (60 : Int32) ≤ v10 then (f_X10_comment_73 h) else (m_ao (some a0) 10 fun a13 => m_bI (f_X10_mayComment a13 x4 x2 x5 h) fun h11 v12 => if v12 = 0 then (f_X10_comment_73 h11) else (m_gI x4 9 10 h11 fun v14 => if v14 = 0 then (f_X10_comment_105 a0 x1 x2 x5 h11) else (m_ao x4 9 fun a17 => m_bI (f_X9_isOwnedBy a17 x2 h11) fun h15 v16 => if v16 = 0 then (f_X10_comment_106 a0 x1 x2 x5 (1 : Int32) h15) else (f_X10_comment_105 a0 x1 x2 x5 h15))))
theorem t_X10_comment_52 (d : Nat) (hd : 8 ≤ d)  (a0 : Nat × Nat) (x1 : Int32) (x2 : Int32) (x4 : Option (Nat × Nat)) (x5 : Option (Nat × Nat)) (h : am_H) : Sim m_X10_comment d 52 [some (.inr (.inr (some a0))), some (.inl x1), some (.inl x2), none, some (.inr (.inr x4)), some (.inr (.inr x5)), none] [] h (f_X10_comment_52  a0 x1 x2 x4 x5 h) := by
  unfold f_X10_comment_52
  refine sim_aload_n dX10_comment_52 rfl ?_
  refine sim_gI 10 12 dX10_comment_53 rfl wf_RX10_327 (Nat.le_of_ble_eq_true rfl) rfl (fun v10 => ?_)
  refine sim_bipush (60) dX10_comment_56 (by decide +kernel) ?_
  refine sim_ic_ge 73 dX10_comment_58 (by decide) (fun c => ?_) (fun c => ?_)
  · exact sim_lv (am_leN (am_leN (am_leN (am_leN (am_leN (am_leN (am_leN am_leT))))))) (t_X10_comment_73 d (by omega) _)
  · refine sim_aload_n dX10_comment_61 rfl ?_
    refine sim_aload dX10_comment_62 rfl ?_
    refine sim_iload_n dX10_comment_64 rfl ?_
    refine sim_aload dX10_comment_65 rfl ?_
    refine sim_ao3 (fun a13 e => ?_)
    refine sim_virt (d - 1) e dX10_comment_67 (k_X10_mayComment (d - 1) (by omega) _ _ _ _ _) q_X10_mayComment rfl rfl wm_RX10_330 rfl rfl (by omega) (Nat.le_of_ble_eq_true rfl) am_nI (am_rI fun h11 v12 => ?_) am_eI
    refine sim_if_ne 84 dX10_comment_70 (by decide) (fun c => ?_) (fun c => ?_)
    · refine sim_aload dX10_comment_84 rfl ?_
      refine sim_gI 9 10 dX10_comment_86 rfl wf_RX10_315 (Nat.le_of_ble_eq_true rfl) rfl (fun v14 => ?_)
      refine sim_if_eq 105 dX10_comment_89 (by decide) (fun c => ?_) (fun c => ?_)
      · exact sim_lv (am_leS (am_leS (am_leS (am_leN (am_leN (am_leS (am_leN am_leT))))))) (t_X10_comment_105 d (by omega) _ _ _ _ _)
      · refine sim_aload dX10_comment_92 rfl ?_
        refine sim_iload_n dX10_comment_94 rfl ?_
        refine sim_ao1 (fun a17 e => ?_)
        refine sim_virt (d - 1) e dX10_comment_95 (k_X9_isOwnedBy (d - 1) (by omega) _ _ _) q_X9_isOwnedBy rfl rfl wm_RX10_125 rfl rfl (by omega) (Nat.le_of_ble_eq_true rfl) am_nI (am_rI fun h15 v16 => ?_) am_eI
        refine sim_if_ne 105 dX10_comment_98 (by decide) (fun c => ?_) (fun c => ?_)
        · exact sim_lv (am_leS (am_leS (am_leS (am_leN (am_leN (am_leS (am_leN am_leT))))))) (t_X10_comment_105 d (by omega) _ _ _ _ _)
        · refine sim_iconst (1) dX10_comment_101 (by decide +kernel) ?_
          refine sim_goto 106 dX10_comment_102 (by decide) ?_
          exact sim_lv (am_leS (am_leS (am_leS (am_leN (am_leN (am_leS (am_leN am_leT))))))) (t_X10_comment_106 d (by omega) _ _ _ _ _ _)
    · exact sim_lv (am_leN (am_leN (am_leN (am_leN (am_leN (am_leN (am_leN am_leT))))))) (t_X10_comment_73 d (by omega) _)
def f_X10_comment_25  (a0 : Nat × Nat) (x1 : Int32) (x2 : Int32) (x4 : Option (Nat × Nat)) (s0 : Option (Nat × Nat)) (h : am_H) : am_R := if s0 = none then (f_X10_comment_52 a0 x1 x2 x4 s0 h) else (m_gI s0 1 0 h fun v9 => if v9 = x1 then (f_X10_comment_52 a0 x1 x2 x4 s0 h) else (m_ex h 1))
theorem t_X10_comment_25 (d : Nat) (hd : 8 ≤ d)  (a0 : Nat × Nat) (x1 : Int32) (x2 : Int32) (x4 : Option (Nat × Nat)) (s0 : Option (Nat × Nat)) (h : am_H) : Sim m_X10_comment d 25 [some (.inr (.inr (some a0))), some (.inl x1), some (.inl x2), none, some (.inr (.inr x4)), none, none] [.inr (.inr s0)] h (f_X10_comment_25  a0 x1 x2 x4 s0 h) := by
  unfold f_X10_comment_25
  refine sim_astore dX10_comment_25 (Nat.le_of_ble_eq_true rfl) ?_
  refine sim_aload dX10_comment_27 rfl ?_
  refine sim_ifnull 52 dX10_comment_29 (by decide) (fun c => ?_) (fun c => ?_)
  · exact sim_lv (am_leS (am_leS (am_leS (am_leN (am_leS (am_leS (am_leN am_leT))))))) (t_X10_comment_52 d (by omega) _ _ _ _ _ _)
  · refine sim_aload dX10_comment_32 rfl ?_
    refine sim_gI 1 0 dX10_comment_34 rfl wf_RX10_322 (Nat.le_of_ble_eq_true rfl) rfl (fun v9 => ?_)
    refine sim_iload_n dX10_comment_37 rfl ?_
    refine sim_ic_eq 52 dX10_comment_38 (by decide) (fun c => ?_) (fun c => ?_)
    · exact sim_lv (am_leS (am_leS (am_leS (am_leN (am_leS (am_leS (am_leN am_leT))))))) (t_X10_comment_52 d (by omega) _ _ _ _ _ _)
    · exact sim_throwW 1 (by decide) dX10_comment_41 dX10_comment_44 dX10_comment_45 dX10_comment_48 dX10_comment_51 wx_RX10_66 wy_1 ws_RX10_325 at_RX10_70 gd_RX10_70 (by omega) (Nat.le_of_ble_eq_true rfl)
def f_X10_comment (a0 : Nat × Nat) (x1 : Int32) (x2 : Int32) (x3 : Int32) (h : am_H) : am_R := m_ao (some a0) 10 fun a3 => m_bR (f_X10_workAt a3 x1 h) fun h1 o2 => m_bV (f_X10_checkFace x2 h1) fun h4 => if x3 = (-1 : Int32) then (f_X10_comment_25 a0 x1 x2 o2 none h4) else (m_ao (some a0) 10 fun a8 => m_bR (f_X10_commentAt a8 x3 h4) fun h6 o7 => f_X10_comment_25 a0 x1 x2 o2 o7 h6)
theorem k_X10_comment (d : Nat) (hd : 8 ≤ d) (a0 : Nat × Nat) (x1 : Int32) (x2 : Int32) (x3 : Int32) (h : am_H) : am_Con m_X10_comment d [.inr (.inr (some a0)), .inl x1, .inl x2, .inl x3] h (f_X10_comment a0 x1 x2 x3 h) := am_con (by decide +kernel) (Nat.le_of_ble_eq_true rfl) (by
  unfold f_X10_comment
  refine sim_aload_n dX10_comment_0 rfl ?_
  refine sim_iload_n dX10_comment_1 rfl ?_
  refine sim_ao1 (fun a3 e => ?_)
  refine sim_virt (d - 1) e dX10_comment_2 (k_X10_workAt (d - 1) (by omega) _ _ _) q_X10_workAt rfl rfl wm_RX10_112 rfl rfl (by omega) (Nat.le_of_ble_eq_true rfl) am_nR (am_rR fun h1 o2 => ?_) am_eR
  refine sim_astore dX10_comment_5 (Nat.le_of_ble_eq_true rfl) ?_
  refine sim_iload_n dX10_comment_7 rfl ?_
  refine sim_static (d - 1) dX10_comment_8 (k_X10_checkFace (d - 1) (by omega) _ _) q_X10_checkFace wm_RX10_99 rfl rfl (by omega) (Nat.le_of_ble_eq_true rfl) am_nV (am_rV fun h4 => ?_) am_eV
  refine sim_iload_n dX10_comment_11 rfl ?_
  refine sim_iconst (-1) dX10_comment_12 (by decide +kernel) ?_
  refine sim_ic_ne 20 dX10_comment_13 (by decide) (fun c => ?_) (fun c => ?_)
  · refine sim_aload_n dX10_comment_20 rfl ?_
    refine sim_iload_n dX10_comment_21 rfl ?_
    refine sim_ao1 (fun a8 e => ?_)
    refine sim_virt (d - 1) e dX10_comment_22 (k_X10_commentAt (d - 1) (by omega) _ _ _) q_X10_commentAt rfl rfl wm_RX10_318 rfl rfl (by omega) (Nat.le_of_ble_eq_true rfl) am_nR (am_rR fun h6 o7 => ?_) am_eR
    exact sim_lv (am_leS (am_leS (am_leS (am_leN (am_leS (am_leN (am_leN am_leT))))))) (t_X10_comment_25 d (by omega) _ _ _ _ _ _)
  · refine sim_null dX10_comment_16 ?_
    refine sim_goto 25 dX10_comment_17 (by decide) ?_
    exact sim_lv (am_leS (am_leS (am_leS (am_leN (am_leS (am_leN (am_leN am_leT))))))) (t_X10_comment_25 d (by omega) _ _ _ _ _ _))
theorem q_X10_comment : am_Cal m_X10_comment 3 2 := ⟨am_mem 968 (w := Cond.code yX10_comment cX10_comment 7 (some .int)) (by decide +kernel) rfl, am_mem 56 (w := Cond.initialized RX10) (by decide +kernel) rfl, fun z => absurd z (by decide), fun _ => am_mem 966 (w := Cond.instanceMethod yX10_comment) (by decide +kernel) rfl, fun z => absurd z (by decide), fun _ => am_mem 967 (w := Cond.selects RX10 yX10_comment yX10_comment) (by decide +kernel) rfl, by decide +kernel, by decide +kernel, Nat.le_of_ble_eq_true rfl⟩
abbrev m_L_comment : am_M := (yL_comment, cL_comment, 6, some .int, [(0, 12, 15, 21), (0, 12, 19, 13), (0, 12, 23, 15)])
def f_L_comment (x0 : Option (Nat × Nat)) (x1 : Int32) (x2 : Int32) (x3 : Int32) (x4 : Option (Nat × Nat)) (h : am_H) : am_R := m_ao x0 10 fun a3 => m_bIx (f_X10_comment a3 x1 x2 x3 h) (fun h1 v2 => m_sL x4 (0 : Int32) (Int32.toInt64 v2) h1 fun h6 => m_ri h6 (0 : Int32)) (fun h4 e5 => if e5 = 0 then (m_ri h4 (1 : Int32)) else if e5 = 1 then (m_ri h4 (2 : Int32)) else if e5 = 2 then (m_ri h4 (3 : Int32)) else none)
theorem k_L_comment (d : Nat) (hd : 9 ≤ d) (x0 : Option (Nat × Nat)) (x1 : Int32) (x2 : Int32) (x3 : Int32) (x4 : Option (Nat × Nat)) (h : am_H) : am_Con m_L_comment d [.inr (.inr x0), .inl x1, .inl x2, .inl x3, .inr (.inr x4)] h (f_L_comment x0 x1 x2 x3 x4 h) := am_conX (by decide +kernel) (Nat.le_of_ble_eq_true rfl) (by
  unfold f_L_comment
  refine sim_aload dL_comment_0 rfl ?_
  refine sim_iconst (0) dL_comment_2 (by decide +kernel) ?_
  refine sim_aload_n dL_comment_3 rfl ?_
  refine sim_iload_n dL_comment_4 rfl ?_
  refine sim_iload_n dL_comment_5 rfl ?_
  refine sim_iload_n dL_comment_6 rfl ?_
  refine sim_ao3 (fun a3 e => ?_)
  refine sim_virt (d - 1) e dL_comment_7 (k_X10_comment (d - 1) (by omega) _ _ _ _ _) q_X10_comment rfl rfl wm_RL_106 rfl rfl (by omega) (Nat.le_of_ble_eq_true rfl) am_nIx (am_rIx fun h1 v2 => ?_) (am_eIx fun h9 k9 => ?_)
  · refine sim_i2l dL_comment_10 ?_
    refine sim_sL dL_comment_11 (fun h6 => ?_)
    refine sim_goto 27 dL_comment_12 (by decide) ?_
    refine sim_iconst (0) dL_comment_27 (by decide +kernel) ?_
    exact sim_iret dL_comment_28 rfl
  · refine simx_case (fun cx => ?_) (fun cx => ?_)
    · subst cx
      refine simx_catch [] (0, 12, 15, 21) [(0, 12, 19, 13), (0, 12, 23, 15)] rfl ⟨by decide, by decide⟩ (by decide) wx_RL_21 wca_0 (by decide) (fun z hz => by cases hz) ?_
      refine sim_astore dL_comment_15 (Nat.le_of_ble_eq_true rfl) ?_
      refine sim_iconst (1) dL_comment_17 (by decide +kernel) ?_
      exact sim_iret dL_comment_18 rfl
    refine simx_case (fun cx => ?_) (fun cx => ?_)
    · subst cx
      refine simx_catch [(0, 12, 15, 21)] (0, 12, 19, 13) [(0, 12, 23, 15)] rfl ⟨by decide, by decide⟩ (by decide) wx_RL_13 wca_1 (by decide) (fun z hz => by simp only [List.mem_cons, List.not_mem_nil, or_false] at hz; subst hz; exact ⟨by decide, 0, _, by decide, by decide, wx_RL_21⟩) ?_
      refine sim_astore dL_comment_19 (Nat.le_of_ble_eq_true rfl) ?_
      refine sim_iconst (2) dL_comment_21 (by decide +kernel) ?_
      exact sim_iret dL_comment_22 rfl
    refine simx_case (fun cx => ?_) (fun cx => ?_)
    · subst cx
      refine simx_catch [(0, 12, 15, 21), (0, 12, 19, 13)] (0, 12, 23, 15) [] rfl ⟨by decide, by decide⟩ (by decide) wx_RL_15 wca_2 (by decide) (fun z hz => by
        simp only [List.mem_cons, List.not_mem_nil, or_false] at hz
        rcases hz with rfl | rfl
        · exact ⟨by decide, 0, _, by decide, by decide, wx_RL_21⟩
        · exact ⟨by decide, 1, _, by decide, by decide, wx_RL_13⟩) ?_
      refine sim_astore dL_comment_23 (Nat.le_of_ble_eq_true rfl) ?_
      refine sim_iconst (3) dL_comment_25 (by decide +kernel) ?_
      exact sim_iret dL_comment_26 rfl
    exact simx_none)
theorem q_L_comment : am_Cal m_L_comment 5 0 := ⟨am_mem 964 (w := Cond.codeWith yL_comment cL_comment 6 (some .int) [(0, 12, 15, 21), (0, 12, 19, 13), (0, 12, 23, 15)]) (by decide +kernel) rfl, am_mem 55 (w := Cond.initialized RL) (by decide +kernel) rfl, fun _ => am_mem 963 (w := Cond.static yL_comment) (by decide +kernel) rfl, fun z => absurd rfl z, fun z => absurd z (by decide), fun z => absurd z (by decide), by decide +kernel, by decide +kernel, Nat.le_of_ble_eq_true rfl⟩
abbrev m_J6_bitCount_0f7a4 : am_M := (yJ6_bitCount_0f7a4, cJ6_bitCount_0f7a4, 1, some .int, [])
def f_J6_bitCount_0f7a4 (x0 : Int32) (h : am_H) : am_R := m_ri h ((((((((x0 - ((m_ushr x0 (1 : Int32)) &&& (1431655765 : Int32))) &&& (858993459 : Int32)) + ((m_ushr (x0 - ((m_ushr x0 (1 : Int32)) &&& (1431655765 : Int32))) (2 : Int32)) &&& (858993459 : Int32))) + (m_ushr (((x0 - ((m_ushr x0 (1 : Int32)) &&& (1431655765 : Int32))) &&& (858993459 : Int32)) + ((m_ushr (x0 - ((m_ushr x0 (1 : Int32)) &&& (1431655765 : Int32))) (2 : Int32)) &&& (858993459 : Int32))) (4 : Int32))) &&& (252645135 : Int32)) + (m_ushr (((((x0 - ((m_ushr x0 (1 : Int32)) &&& (1431655765 : Int32))) &&& (858993459 : Int32)) + ((m_ushr (x0 - ((m_ushr x0 (1 : Int32)) &&& (1431655765 : Int32))) (2 : Int32)) &&& (858993459 : Int32))) + (m_ushr (((x0 - ((m_ushr x0 (1 : Int32)) &&& (1431655765 : Int32))) &&& (858993459 : Int32)) + ((m_ushr (x0 - ((m_ushr x0 (1 : Int32)) &&& (1431655765 : Int32))) (2 : Int32)) &&& (858993459 : Int32))) (4 : Int32))) &&& (252645135 : Int32)) (8 : Int32))) + (m_ushr ((((((x0 - ((m_ushr x0 (1 : Int32)) &&& (1431655765 : Int32))) &&& (858993459 : Int32)) + ((m_ushr (x0 - ((m_ushr x0 (1 : Int32)) &&& (1431655765 : Int32))) (2 : Int32)) &&& (858993459 : Int32))) + (m_ushr (((x0 - ((m_ushr x0 (1 : Int32)) &&& (1431655765 : Int32))) &&& (858993459 : Int32)) + ((m_ushr (x0 - ((m_ushr x0 (1 : Int32)) &&& (1431655765 : Int32))) (2 : Int32)) &&& (858993459 : Int32))) (4 : Int32))) &&& (252645135 : Int32)) + (m_ushr (((((x0 - ((m_ushr x0 (1 : Int32)) &&& (1431655765 : Int32))) &&& (858993459 : Int32)) + ((m_ushr (x0 - ((m_ushr x0 (1 : Int32)) &&& (1431655765 : Int32))) (2 : Int32)) &&& (858993459 : Int32))) + (m_ushr (((x0 - ((m_ushr x0 (1 : Int32)) &&& (1431655765 : Int32))) &&& (858993459 : Int32)) + ((m_ushr (x0 - ((m_ushr x0 (1 : Int32)) &&& (1431655765 : Int32))) (2 : Int32)) &&& (858993459 : Int32))) (4 : Int32))) &&& (252645135 : Int32)) (8 : Int32))) (16 : Int32))) &&& (63 : Int32))
theorem k_J6_bitCount_0f7a4 (d : Nat) (hd : 0 ≤ d) (x0 : Int32) (h : am_H) : am_Con m_J6_bitCount_0f7a4 d [.inl x0] h (f_J6_bitCount_0f7a4 x0 h) := am_con (by decide +kernel) (Nat.le_of_ble_eq_true rfl) (by
  unfold f_J6_bitCount_0f7a4
  refine sim_iload_n dJ6_bitCount_0f7a4_0 rfl ?_
  refine sim_iload_n dJ6_bitCount_0f7a4_1 rfl ?_
  refine sim_iconst (1) dJ6_bitCount_0f7a4_2 (by decide +kernel) ?_
  refine sim_iushr dJ6_bitCount_0f7a4_3 ?_
  refine sim_ldcw (1431655765) dJ6_bitCount_0f7a4_4 wk_RJ6_265 ?_
  refine sim_iand dJ6_bitCount_0f7a4_7 ?_
  refine sim_isub dJ6_bitCount_0f7a4_8 ?_
  refine sim_istore_n dJ6_bitCount_0f7a4_9 (Nat.le_of_ble_eq_true rfl) ?_
  refine sim_iload_n dJ6_bitCount_0f7a4_10 rfl ?_
  refine sim_ldcw (858993459) dJ6_bitCount_0f7a4_11 wk_RJ6_266 ?_
  refine sim_iand dJ6_bitCount_0f7a4_14 ?_
  refine sim_iload_n dJ6_bitCount_0f7a4_15 rfl ?_
  refine sim_iconst (2) dJ6_bitCount_0f7a4_16 (by decide +kernel) ?_
  refine sim_iushr dJ6_bitCount_0f7a4_17 ?_
  refine sim_ldcw (858993459) dJ6_bitCount_0f7a4_18 wk_RJ6_266 ?_
  refine sim_iand dJ6_bitCount_0f7a4_21 ?_
  refine sim_iadd dJ6_bitCount_0f7a4_22 ?_
  refine sim_istore_n dJ6_bitCount_0f7a4_23 (Nat.le_of_ble_eq_true rfl) ?_
  refine sim_iload_n dJ6_bitCount_0f7a4_24 rfl ?_
  refine sim_iload_n dJ6_bitCount_0f7a4_25 rfl ?_
  refine sim_iconst (4) dJ6_bitCount_0f7a4_26 (by decide +kernel) ?_
  refine sim_iushr dJ6_bitCount_0f7a4_27 ?_
  refine sim_iadd dJ6_bitCount_0f7a4_28 ?_
  refine sim_ldcw (252645135) dJ6_bitCount_0f7a4_29 wk_RJ6_267 ?_
  refine sim_iand dJ6_bitCount_0f7a4_32 ?_
  refine sim_istore_n dJ6_bitCount_0f7a4_33 (Nat.le_of_ble_eq_true rfl) ?_
  refine sim_iload_n dJ6_bitCount_0f7a4_34 rfl ?_
  refine sim_iload_n dJ6_bitCount_0f7a4_35 rfl ?_
  refine sim_bipush (8) dJ6_bitCount_0f7a4_36 (by decide +kernel) ?_
  refine sim_iushr dJ6_bitCount_0f7a4_38 ?_
  refine sim_iadd dJ6_bitCount_0f7a4_39 ?_
  refine sim_istore_n dJ6_bitCount_0f7a4_40 (Nat.le_of_ble_eq_true rfl) ?_
  refine sim_iload_n dJ6_bitCount_0f7a4_41 rfl ?_
  refine sim_iload_n dJ6_bitCount_0f7a4_42 rfl ?_
  refine sim_bipush (16) dJ6_bitCount_0f7a4_43 (by decide +kernel) ?_
  refine sim_iushr dJ6_bitCount_0f7a4_45 ?_
  refine sim_iadd dJ6_bitCount_0f7a4_46 ?_
  refine sim_istore_n dJ6_bitCount_0f7a4_47 (Nat.le_of_ble_eq_true rfl) ?_
  refine sim_iload_n dJ6_bitCount_0f7a4_48 rfl ?_
  refine sim_bipush (63) dJ6_bitCount_0f7a4_49 (by decide +kernel) ?_
  refine sim_iand dJ6_bitCount_0f7a4_51 ?_
  exact sim_iret dJ6_bitCount_0f7a4_52 rfl)
theorem q_J6_bitCount_0f7a4 : am_Cal m_J6_bitCount_0f7a4 1 0 := ⟨am_mem 352 (w := Cond.code yJ6_bitCount_0f7a4 cJ6_bitCount_0f7a4 1 (some .int)) (by decide +kernel) rfl, am_mem 72 (w := Cond.initialized RJ6) (by decide +kernel) rfl, fun _ => am_mem 351 (w := Cond.static yJ6_bitCount_0f7a4) (by decide +kernel) rfl, fun z => absurd rfl z, fun z => absurd z (by decide), fun z => absurd z (by decide), by decide +kernel, by decide +kernel, Nat.le_of_ble_eq_true rfl⟩
abbrev m_X3_firstDayOfAny : am_M := (yX3_firstDayOfAny, cX3_firstDayOfAny, 4, some .int, [])
def f_X3_firstDayOfAny_31 (rc6 : Nat × Nat → Int32 → Int32 → Int32 → am_H → am_R) (a0 : Nat × Nat) (x1 : Int32) (x2 : Int32) (x3 : Int32) (h : am_H) : am_R := rc6 a0 x1 x2 (x3 + 1) h
theorem t_X3_firstDayOfAny_31 (d : Nat) (hd : 1 ≤ d) (rc6 : Nat × Nat → Int32 → Int32 → Int32 → am_H → am_R) (hrc6 : ∀ a0 x1 x2 x3 h, Sim m_X3_firstDayOfAny d 6 [some (.inr (.inr (some a0))), some (.inl x1), some (.inl x2), some (.inl x3)] [] h (rc6 a0 x1 x2 x3 h)) (a0 : Nat × Nat) (x1 : Int32) (x2 : Int32) (x3 : Int32) (h : am_H) : Sim m_X3_firstDayOfAny d 31 [some (.inr (.inr (some a0))), some (.inl x1), some (.inl x2), some (.inl x3)] [] h (f_X3_firstDayOfAny_31 rc6 a0 x1 x2 x3 h) := by
  unfold f_X3_firstDayOfAny_31
  refine sim_iinc (1) dX3_firstDayOfAny_31 rfl (by decide +kernel) (Nat.le_of_ble_eq_true rfl) ?_
  refine sim_goto 6 dX3_firstDayOfAny_34 (by decide) ?_
  exact sim_lv (am_leS (am_leS (am_leS (am_leS am_leT)))) (hrc6 _ _ _ _ _)
def f_X3_firstDayOfAny_6  : Nat → Nat × Nat → Int32 → Int32 → Int32 → am_H → am_R
  | 0, _, _, _, _, _ => none
  | n + 1, a0, x1, x2, x3, h => if (12 : Int32) ≤ x3 then (m_ri h x2) else (m_bJ (f_X10_has x1 x3 h) fun h1 v2 => if v2 = 0 then (f_X3_firstDayOfAny_31 (f_X3_firstDayOfAny_6  n) a0 x1 x2 x3 h1) else (m_gR (some a0) 3 2 h1 fun o3 => m_aI o3 0 x3 h1 fun v4 => f_X3_firstDayOfAny_31 (f_X3_firstDayOfAny_6  n) a0 x1 (m_min x2 v4) x3 h1))
theorem t_X3_firstDayOfAny_6 (d : Nat) (hd : 1 ≤ d)  : ∀ (n : Nat) (a0 : Nat × Nat) (x1 : Int32) (x2 : Int32) (x3 : Int32) (h : am_H), Sim m_X3_firstDayOfAny d 6 [some (.inr (.inr (some a0))), some (.inl x1), some (.inl x2), some (.inl x3)] [] h (f_X3_firstDayOfAny_6  n a0 x1 x2 x3 h) := by
  intro n
  induction n with
  | zero => intros; exact sim_none
  | succ n hrc6 =>
    intro a0 x1 x2 x3 h
    rw [f_X3_firstDayOfAny_6]
    refine sim_iload_n dX3_firstDayOfAny_6 rfl ?_
    refine sim_bipush (12) dX3_firstDayOfAny_7 (by decide +kernel) ?_
    refine sim_ic_ge 37 dX3_firstDayOfAny_9 (by decide) (fun c => ?_) (fun c => ?_)
    · refine sim_iload_n dX3_firstDayOfAny_37 rfl ?_
      exact sim_iret dX3_firstDayOfAny_38 rfl
    · refine sim_iload_n dX3_firstDayOfAny_12 rfl ?_
      refine sim_iload_n dX3_firstDayOfAny_13 rfl ?_
      refine sim_staticN (d - 1) dX3_firstDayOfAny_14 (k_X10_has (d - 1) (by omega) _ _ _) q_X10_has wn_RX3_27 rfl rfl (by omega) (Nat.le_of_ble_eq_true rfl) am_nJ am_xJ (am_rJ fun h1 v2 => ?_)
      refine sim_if_eq 31 dX3_firstDayOfAny_17 (by decide) (fun c => ?_) (fun c => ?_)
      · exact sim_lv (am_leS (am_leS (am_leS (am_leS am_leT)))) (t_X3_firstDayOfAny_31 d (by omega) _ hrc6 _ _ _ _ _)
      · refine sim_iload_n dX3_firstDayOfAny_20 rfl ?_
        refine sim_aload_n dX3_firstDayOfAny_21 rfl ?_
        refine sim_gR 3 2 dX3_firstDayOfAny_22 rfl wf_RX3_15 (Nat.le_of_ble_eq_true rfl) rfl (fun o3 => ?_)
        refine sim_iload_n dX3_firstDayOfAny_25 rfl ?_
        refine sim_aI dX3_firstDayOfAny_26 (fun v4 => ?_)
        refine sim_mmin dX3_firstDayOfAny_27 wm_RX3_31 wms_min wz_RJ9 wmc_min (by omega) (Nat.le_of_ble_eq_true rfl) ?_
        refine sim_istore_n dX3_firstDayOfAny_30 (Nat.le_of_ble_eq_true rfl) ?_
        exact sim_lv (am_leS (am_leS (am_leS (am_leS am_leT)))) (t_X3_firstDayOfAny_31 d (by omega) _ hrc6 _ _ _ _ _)
def f_X3_firstDayOfAny (a0 : Nat × Nat) (x1 : Int32) (h : am_H) : am_R := f_X3_firstDayOfAny_6 5000 a0 x1 (2001 : Int32) (0 : Int32) h
theorem k_X3_firstDayOfAny (d : Nat) (hd : 1 ≤ d) (a0 : Nat × Nat) (x1 : Int32) (h : am_H) : am_Con m_X3_firstDayOfAny d [.inr (.inr (some a0)), .inl x1] h (f_X3_firstDayOfAny a0 x1 h) := am_con (by decide +kernel) (Nat.le_of_ble_eq_true rfl) (by
  unfold f_X3_firstDayOfAny
  refine sim_sipush (2001) dX3_firstDayOfAny_0 (by decide +kernel) ?_
  refine sim_istore_n dX3_firstDayOfAny_3 (Nat.le_of_ble_eq_true rfl) ?_
  refine sim_iconst (0) dX3_firstDayOfAny_4 (by decide +kernel) ?_
  refine sim_istore_n dX3_firstDayOfAny_5 (Nat.le_of_ble_eq_true rfl) ?_
  exact sim_lv (am_leS (am_leS (am_leS (am_leS am_leT)))) (t_X3_firstDayOfAny_6 d (by omega) _ _ _ _ _ _))
theorem q_X3_firstDayOfAny : am_Cal m_X3_firstDayOfAny 1 2 := ⟨am_mem 1078 (w := Cond.code yX3_firstDayOfAny cX3_firstDayOfAny 4 (some .int)) (by decide +kernel) rfl, am_mem 62 (w := Cond.initialized RX3) (by decide +kernel) rfl, fun z => absurd z (by decide), fun _ => am_mem 1076 (w := Cond.instanceMethod yX3_firstDayOfAny) (by decide +kernel) rfl, fun z => absurd z (by decide), fun _ => am_mem 1077 (w := Cond.selects RX3 yX3_firstDayOfAny yX3_firstDayOfAny) (by decide +kernel) rfl, by decide +kernel, by decide +kernel, Nat.le_of_ble_eq_true rfl⟩
abbrev m_X9_outDay : am_M := (yX9_outDay, cX9_outDay, 2, some .int, [])
def f_X9_outDay (a0 : Nat × Nat) (x1 : Int32) (h : am_H) : am_R := m_gR (some a0) 9 2 h fun o1 => m_aI o1 0 x1 h fun v2 => m_gI (some a0) 9 4 h fun v3 => m_ri h (m_max v2 v3)
theorem k_X9_outDay (d : Nat) (hd : 1 ≤ d) (a0 : Nat × Nat) (x1 : Int32) (h : am_H) : am_Con m_X9_outDay d [.inr (.inr (some a0)), .inl x1] h (f_X9_outDay a0 x1 h) := am_con (by decide +kernel) (Nat.le_of_ble_eq_true rfl) (by
  unfold f_X9_outDay
  refine sim_aload_n dX9_outDay_0 rfl ?_
  refine sim_gR 9 2 dX9_outDay_1 rfl wf_RX9_9 (Nat.le_of_ble_eq_true rfl) rfl (fun o1 => ?_)
  refine sim_iload_n dX9_outDay_4 rfl ?_
  refine sim_aI dX9_outDay_5 (fun v2 => ?_)
  refine sim_aload_n dX9_outDay_6 rfl ?_
  refine sim_gI 9 4 dX9_outDay_7 rfl wf_RX9_15 (Nat.le_of_ble_eq_true rfl) rfl (fun v3 => ?_)
  refine sim_mmax dX9_outDay_10 wm_RX9_56 wms_max wz_RJ9 wmc_max (by omega) (Nat.le_of_ble_eq_true rfl) ?_
  exact sim_iret dX9_outDay_13 rfl)
theorem q_X9_outDay : am_Cal m_X9_outDay 1 2 := ⟨am_mem 895 (w := Cond.code yX9_outDay cX9_outDay 2 (some .int)) (by decide +kernel) rfl, am_mem 71 (w := Cond.initialized RX9) (by decide +kernel) rfl, fun z => absurd z (by decide), fun _ => am_mem 893 (w := Cond.instanceMethod yX9_outDay) (by decide +kernel) rfl, fun z => absurd z (by decide), fun _ => am_mem 894 (w := Cond.selects RX9 yX9_outDay yX9_outDay) (by decide +kernel) rfl, by decide +kernel, by decide +kernel, Nat.le_of_ble_eq_true rfl⟩
abbrev m_X9_chaptersOutFrom : am_M := (yX9_chaptersOutFrom, cX9_chaptersOutFrom, 4, some .int, [])
def f_X9_chaptersOutFrom_28 (rc4 : Nat × Nat → Int32 → Int32 → Int32 → am_H → am_R) (a0 : Nat × Nat) (x1 : Int32) (x3 : Int32) (s0 : Int32) (s1 : Int32) (s2 : Int32) (h : am_H) : am_R := m_bJ (f_X10_with s2 s1 s0 h) fun h5 v6 => rc4 a0 x1 v6 (x3 + 1) h5
theorem t_X9_chaptersOutFrom_28 (d : Nat) (hd : 2 ≤ d) (rc4 : Nat × Nat → Int32 → Int32 → Int32 → am_H → am_R) (hrc4 : ∀ a0 x1 x2 x3 h, Sim m_X9_chaptersOutFrom d 4 [some (.inr (.inr (some a0))), some (.inl x1), some (.inl x2), some (.inl x3)] [] h (rc4 a0 x1 x2 x3 h)) (a0 : Nat × Nat) (x1 : Int32) (x3 : Int32) (s0 : Int32) (s1 : Int32) (s2 : Int32) (h : am_H) : Sim m_X9_chaptersOutFrom d 28 [some (.inr (.inr (some a0))), some (.inl x1), none, some (.inl x3)] [.inl s0, .inl s1, .inl s2] h (f_X9_chaptersOutFrom_28 rc4 a0 x1 x3 s0 s1 s2 h) := by
  unfold f_X9_chaptersOutFrom_28
  refine sim_staticN (d - 1) dX9_chaptersOutFrom_28 (k_X10_with (d - 1) (by omega) _ _ _ _) q_X10_with wn_RX9_69 rfl rfl (by omega) (Nat.le_of_ble_eq_true rfl) am_nJ am_xJ (am_rJ fun h5 v6 => ?_)
  refine sim_istore_n dX9_chaptersOutFrom_31 (Nat.le_of_ble_eq_true rfl) ?_
  refine sim_iinc (1) dX9_chaptersOutFrom_32 rfl (by decide +kernel) (Nat.le_of_ble_eq_true rfl) ?_
  refine sim_goto 4 dX9_chaptersOutFrom_35 (by decide) ?_
  exact sim_lv (am_leS (am_leS (am_leS (am_leS am_leT)))) (hrc4 _ _ _ _ _)
def f_X9_chaptersOutFrom_4  : Nat → Nat × Nat → Int32 → Int32 → Int32 → am_H → am_R
  | 0, _, _, _, _, _ => none
  | n + 1, a0, x1, x2, x3, h => m_gI (some a0) 9 3 h fun v1 => if v1 ≤ x3 then (m_ri h x2) else (m_ao (some a0) 9 fun a4 => m_bI (f_X9_outDay a4 x3 h) fun h2 v3 => if v3 < x1 then (f_X9_chaptersOutFrom_28 (f_X9_chaptersOutFrom_4  n) a0 x1 x3 (0 : Int32) x3 x2 h2) else (f_X9_chaptersOutFrom_28 (f_X9_chaptersOutFrom_4  n) a0 x1 x3 (1 : Int32) x3 x2 h2))
theorem t_X9_chaptersOutFrom_4 (d : Nat) (hd : 2 ≤ d)  : ∀ (n : Nat) (a0 : Nat × Nat) (x1 : Int32) (x2 : Int32) (x3 : Int32) (h : am_H), Sim m_X9_chaptersOutFrom d 4 [some (.inr (.inr (some a0))), some (.inl x1), some (.inl x2), some (.inl x3)] [] h (f_X9_chaptersOutFrom_4  n a0 x1 x2 x3 h) := by
  intro n
  induction n with
  | zero => intros; exact sim_none
  | succ n hrc4 =>
    intro a0 x1 x2 x3 h
    rw [f_X9_chaptersOutFrom_4]
    refine sim_iload_n dX9_chaptersOutFrom_4 rfl ?_
    refine sim_aload_n dX9_chaptersOutFrom_5 rfl ?_
    refine sim_gI 9 3 dX9_chaptersOutFrom_6 rfl wf_RX9_62 (Nat.le_of_ble_eq_true rfl) rfl (fun v1 => ?_)
    refine sim_ic_ge 38 dX9_chaptersOutFrom_9 (by decide) (fun c => ?_) (fun c => ?_)
    · refine sim_iload_n dX9_chaptersOutFrom_38 rfl ?_
      exact sim_iret dX9_chaptersOutFrom_39 rfl
    · refine sim_iload_n dX9_chaptersOutFrom_12 rfl ?_
      refine sim_iload_n dX9_chaptersOutFrom_13 rfl ?_
      refine sim_aload_n dX9_chaptersOutFrom_14 rfl ?_
      refine sim_iload_n dX9_chaptersOutFrom_15 rfl ?_
      refine sim_ao1 (fun a4 e => ?_)
      refine sim_virt (d - 1) e dX9_chaptersOutFrom_16 (k_X9_outDay (d - 1) (by omega) _ _ _) q_X9_outDay rfl rfl wm_RX9_65 rfl rfl (by omega) (Nat.le_of_ble_eq_true rfl) am_nI (am_rI fun h2 v3 => ?_) am_eI
      refine sim_iload_n dX9_chaptersOutFrom_19 rfl ?_
      refine sim_ic_lt 27 dX9_chaptersOutFrom_20 (by decide) (fun c => ?_) (fun c => ?_)
      · refine sim_iconst (0) dX9_chaptersOutFrom_27 (by decide +kernel) ?_
        exact sim_lv (am_leS (am_leS (am_leN (am_leS am_leT)))) (t_X9_chaptersOutFrom_28 d (by omega) _ hrc4 _ _ _ _ _ _ _)
      · refine sim_iconst (1) dX9_chaptersOutFrom_23 (by decide +kernel) ?_
        refine sim_goto 28 dX9_chaptersOutFrom_24 (by decide) ?_
        exact sim_lv (am_leS (am_leS (am_leN (am_leS am_leT)))) (t_X9_chaptersOutFrom_28 d (by omega) _ hrc4 _ _ _ _ _ _ _)
def f_X9_chaptersOutFrom (a0 : Nat × Nat) (x1 : Int32) (h : am_H) : am_R := f_X9_chaptersOutFrom_4 5000 a0 x1 (0 : Int32) (0 : Int32) h
theorem k_X9_chaptersOutFrom (d : Nat) (hd : 2 ≤ d) (a0 : Nat × Nat) (x1 : Int32) (h : am_H) : am_Con m_X9_chaptersOutFrom d [.inr (.inr (some a0)), .inl x1] h (f_X9_chaptersOutFrom a0 x1 h) := am_con (by decide +kernel) (Nat.le_of_ble_eq_true rfl) (by
  unfold f_X9_chaptersOutFrom
  refine sim_iconst (0) dX9_chaptersOutFrom_0 (by decide +kernel) ?_
  refine sim_istore_n dX9_chaptersOutFrom_1 (Nat.le_of_ble_eq_true rfl) ?_
  refine sim_iconst (0) dX9_chaptersOutFrom_2 (by decide +kernel) ?_
  refine sim_istore_n dX9_chaptersOutFrom_3 (Nat.le_of_ble_eq_true rfl) ?_
  exact sim_lv (am_leS (am_leS (am_leS (am_leS am_leT)))) (t_X9_chaptersOutFrom_4 d (by omega) _ _ _ _ _ _))
theorem q_X9_chaptersOutFrom : am_Cal m_X9_chaptersOutFrom 1 2 := ⟨am_mem 1087 (w := Cond.code yX9_chaptersOutFrom cX9_chaptersOutFrom 4 (some .int)) (by decide +kernel) rfl, am_mem 71 (w := Cond.initialized RX9) (by decide +kernel) rfl, fun z => absurd z (by decide), fun _ => am_mem 1085 (w := Cond.instanceMethod yX9_chaptersOutFrom) (by decide +kernel) rfl, fun z => absurd z (by decide), fun _ => am_mem 1086 (w := Cond.selects RX9 yX9_chaptersOutFrom yX9_chaptersOutFrom) (by decide +kernel) rfl, by decide +kernel, by decide +kernel, Nat.le_of_ble_eq_true rfl⟩
abbrev m_X9_ownersToldTo : am_M := (yX9_ownersToldTo, cX9_ownersToldTo, 4, some .int, [])
def f_X9_ownersToldTo_53  (s0 : Int32) (h : am_H) : am_R := m_ri h s0
theorem t_X9_ownersToldTo_53 (d : Nat) (hd : 3 ≤ d)  (s0 : Int32) (h : am_H) : Sim m_X9_ownersToldTo d 53 [none, none, none, none] [.inl s0] h (f_X9_ownersToldTo_53  s0 h) := by
  unfold f_X9_ownersToldTo_53
  exact sim_iret dX9_ownersToldTo_53 rfl
def f_X9_ownersToldTo_52   (h : am_H) : am_R := f_X9_ownersToldTo_53 (0 : Int32) h
theorem t_X9_ownersToldTo_52 (d : Nat) (hd : 3 ≤ d)   (h : am_H) : Sim m_X9_ownersToldTo d 52 [none, none, none, none] [] h (f_X9_ownersToldTo_52   h) := by
  unfold f_X9_ownersToldTo_52
  refine sim_iconst (0) dX9_ownersToldTo_52 (by decide +kernel) ?_
  exact sim_lv (am_leN (am_leN (am_leN (am_leN am_leT)))) (t_X9_ownersToldTo_53 d (by omega) _ _)
def f_X9_ownersToldTo_45  (a0 : Nat × Nat) (h : am_H) : am_R := m_gI (some a0) 9 1 h fun v10 => f_X9_ownersToldTo_53 v10 h
theorem t_X9_ownersToldTo_45 (d : Nat) (hd : 3 ≤ d)  (a0 : Nat × Nat) (h : am_H) : Sim m_X9_ownersToldTo d 45 [some (.inr (.inr (some a0))), none, none, none] [] h (f_X9_ownersToldTo_45  a0 h) := by
  unfold f_X9_ownersToldTo_45
  refine sim_aload_n dX9_ownersToldTo_45 rfl ?_
  refine sim_gI 9 1 dX9_ownersToldTo_46 rfl wf_RX9_19 (Nat.le_of_ble_eq_true rfl) rfl (fun v10 => ?_)
  refine sim_goto 53 dX9_ownersToldTo_49 (by decide) ?_
  exact sim_lv (am_leN (am_leN (am_leN (am_leN am_leT)))) (t_X9_ownersToldTo_53 d (by omega) _ _)
def f_X9_ownersToldTo_23  (a0 : Nat × Nat) (x1 : Int32) (x2 : Int32) (s0 : Int32) (h : am_H) : am_R := m_ao (some a0) 9 fun a6 => m_bI (f_X9_isSeenBy a6 x1 x2 h) fun h4 v5 => if v5 = 0 then (f_X9_ownersToldTo_52 h4) else (m_ao (some a0) 9 fun a9 => m_bI (f_X9_isOwnedBy a9 x1 h4) fun h7 v8 => if v8 = 0 then (if s0 = 0 then (f_X9_ownersToldTo_52 h7) else (f_X9_ownersToldTo_45 a0 h7)) else (f_X9_ownersToldTo_45 a0 h7))
theorem t_X9_ownersToldTo_23 (d : Nat) (hd : 3 ≤ d)  (a0 : Nat × Nat) (x1 : Int32) (x2 : Int32) (s0 : Int32) (h : am_H) : Sim m_X9_ownersToldTo d 23 [some (.inr (.inr (some a0))), some (.inl x1), some (.inl x2), none] [.inl s0] h (f_X9_ownersToldTo_23  a0 x1 x2 s0 h) := by
  unfold f_X9_ownersToldTo_23
  refine sim_istore_n dX9_ownersToldTo_23 (Nat.le_of_ble_eq_true rfl) ?_
  refine sim_aload_n dX9_ownersToldTo_24 rfl ?_
  refine sim_iload_n dX9_ownersToldTo_25 rfl ?_
  refine sim_iload_n dX9_ownersToldTo_26 rfl ?_
  refine sim_ao2 (fun a6 e => ?_)
  refine sim_virt (d - 1) e dX9_ownersToldTo_27 (k_X9_isSeenBy (d - 1) (by omega) _ _ _ _) q_X9_isSeenBy rfl rfl wm_RX9_53 rfl rfl (by omega) (Nat.le_of_ble_eq_true rfl) am_nI (am_rI fun h4 v5 => ?_) am_eI
  refine sim_if_eq 52 dX9_ownersToldTo_30 (by decide) (fun c => ?_) (fun c => ?_)
  · exact sim_lv (am_leN (am_leN (am_leN (am_leN am_leT)))) (t_X9_ownersToldTo_52 d (by omega) _)
  · refine sim_aload_n dX9_ownersToldTo_33 rfl ?_
    refine sim_iload_n dX9_ownersToldTo_34 rfl ?_
    refine sim_ao1 (fun a9 e => ?_)
    refine sim_virt (d - 1) e dX9_ownersToldTo_35 (k_X9_isOwnedBy (d - 1) (by omega) _ _ _) q_X9_isOwnedBy rfl rfl wm_RX9_29 rfl rfl (by omega) (Nat.le_of_ble_eq_true rfl) am_nI (am_rI fun h7 v8 => ?_) am_eI
    refine sim_if_ne 45 dX9_ownersToldTo_38 (by decide) (fun c => ?_) (fun c => ?_)
    · exact sim_lv (am_leS (am_leN (am_leN (am_leN am_leT)))) (t_X9_ownersToldTo_45 d (by omega) _ _)
    · refine sim_iload_n dX9_ownersToldTo_41 rfl ?_
      refine sim_if_eq 52 dX9_ownersToldTo_42 (by decide) (fun c => ?_) (fun c => ?_)
      · exact sim_lv (am_leN (am_leN (am_leN (am_leN am_leT)))) (t_X9_ownersToldTo_52 d (by omega) _)
      · exact sim_lv (am_leS (am_leN (am_leN (am_leN am_leT)))) (t_X9_ownersToldTo_45 d (by omega) _ _)
def f_X9_ownersToldTo_18  (a0 : Nat × Nat) (x1 : Int32) (x2 : Int32) (h : am_H) : am_R := f_X9_ownersToldTo_23 a0 x1 x2 (1 : Int32) h
theorem t_X9_ownersToldTo_18 (d : Nat) (hd : 3 ≤ d)  (a0 : Nat × Nat) (x1 : Int32) (x2 : Int32) (h : am_H) : Sim m_X9_ownersToldTo d 18 [some (.inr (.inr (some a0))), some (.inl x1), some (.inl x2), none] [] h (f_X9_ownersToldTo_18  a0 x1 x2 h) := by
  unfold f_X9_ownersToldTo_18
  refine sim_iconst (1) dX9_ownersToldTo_18 (by decide +kernel) ?_
  refine sim_goto 23 dX9_ownersToldTo_19 (by decide) ?_
  exact sim_lv (am_leS (am_leS (am_leS (am_leN am_leT)))) (t_X9_ownersToldTo_23 d (by omega) _ _ _ _ _)
def f_X9_ownersToldTo (a0 : Nat × Nat) (x1 : Int32) (x2 : Int32) (h : am_H) : am_R := m_gR (some a0) 9 6 h fun o1 => if o1 = none then (f_X9_ownersToldTo_18 a0 x1 x2 h) else (m_gR (some a0) 9 6 h fun o2 => m_gI o2 0 1 h fun v3 => if x2 < v3 then (f_X9_ownersToldTo_23 a0 x1 x2 (0 : Int32) h) else (f_X9_ownersToldTo_18 a0 x1 x2 h))
theorem k_X9_ownersToldTo (d : Nat) (hd : 3 ≤ d) (a0 : Nat × Nat) (x1 : Int32) (x2 : Int32) (h : am_H) : am_Con m_X9_ownersToldTo d [.inr (.inr (some a0)), .inl x1, .inl x2] h (f_X9_ownersToldTo a0 x1 x2 h) := am_con (by decide +kernel) (Nat.le_of_ble_eq_true rfl) (by
  unfold f_X9_ownersToldTo
  refine sim_aload_n dX9_ownersToldTo_0 rfl ?_
  refine sim_gR 9 6 dX9_ownersToldTo_1 rfl wf_RX9_33 (Nat.le_of_ble_eq_true rfl) rfl (fun o1 => ?_)
  refine sim_ifnull 18 dX9_ownersToldTo_4 (by decide) (fun c => ?_) (fun c => ?_)
  · exact sim_lv (am_leS (am_leS (am_leS (am_leN am_leT)))) (t_X9_ownersToldTo_18 d (by omega) _ _ _ _)
  · refine sim_aload_n dX9_ownersToldTo_7 rfl ?_
    refine sim_gR 9 6 dX9_ownersToldTo_8 rfl wf_RX9_33 (Nat.le_of_ble_eq_true rfl) rfl (fun o2 => ?_)
    refine sim_gI 0 1 dX9_ownersToldTo_11 rfl wf_RX9_50 (Nat.le_of_ble_eq_true rfl) rfl (fun v3 => ?_)
    refine sim_iload_n dX9_ownersToldTo_14 rfl ?_
    refine sim_ic_gt 22 dX9_ownersToldTo_15 (by decide) (fun c => ?_) (fun c => ?_)
    · refine sim_iconst (0) dX9_ownersToldTo_22 (by decide +kernel) ?_
      exact sim_lv (am_leS (am_leS (am_leS (am_leN am_leT)))) (t_X9_ownersToldTo_23 d (by omega) _ _ _ _ _)
    · exact sim_lv (am_leS (am_leS (am_leS (am_leN am_leT)))) (t_X9_ownersToldTo_18 d (by omega) _ _ _ _))
theorem q_X9_ownersToldTo : am_Cal m_X9_ownersToldTo 2 2 := ⟨am_mem 663 (w := Cond.code yX9_ownersToldTo cX9_ownersToldTo 4 (some .int)) (by decide +kernel) rfl, am_mem 71 (w := Cond.initialized RX9) (by decide +kernel) rfl, fun z => absurd z (by decide), fun _ => am_mem 661 (w := Cond.instanceMethod yX9_ownersToldTo) (by decide +kernel) rfl, fun z => absurd z (by decide), fun _ => am_mem 662 (w := Cond.selects RX9 yX9_ownersToldTo yX9_ownersToldTo) (by decide +kernel) rfl, by decide +kernel, by decide +kernel, Nat.le_of_ble_eq_true rfl⟩
abbrev m_X10_newChapters : am_M := (yX10_newChapters, cX10_newChapters, 6, some .int, [])
def f_X10_newChapters_42   (h : am_H) : am_R := m_ri h (0 : Int32)
theorem t_X10_newChapters_42 (d : Nat) (hd : 4 ≤ d)   (h : am_H) : Sim m_X10_newChapters d 42 [none, none, none, none, none, none] [] h (f_X10_newChapters_42   h) := by
  unfold f_X10_newChapters_42
  refine sim_iconst (0) dX10_newChapters_42 (by decide +kernel) ?_
  exact sim_iret dX10_newChapters_43 rfl
def f_X10_newChapters (a0 : Nat × Nat) (x1 : Int32) (x2 : Int32) (h : am_H) : am_R := m_gR (some a0) 10 3 h fun o1 => m_aR o1 5 x2 h fun o2 => m_gR (some a0) 10 2 h fun o3 => m_aR o3 4 x1 h fun o4 => m_ao o2 9 fun a7 => m_bI (f_X9_isPosted a7 h) fun h5 v6 => if v6 = 0 then (f_X10_newChapters_42 h5) else (m_gI (some a0) 10 0 h5 fun v8 => m_ao o2 9 fun a11 => m_bI (f_X9_isSeenBy a11 x1 v8 h5) fun h9 v10 => if v10 = 0 then (f_X10_newChapters_42 h9) else (m_ao o2 9 fun a14 => m_bI (f_X9_isOwnedBy a14 x1 h9) fun h12 v13 => if v13 = 0 then (m_gR o4 3 1 h12 fun o15 => m_aI o15 0 x2 h12 fun v16 => m_gI (some a0) 10 0 h12 fun v17 => m_ao o2 9 fun a20 => m_bI (f_X9_ownersToldTo a20 x1 v17 h12) fun h18 v19 => m_ao o4 3 fun a23 => m_bI (f_X3_firstDayOfAny a23 v19 h18) fun h21 v22 => m_ao o2 9 fun a26 => m_bI (f_X9_chaptersOutFrom a26 (m_min v16 v22) h21) fun h24 v25 => m_gR o4 3 3 h24 fun o27 => m_aI o27 0 x2 h24 fun v28 => m_ri h24 (v25 &&& (v28 ^^^ (-1 : Int32)))) else (f_X10_newChapters_42 h12)))
theorem k_X10_newChapters (d : Nat) (hd : 4 ≤ d) (a0 : Nat × Nat) (x1 : Int32) (x2 : Int32) (h : am_H) : am_Con m_X10_newChapters d [.inr (.inr (some a0)), .inl x1, .inl x2] h (f_X10_newChapters a0 x1 x2 h) := am_con (by decide +kernel) (Nat.le_of_ble_eq_true rfl) (by
  unfold f_X10_newChapters
  refine sim_aload_n dX10_newChapters_0 rfl ?_
  refine sim_gR 10 3 dX10_newChapters_1 rfl wf_RX10_21 (Nat.le_of_ble_eq_true rfl) rfl (fun o1 => ?_)
  refine sim_iload_n dX10_newChapters_4 rfl ?_
  refine sim_aR 5 rfl dX10_newChapters_5 (fun o2 => ?_)
  refine sim_astore_n dX10_newChapters_6 (Nat.le_of_ble_eq_true rfl) ?_
  refine sim_aload_n dX10_newChapters_7 rfl ?_
  refine sim_gR 10 2 dX10_newChapters_8 rfl wf_RX10_15 (Nat.le_of_ble_eq_true rfl) rfl (fun o3 => ?_)
  refine sim_iload_n dX10_newChapters_11 rfl ?_
  refine sim_aR 4 rfl dX10_newChapters_12 (fun o4 => ?_)
  refine sim_astore dX10_newChapters_13 (Nat.le_of_ble_eq_true rfl) ?_
  refine sim_aload_n dX10_newChapters_15 rfl ?_
  refine sim_ao0 (fun a7 e => ?_)
  refine sim_virt (d - 1) e dX10_newChapters_16 (k_X9_isPosted (d - 1) (by omega) _  _) q_X9_isPosted rfl rfl wm_RX10_141 rfl rfl (by omega) (Nat.le_of_ble_eq_true rfl) am_nI (am_rI fun h5 v6 => ?_) am_eI
  refine sim_if_eq 42 dX10_newChapters_19 (by decide) (fun c => ?_) (fun c => ?_)
  · exact sim_lv (am_leN (am_leN (am_leN (am_leN (am_leN (am_leN am_leT)))))) (t_X10_newChapters_42 d (by omega) _)
  · refine sim_aload_n dX10_newChapters_22 rfl ?_
    refine sim_iload_n dX10_newChapters_23 rfl ?_
    refine sim_aload_n dX10_newChapters_24 rfl ?_
    refine sim_gI 10 0 dX10_newChapters_25 rfl wf_RX10_73 (Nat.le_of_ble_eq_true rfl) rfl (fun v8 => ?_)
    refine sim_ao2 (fun a11 e => ?_)
    refine sim_virt (d - 1) e dX10_newChapters_28 (k_X9_isSeenBy (d - 1) (by omega) _ _ _ _) q_X9_isSeenBy rfl rfl wm_RX10_173 rfl rfl (by omega) (Nat.le_of_ble_eq_true rfl) am_nI (am_rI fun h9 v10 => ?_) am_eI
    refine sim_if_eq 42 dX10_newChapters_31 (by decide) (fun c => ?_) (fun c => ?_)
    · exact sim_lv (am_leN (am_leN (am_leN (am_leN (am_leN (am_leN am_leT)))))) (t_X10_newChapters_42 d (by omega) _)
    · refine sim_aload_n dX10_newChapters_34 rfl ?_
      refine sim_iload_n dX10_newChapters_35 rfl ?_
      refine sim_ao1 (fun a14 e => ?_)
      refine sim_virt (d - 1) e dX10_newChapters_36 (k_X9_isOwnedBy (d - 1) (by omega) _ _ _) q_X9_isOwnedBy rfl rfl wm_RX10_125 rfl rfl (by omega) (Nat.le_of_ble_eq_true rfl) am_nI (am_rI fun h12 v13 => ?_) am_eI
      refine sim_if_eq 44 dX10_newChapters_39 (by decide) (fun c => ?_) (fun c => ?_)
      · refine sim_aload dX10_newChapters_44 rfl ?_
        refine sim_gR 3 1 dX10_newChapters_46 rfl wf_RX10_367 (Nat.le_of_ble_eq_true rfl) rfl (fun o15 => ?_)
        refine sim_iload_n dX10_newChapters_49 rfl ?_
        refine sim_aI dX10_newChapters_50 (fun v16 => ?_)
        refine sim_aload dX10_newChapters_51 rfl ?_
        refine sim_aload_n dX10_newChapters_53 rfl ?_
        refine sim_iload_n dX10_newChapters_54 rfl ?_
        refine sim_aload_n dX10_newChapters_55 rfl ?_
        refine sim_gI 10 0 dX10_newChapters_56 rfl wf_RX10_73 (Nat.le_of_ble_eq_true rfl) rfl (fun v17 => ?_)
        refine sim_ao2 (fun a20 e => ?_)
        refine sim_virt (d - 1) e dX10_newChapters_59 (k_X9_ownersToldTo (d - 1) (by omega) _ _ _ _) q_X9_ownersToldTo rfl rfl wm_RX10_176 rfl rfl (by omega) (Nat.le_of_ble_eq_true rfl) am_nI (am_rI fun h18 v19 => ?_) am_eI
        refine sim_ao1 (fun a23 e => ?_)
        refine sim_virt (d - 1) e dX10_newChapters_62 (k_X3_firstDayOfAny (d - 1) (by omega) _ _ _) q_X3_firstDayOfAny rfl rfl wm_RX10_458 rfl rfl (by omega) (Nat.le_of_ble_eq_true rfl) am_nI (am_rI fun h21 v22 => ?_) am_eI
        refine sim_mmin dX10_newChapters_65 wm_RX10_461 wms_min wz_RJ9 wmc_min (by omega) (Nat.le_of_ble_eq_true rfl) ?_
        refine sim_istore dX10_newChapters_68 (Nat.le_of_ble_eq_true rfl) ?_
        refine sim_aload_n dX10_newChapters_70 rfl ?_
        refine sim_iload dX10_newChapters_71 rfl ?_
        refine sim_ao1 (fun a26 e => ?_)
        refine sim_virt (d - 1) e dX10_newChapters_73 (k_X9_chaptersOutFrom (d - 1) (by omega) _ _ _) q_X9_chaptersOutFrom rfl rfl wm_RX10_466 rfl rfl (by omega) (Nat.le_of_ble_eq_true rfl) am_nI (am_rI fun h24 v25 => ?_) am_eI
        refine sim_aload dX10_newChapters_76 rfl ?_
        refine sim_gR 3 3 dX10_newChapters_78 rfl wf_RX10_373 (Nat.le_of_ble_eq_true rfl) rfl (fun o27 => ?_)
        refine sim_iload_n dX10_newChapters_81 rfl ?_
        refine sim_aI dX10_newChapters_82 (fun v28 => ?_)
        refine sim_iconst (-1) dX10_newChapters_83 (by decide +kernel) ?_
        refine sim_ixor dX10_newChapters_84 ?_
        refine sim_iand dX10_newChapters_85 ?_
        exact sim_iret dX10_newChapters_86 rfl
      · exact sim_lv (am_leN (am_leN (am_leN (am_leN (am_leN (am_leN am_leT)))))) (t_X10_newChapters_42 d (by omega) _))
theorem q_X10_newChapters : am_Cal m_X10_newChapters 2 2 := ⟨am_mem 1074 (w := Cond.code yX10_newChapters cX10_newChapters 6 (some .int)) (by decide +kernel) rfl, am_mem 56 (w := Cond.initialized RX10) (by decide +kernel) rfl, fun z => absurd z (by decide), fun _ => am_mem 1073 (w := Cond.instanceMethod yX10_newChapters) (by decide +kernel) rfl, fun z => absurd z (by decide), fun _ => am_mem 28 (w := Cond.selects RX10 yX10_newChapters yX10_newChapters) (by decide +kernel) rfl, by decide +kernel, by decide +kernel, Nat.le_of_ble_eq_true rfl⟩
