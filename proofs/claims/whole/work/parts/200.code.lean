abbrev m_X10_checkPerson : am_M := (yX10_checkPerson, cX10_checkPerson, 1, none, [])
def f_X10_checkPerson_10   (h : am_H) : am_R := m_ex h 0
theorem t_X10_checkPerson_10 (d : Nat) (hd : 6 ≤ d)   (h : am_H) : Sim m_X10_checkPerson d 10 [none] [] h (f_X10_checkPerson_10   h) := by
  unfold f_X10_checkPerson_10
  exact sim_throwW 0 (by decide) dX10_checkPerson_10 dX10_checkPerson_13 dX10_checkPerson_14 dX10_checkPerson_17 dX10_checkPerson_20 wx_RX10_162 wy_0 ws_RX10_378 at_RX10_166 gd_RX10_166 (by omega) (Nat.le_of_ble_eq_true rfl)
def f_X10_checkPerson (x0 : Int32) (h : am_H) : am_R := if x0 < 0 then (f_X10_checkPerson_10 h) else (if x0 < (12 : Int32) then (m_rt h none) else (f_X10_checkPerson_10 h))
theorem k_X10_checkPerson (d : Nat) (hd : 6 ≤ d) (x0 : Int32) (h : am_H) : am_Con m_X10_checkPerson d [.inl x0] h (f_X10_checkPerson x0 h) := am_con (by decide +kernel) (Nat.le_of_ble_eq_true rfl) (by
  unfold f_X10_checkPerson
  refine sim_iload_n dX10_checkPerson_0 rfl ?_
  refine sim_if_lt 10 dX10_checkPerson_1 (by decide) (fun c => ?_) (fun c => ?_)
  · exact sim_lv (am_leN am_leT) (t_X10_checkPerson_10 d (by omega) _)
  · refine sim_iload_n dX10_checkPerson_4 rfl ?_
    refine sim_bipush (12) dX10_checkPerson_5 (by decide +kernel) ?_
    refine sim_ic_lt 21 dX10_checkPerson_7 (by decide) (fun c => ?_) (fun c => ?_)
    · exact sim_vret dX10_checkPerson_21 rfl
    · exact sim_lv (am_leN am_leT) (t_X10_checkPerson_10 d (by omega) _))
theorem q_X10_checkPerson : am_Cal m_X10_checkPerson 1 0 := ⟨am_mem 460 (w := Cond.code yX10_checkPerson cX10_checkPerson 1 none) (by decide +kernel) rfl, am_mem 56 (w := Cond.initialized RX10) (by decide +kernel) rfl, fun _ => am_mem 459 (w := Cond.static yX10_checkPerson) (by decide +kernel) rfl, fun z => absurd rfl z, fun z => absurd z (by decide), fun z => absurd z (by decide), by decide +kernel, by decide +kernel, Nat.le_of_ble_eq_true rfl⟩
abbrev m_X10_has : am_M := (yX10_has, cX10_has, 2, some .boolean, [])
def f_X10_has_13  (s0 : Int32) (h : am_H) : am_R := m_rz h s0
theorem t_X10_has_13 (d : Nat) (hd : 0 ≤ d)  (s0 : Int32) (h : am_H) : Sim m_X10_has d 13 [none, none] [.inl s0] h (f_X10_has_13  s0 h) := by
  unfold f_X10_has_13
  exact sim_zret dX10_has_13 rfl
def f_X10_has (x0 : Int32) (x1 : Int32) (h : am_H) : am_R := if ((m_ushr x0 x1) &&& (1 : Int32)) = 0 then (f_X10_has_13 (0 : Int32) h) else (f_X10_has_13 (1 : Int32) h)
theorem k_X10_has (d : Nat) (hd : 0 ≤ d) (x0 : Int32) (x1 : Int32) (h : am_H) : am_Con m_X10_has d [.inl x0, .inl x1] h (f_X10_has x0 x1 h) := am_con (by decide +kernel) (Nat.le_of_ble_eq_true rfl) (by
  unfold f_X10_has
  refine sim_iload_n dX10_has_0 rfl ?_
  refine sim_iload_n dX10_has_1 rfl ?_
  refine sim_iushr dX10_has_2 ?_
  refine sim_iconst (1) dX10_has_3 (by decide +kernel) ?_
  refine sim_iand dX10_has_4 ?_
  refine sim_if_eq 12 dX10_has_5 (by decide) (fun c => ?_) (fun c => ?_)
  · refine sim_iconst (0) dX10_has_12 (by decide +kernel) ?_
    exact sim_lv (am_leN (am_leN am_leT)) (t_X10_has_13 d (by omega) _ _)
  · refine sim_iconst (1) dX10_has_8 (by decide +kernel) ?_
    refine sim_goto 13 dX10_has_9 (by decide) ?_
    exact sim_lv (am_leN (am_leN am_leT)) (t_X10_has_13 d (by omega) _ _))
theorem q_X10_has : am_Cal m_X10_has 2 0 := ⟨am_mem 339 (w := Cond.code yX10_has cX10_has 2 (some .boolean)) (by decide +kernel) rfl, am_mem 56 (w := Cond.initialized RX10) (by decide +kernel) rfl, fun _ => am_mem 338 (w := Cond.static yX10_has) (by decide +kernel) rfl, fun z => absurd rfl z, fun z => absurd z (by decide), fun z => absurd z (by decide), by decide +kernel, by decide +kernel, Nat.le_of_ble_eq_true rfl⟩
abbrev m_X10_with : am_M := (yX10_with, cX10_with, 3, some .int, [])
def f_X10_with_19  (s0 : Int32) (h : am_H) : am_R := m_ri h s0
theorem t_X10_with_19 (d : Nat) (hd : 0 ≤ d)  (s0 : Int32) (h : am_H) : Sim m_X10_with d 19 [none, none, none] [.inl s0] h (f_X10_with_19  s0 h) := by
  unfold f_X10_with_19
  exact sim_iret dX10_with_19 rfl
def f_X10_with (x0 : Int32) (x1 : Int32) (x2 : Int32) (h : am_H) : am_R := if x2 = 0 then (f_X10_with_19 (x0 &&& (((1 : Int32) <<< (x1 &&& 31)) ^^^ (-1 : Int32))) h) else (f_X10_with_19 (x0 ||| ((1 : Int32) <<< (x1 &&& 31))) h)
theorem k_X10_with (d : Nat) (hd : 0 ≤ d) (x0 : Int32) (x1 : Int32) (x2 : Int32) (h : am_H) : am_Con m_X10_with d [.inl x0, .inl x1, .inl x2] h (f_X10_with x0 x1 x2 h) := am_con (by decide +kernel) (Nat.le_of_ble_eq_true rfl) (by
  unfold f_X10_with
  refine sim_iload_n dX10_with_0 rfl ?_
  refine sim_if_eq 12 dX10_with_1 (by decide) (fun c => ?_) (fun c => ?_)
  · refine sim_iload_n dX10_with_12 rfl ?_
    refine sim_iconst (1) dX10_with_13 (by decide +kernel) ?_
    refine sim_iload_n dX10_with_14 rfl ?_
    refine sim_ishl dX10_with_15 ?_
    refine sim_iconst (-1) dX10_with_16 (by decide +kernel) ?_
    refine sim_ixor dX10_with_17 ?_
    refine sim_iand dX10_with_18 ?_
    exact sim_lv (am_leN (am_leN (am_leN am_leT))) (t_X10_with_19 d (by omega) _ _)
  · refine sim_iload_n dX10_with_4 rfl ?_
    refine sim_iconst (1) dX10_with_5 (by decide +kernel) ?_
    refine sim_iload_n dX10_with_6 rfl ?_
    refine sim_ishl dX10_with_7 ?_
    refine sim_ior dX10_with_8 ?_
    refine sim_goto 19 dX10_with_9 (by decide) ?_
    exact sim_lv (am_leN (am_leN (am_leN am_leT))) (t_X10_with_19 d (by omega) _ _))
theorem q_X10_with : am_Cal m_X10_with 3 0 := ⟨am_mem 271 (w := Cond.code yX10_with cX10_with 3 (some .int)) (by decide +kernel) rfl, am_mem 56 (w := Cond.initialized RX10) (by decide +kernel) rfl, fun _ => am_mem 270 (w := Cond.static yX10_with) (by decide +kernel) rfl, fun z => absurd rfl z, fun z => absurd z (by decide), fun z => absurd z (by decide), by decide +kernel, by decide +kernel, Nat.le_of_ble_eq_true rfl⟩
abbrev m_X10_block : am_M := (yX10_block, cX10_block, 6, some .boolean, [])
def f_X10_block (a0 : Nat × Nat) (x1 : Int32) (x2 : Int32) (x3 : Int32) (h : am_H) : am_R := m_bV (f_X10_checkPerson x1 h) fun h1 => m_bV (f_X10_checkPerson x2 h1) fun h3 => if x1 = x2 then (m_ex h3 1) else (m_gR (some a0) 10 2 h3 fun o5 => m_aR o5 4 x1 h3 fun o6 => m_gI o6 3 0 h3 fun v7 => m_bI (f_X10_has v7 x2 h3) fun h8 v9 => m_gI o6 3 0 h8 fun v10 => m_bI (f_X10_with v10 x2 x3 h8) fun h11 v12 => m_pI o6 3 0 v12 h11 fun h13 => m_rz h13 v9)
theorem k_X10_block (d : Nat) (hd : 7 ≤ d) (a0 : Nat × Nat) (x1 : Int32) (x2 : Int32) (x3 : Int32) (h : am_H) : am_Con m_X10_block d [.inr (.inr (some a0)), .inl x1, .inl x2, .inl x3] h (f_X10_block a0 x1 x2 x3 h) := am_con (by decide +kernel) (Nat.le_of_ble_eq_true rfl) (by
  unfold f_X10_block
  refine sim_iload_n dX10_block_0 rfl ?_
  refine sim_static (d - 1) dX10_block_1 (k_X10_checkPerson (d - 1) (by omega) _ _) q_X10_checkPerson wm_RX10_82 rfl rfl (by omega) (Nat.le_of_ble_eq_true rfl) am_nV (am_rV fun h1 => ?_) am_eV
  refine sim_iload_n dX10_block_4 rfl ?_
  refine sim_static (d - 1) dX10_block_5 (k_X10_checkPerson (d - 1) (by omega) _ _) q_X10_checkPerson wm_RX10_82 rfl rfl (by omega) (Nat.le_of_ble_eq_true rfl) am_nV (am_rV fun h3 => ?_) am_eV
  refine sim_iload_n dX10_block_8 rfl ?_
  refine sim_iload_n dX10_block_9 rfl ?_
  refine sim_ic_ne 23 dX10_block_10 (by decide) (fun c => ?_) (fun c => ?_)
  · refine sim_aload_n dX10_block_23 rfl ?_
    refine sim_gR 10 2 dX10_block_24 rfl wf_RX10_15 (Nat.le_of_ble_eq_true rfl) rfl (fun o5 => ?_)
    refine sim_iload_n dX10_block_27 rfl ?_
    refine sim_aR 4 rfl dX10_block_28 (fun o6 => ?_)
    refine sim_astore dX10_block_29 (Nat.le_of_ble_eq_true rfl) ?_
    refine sim_aload dX10_block_31 rfl ?_
    refine sim_gI 3 0 dX10_block_33 rfl wf_RX10_88 (Nat.le_of_ble_eq_true rfl) rfl (fun v7 => ?_)
    refine sim_iload_n dX10_block_36 rfl ?_
    refine sim_static (d - 1) dX10_block_37 (k_X10_has (d - 1) (by omega) _ _ _) q_X10_has wm_RX10_91 rfl rfl (by omega) (Nat.le_of_ble_eq_true rfl) am_nI (am_rI fun h8 v9 => ?_) am_eI
    refine sim_istore dX10_block_40 (Nat.le_of_ble_eq_true rfl) ?_
    refine sim_aload dX10_block_42 rfl ?_
    refine sim_aload dX10_block_44 rfl ?_
    refine sim_gI 3 0 dX10_block_46 rfl wf_RX10_88 (Nat.le_of_ble_eq_true rfl) rfl (fun v10 => ?_)
    refine sim_iload_n dX10_block_49 rfl ?_
    refine sim_iload_n dX10_block_50 rfl ?_
    refine sim_static (d - 1) dX10_block_51 (k_X10_with (d - 1) (by omega) _ _ _ _) q_X10_with wm_RX10_95 rfl rfl (by omega) (Nat.le_of_ble_eq_true rfl) am_nI (am_rI fun h11 v12 => ?_) am_eI
    refine sim_pI 3 0 dX10_block_54 rfl wf_RX10_88 (Nat.le_of_ble_eq_true rfl) rfl (Or.inl rfl) rfl (fun h13 => ?_)
    refine sim_iload dX10_block_57 rfl ?_
    exact sim_zret dX10_block_59 rfl
  · exact sim_throw 1 (by decide) dX10_block_13 dX10_block_16 dX10_block_17 dX10_block_19 dX10_block_22 wx_RX10_66 wy_1 ws_RX10_86 at_RX10_70 gd_RX10_70 (by omega) (Nat.le_of_ble_eq_true rfl))
theorem q_X10_block : am_Cal m_X10_block 3 2 := ⟨am_mem 457 (w := Cond.code yX10_block cX10_block 6 (some .boolean)) (by decide +kernel) rfl, am_mem 56 (w := Cond.initialized RX10) (by decide +kernel) rfl, fun z => absurd z (by decide), fun _ => am_mem 455 (w := Cond.instanceMethod yX10_block) (by decide +kernel) rfl, fun z => absurd z (by decide), fun _ => am_mem 456 (w := Cond.selects RX10 yX10_block yX10_block) (by decide +kernel) rfl, by decide +kernel, by decide +kernel, Nat.le_of_ble_eq_true rfl⟩
abbrev m_L_block : am_M := (yL_block, cL_block, 6, some .int, [(0, 19, 22, 21), (0, 19, 26, 13)])
def f_L_block_18  (s0 : Int64) (s1 : Int32) (s2 : Option (Nat × Nat)) (h : am_H) : am_R := m_sL s2 s1 s0 h fun h6 => m_ri h6 (0 : Int32)
theorem t_L_block_18 (d : Nat) (hd : 8 ≤ d)  (s0 : Int64) (s1 : Int32) (s2 : Option (Nat × Nat)) (h : am_H) : Sim m_L_block d 18 [none, none, none, none, none, none] [.inr (.inl s0), .inl s1, .inr (.inr s2)] h (f_L_block_18  s0 s1 s2 h) := by
  unfold f_L_block_18
  refine sim_sL dL_block_18 (fun h6 => ?_)
  refine sim_goto 30 dL_block_19 (by decide) ?_
  refine sim_iconst (0) dL_block_30 (by decide +kernel) ?_
  exact sim_iret dL_block_31 rfl
def f_L_block (x0 : Option (Nat × Nat)) (x1 : Int32) (x2 : Int32) (x3 : Int32) (x4 : Option (Nat × Nat)) (h : am_H) : am_R := m_ao x0 10 fun a3 => m_bIx (f_X10_block a3 x1 x2 x3 h) (fun h1 v2 => if v2 = 0 then (f_L_block_18 (0 : Int64) (0 : Int32) x4 h1) else (f_L_block_18 (1 : Int64) (0 : Int32) x4 h1)) (fun h4 e5 => if e5 = 0 then (m_ri h4 (1 : Int32)) else if e5 = 1 then (m_ri h4 (2 : Int32)) else none)
theorem k_L_block (d : Nat) (hd : 8 ≤ d) (x0 : Option (Nat × Nat)) (x1 : Int32) (x2 : Int32) (x3 : Int32) (x4 : Option (Nat × Nat)) (h : am_H) : am_Con m_L_block d [.inr (.inr x0), .inl x1, .inl x2, .inl x3, .inr (.inr x4)] h (f_L_block x0 x1 x2 x3 x4 h) := am_conX (by decide +kernel) (Nat.le_of_ble_eq_true rfl) (by
  unfold f_L_block
  refine sim_aload dL_block_0 rfl ?_
  refine sim_iconst (0) dL_block_2 (by decide +kernel) ?_
  refine sim_aload_n dL_block_3 rfl ?_
  refine sim_iload_n dL_block_4 rfl ?_
  refine sim_iload_n dL_block_5 rfl ?_
  refine sim_iload_n dL_block_6 rfl ?_
  refine sim_ao3 (fun a3 e => ?_)
  refine sim_virt (d - 1) e dL_block_7 (k_X10_block (d - 1) (by omega) _ _ _ _ _) q_X10_block rfl rfl wm_RL_17 rfl rfl (by omega) (Nat.le_of_ble_eq_true rfl) am_nIx (am_rIx fun h1 v2 => ?_) (am_eIx fun h9 k9 => ?_)
  · refine sim_if_eq 17 dL_block_10 (by decide) (fun c => ?_) (fun c => ?_)
    · refine sim_lconst (0) dL_block_17 (by decide +kernel) ?_
      exact sim_lv (am_leN (am_leN (am_leN (am_leN (am_leN (am_leN am_leT)))))) (t_L_block_18 d (by omega) _ _ _ _)
    · refine sim_lconst (1) dL_block_13 (by decide +kernel) ?_
      refine sim_goto 18 dL_block_14 (by decide) ?_
      exact sim_lv (am_leN (am_leN (am_leN (am_leN (am_leN (am_leN am_leT)))))) (t_L_block_18 d (by omega) _ _ _ _)
  · refine simx_case (fun cx => ?_) (fun cx => ?_)
    · subst cx
      refine simx_catch [] (0, 19, 22, 21) [(0, 19, 26, 13)] rfl ⟨by decide, by decide⟩ (by decide) wx_RL_21 wca_0 (by decide) (fun z hz => by cases hz) ?_
      refine sim_astore dL_block_22 (Nat.le_of_ble_eq_true rfl) ?_
      refine sim_iconst (1) dL_block_24 (by decide +kernel) ?_
      exact sim_iret dL_block_25 rfl
    refine simx_case (fun cx => ?_) (fun cx => ?_)
    · subst cx
      refine simx_catch [(0, 19, 22, 21)] (0, 19, 26, 13) [] rfl ⟨by decide, by decide⟩ (by decide) wx_RL_13 wca_1 (by decide) (fun z hz => by simp only [List.mem_cons, List.not_mem_nil, or_false] at hz; subst hz; exact ⟨by decide, 0, _, by decide, by decide, wx_RL_21⟩) ?_
      refine sim_astore dL_block_26 (Nat.le_of_ble_eq_true rfl) ?_
      refine sim_iconst (2) dL_block_28 (by decide +kernel) ?_
      exact sim_iret dL_block_29 rfl
    exact simx_none)
theorem q_L_block : am_Cal m_L_block 5 0 := ⟨am_mem 452 (w := Cond.codeWith yL_block cL_block 6 (some .int) [(0, 19, 22, 21), (0, 19, 26, 13)]) (by decide +kernel) rfl, am_mem 55 (w := Cond.initialized RL) (by decide +kernel) rfl, fun _ => am_mem 451 (w := Cond.static yL_block) (by decide +kernel) rfl, fun z => absurd rfl z, fun z => absurd z (by decide), fun z => absurd z (by decide), by decide +kernel, by decide +kernel, Nat.le_of_ble_eq_true rfl⟩
abbrev m_X10_commentAt : am_M := (yX10_commentAt, cX10_commentAt, 2, some (.object RX1), [])
def f_X10_commentAt_12   (h : am_H) : am_R := m_ex h 0
theorem t_X10_commentAt_12 (d : Nat) (hd : 6 ≤ d)   (h : am_H) : Sim m_X10_commentAt d 12 [none, none] [] h (f_X10_commentAt_12   h) := by
  unfold f_X10_commentAt_12
  exact sim_throwW 0 (by decide) dX10_commentAt_12 dX10_commentAt_15 dX10_commentAt_16 dX10_commentAt_19 dX10_commentAt_22 wx_RX10_162 wy_0 ws_RX10_386 at_RX10_166 gd_RX10_166 (by omega) (Nat.le_of_ble_eq_true rfl)
def f_X10_commentAt (a0 : Nat × Nat) (x1 : Int32) (h : am_H) : am_R := if x1 < 0 then (f_X10_commentAt_12 h) else (m_gI (some a0) 10 12 h fun v1 => if x1 < v1 then (m_gR (some a0) 10 11 h fun o2 => m_aR o2 7 x1 h fun o3 => m_ra h o3) else (f_X10_commentAt_12 h))
theorem k_X10_commentAt (d : Nat) (hd : 6 ≤ d) (a0 : Nat × Nat) (x1 : Int32) (h : am_H) : am_Con m_X10_commentAt d [.inr (.inr (some a0)), .inl x1] h (f_X10_commentAt a0 x1 h) := am_con (by decide +kernel) (Nat.le_of_ble_eq_true rfl) (by
  unfold f_X10_commentAt
  refine sim_iload_n dX10_commentAt_0 rfl ?_
  refine sim_if_lt 12 dX10_commentAt_1 (by decide) (fun c => ?_) (fun c => ?_)
  · exact sim_lv (am_leN (am_leN am_leT)) (t_X10_commentAt_12 d (by omega) _)
  · refine sim_iload_n dX10_commentAt_4 rfl ?_
    refine sim_aload_n dX10_commentAt_5 rfl ?_
    refine sim_gI 10 12 dX10_commentAt_6 rfl wf_RX10_327 (Nat.le_of_ble_eq_true rfl) rfl (fun v1 => ?_)
    refine sim_ic_lt 23 dX10_commentAt_9 (by decide) (fun c => ?_) (fun c => ?_)
    · refine sim_aload_n dX10_commentAt_23 rfl ?_
      refine sim_gR 10 11 dX10_commentAt_24 rfl wf_RX10_61 (Nat.le_of_ble_eq_true rfl) rfl (fun o2 => ?_)
      refine sim_iload_n dX10_commentAt_27 rfl ?_
      refine sim_aR 7 rfl dX10_commentAt_28 (fun o3 => ?_)
      exact sim_aret dX10_commentAt_29 rfl
    · exact sim_lv (am_leN (am_leN am_leT)) (t_X10_commentAt_12 d (by omega) _))
theorem q_X10_commentAt : am_Cal m_X10_commentAt 1 2 := ⟨am_mem 972 (w := Cond.code yX10_commentAt cX10_commentAt 2 (some (.object RX1))) (by decide +kernel) rfl, am_mem 56 (w := Cond.initialized RX10) (by decide +kernel) rfl, fun z => absurd z (by decide), fun _ => am_mem 971 (w := Cond.instanceMethod yX10_commentAt) (by decide +kernel) rfl, fun z => absurd z (by decide), fun _ => am_mem 22 (w := Cond.selects RX10 yX10_commentAt yX10_commentAt) (by decide +kernel) rfl, by decide +kernel, by decide +kernel, Nat.le_of_ble_eq_true rfl⟩
abbrev m_X10_change : am_M := (yX10_change, cX10_change, 5, some .boolean, [])
def f_X10_change_98  (x3 : Option (Nat × Nat)) (s0 : Int32) (h : am_H) : am_R := m_pZ x3 1 4 (1 : Int32) h fun h10 => m_rz h10 s0
theorem t_X10_change_98 (d : Nat) (hd : 7 ≤ d)  (x3 : Option (Nat × Nat)) (s0 : Int32) (h : am_H) : Sim m_X10_change d 98 [none, none, none, some (.inr (.inr x3)), none] [.inl s0] h (f_X10_change_98  x3 s0 h) := by
  unfold f_X10_change_98
  refine sim_istore dX10_change_98 (Nat.le_of_ble_eq_true rfl) ?_
  refine sim_aload_n dX10_change_100 rfl ?_
  refine sim_iconst (1) dX10_change_101 (by decide +kernel) ?_
  refine sim_pZ 1 4 dX10_change_102 rfl wf_RX10_345 (Nat.le_of_ble_eq_true rfl) rfl (Or.inl rfl) rfl (fun h10 => ?_)
  refine sim_iload dX10_change_105 rfl ?_
  exact sim_zret dX10_change_107 rfl
def f_X10_change_48  (x3 : Option (Nat × Nat)) (s0 : Int32) (h : am_H) : am_R := m_pZ x3 1 3 (1 : Int32) h fun h11 => m_rz h11 s0
theorem t_X10_change_48 (d : Nat) (hd : 7 ≤ d)  (x3 : Option (Nat × Nat)) (s0 : Int32) (h : am_H) : Sim m_X10_change d 48 [none, none, none, some (.inr (.inr x3)), none] [.inl s0] h (f_X10_change_48  x3 s0 h) := by
  unfold f_X10_change_48
  refine sim_istore dX10_change_48 (Nat.le_of_ble_eq_true rfl) ?_
  refine sim_aload_n dX10_change_50 rfl ?_
  refine sim_iconst (1) dX10_change_51 (by decide +kernel) ?_
  refine sim_pZ 1 3 dX10_change_52 rfl wf_RX10_339 (Nat.le_of_ble_eq_true rfl) rfl (Or.inl rfl) rfl (fun h11 => ?_)
  refine sim_iload dX10_change_55 rfl ?_
  exact sim_zret dX10_change_57 rfl
def f_X10_change (a0 : Nat × Nat) (x1 : Int32) (x2 : Int32) (h : am_H) : am_R := m_ao (some a0) 10 fun a3 => m_bR (f_X10_commentAt a3 x1 h) fun h1 o2 => if x2 = 0 then (m_gI o2 1 3 h1 fun v4 => if v4 = 0 then (f_X10_change_48 o2 (1 : Int32) h1) else (f_X10_change_48 o2 (0 : Int32) h1)) else if x2 = 1 then (m_gI o2 1 3 h1 fun v5 => m_pZ o2 1 3 (0 : Int32) h1 fun h6 => m_rz h6 v5) else if x2 = 2 then (m_gI o2 1 5 h1 fun v7 => m_pZ o2 1 5 (0 : Int32) h1 fun h8 => m_rz h8 v7) else if x2 = 3 then (m_gI o2 1 4 h1 fun v9 => if v9 = 0 then (f_X10_change_98 o2 (1 : Int32) h1) else (f_X10_change_98 o2 (0 : Int32) h1)) else (m_ex h1 1)
theorem k_X10_change (d : Nat) (hd : 7 ≤ d) (a0 : Nat × Nat) (x1 : Int32) (x2 : Int32) (h : am_H) : am_Con m_X10_change d [.inr (.inr (some a0)), .inl x1, .inl x2] h (f_X10_change a0 x1 x2 h) := am_con (by decide +kernel) (Nat.le_of_ble_eq_true rfl) (by
  unfold f_X10_change
  refine sim_aload_n dX10_change_0 rfl ?_
  refine sim_iload_n dX10_change_1 rfl ?_
  refine sim_ao1 (fun a3 e => ?_)
  refine sim_virt (d - 1) e dX10_change_2 (k_X10_commentAt (d - 1) (by omega) _ _ _) q_X10_commentAt rfl rfl wm_RX10_318 rfl rfl (by omega) (Nat.le_of_ble_eq_true rfl) am_nR (am_rR fun h1 o2 => ?_) am_eR
  refine sim_astore_n dX10_change_5 (Nat.le_of_ble_eq_true rfl) ?_
  refine sim_iload_n dX10_change_6 rfl ?_
  refine sim_case (fun c7_0 => ?_) (fun c7_0 => ?_)
  · refine sim_tableIn (off := 29) (0) 36 c7_0 dX10_change_7 (by decide +kernel) (by decide +kernel) (by decide +kernel) (by decide) ?_
    refine sim_aload_n dX10_change_36 rfl ?_
    refine sim_gI 1 3 dX10_change_37 rfl wf_RX10_339 (Nat.le_of_ble_eq_true rfl) rfl (fun v4 => ?_)
    refine sim_if_ne 47 dX10_change_40 (by decide) (fun c => ?_) (fun c => ?_)
    · refine sim_iconst (0) dX10_change_47 (by decide +kernel) ?_
      exact sim_lv (am_leN (am_leN (am_leN (am_leS (am_leN am_leT))))) (t_X10_change_48 d (by omega) _ _ _)
    · refine sim_iconst (1) dX10_change_43 (by decide +kernel) ?_
      refine sim_goto 48 dX10_change_44 (by decide) ?_
      exact sim_lv (am_leN (am_leN (am_leN (am_leS (am_leN am_leT))))) (t_X10_change_48 d (by omega) _ _ _)
  refine sim_case (fun c7_1 => ?_) (fun c7_1 => ?_)
  · refine sim_tableIn (off := 51) (1) 58 c7_1 dX10_change_7 (by decide +kernel) (by decide +kernel) (by decide +kernel) (by decide) ?_
    refine sim_aload_n dX10_change_58 rfl ?_
    refine sim_gI 1 3 dX10_change_59 rfl wf_RX10_339 (Nat.le_of_ble_eq_true rfl) rfl (fun v5 => ?_)
    refine sim_istore dX10_change_62 (Nat.le_of_ble_eq_true rfl) ?_
    refine sim_aload_n dX10_change_64 rfl ?_
    refine sim_iconst (0) dX10_change_65 (by decide +kernel) ?_
    refine sim_pZ 1 3 dX10_change_66 rfl wf_RX10_339 (Nat.le_of_ble_eq_true rfl) rfl (Or.inl rfl) rfl (fun h6 => ?_)
    refine sim_iload dX10_change_69 rfl ?_
    exact sim_zret dX10_change_71 rfl
  refine sim_case (fun c7_2 => ?_) (fun c7_2 => ?_)
  · refine sim_tableIn (off := 65) (2) 72 c7_2 dX10_change_7 (by decide +kernel) (by decide +kernel) (by decide +kernel) (by decide) ?_
    refine sim_aload_n dX10_change_72 rfl ?_
    refine sim_gI 1 5 dX10_change_73 rfl wf_RX10_342 (Nat.le_of_ble_eq_true rfl) rfl (fun v7 => ?_)
    refine sim_istore dX10_change_76 (Nat.le_of_ble_eq_true rfl) ?_
    refine sim_aload_n dX10_change_78 rfl ?_
    refine sim_iconst (0) dX10_change_79 (by decide +kernel) ?_
    refine sim_pZ 1 5 dX10_change_80 rfl wf_RX10_342 (Nat.le_of_ble_eq_true rfl) rfl (Or.inl rfl) rfl (fun h8 => ?_)
    refine sim_iload dX10_change_83 rfl ?_
    exact sim_zret dX10_change_85 rfl
  refine sim_case (fun c7_3 => ?_) (fun c7_3 => ?_)
  · refine sim_tableIn (off := 79) (3) 86 c7_3 dX10_change_7 (by decide +kernel) (by decide +kernel) (by decide +kernel) (by decide) ?_
    refine sim_aload_n dX10_change_86 rfl ?_
    refine sim_gI 1 4 dX10_change_87 rfl wf_RX10_345 (Nat.le_of_ble_eq_true rfl) rfl (fun v9 => ?_)
    refine sim_if_ne 97 dX10_change_90 (by decide) (fun c => ?_) (fun c => ?_)
    · refine sim_iconst (0) dX10_change_97 (by decide +kernel) ?_
      exact sim_lv (am_leN (am_leN (am_leN (am_leS (am_leN am_leT))))) (t_X10_change_98 d (by omega) _ _ _)
    · refine sim_iconst (1) dX10_change_93 (by decide +kernel) ?_
      refine sim_goto 98 dX10_change_94 (by decide) ?_
      exact sim_lv (am_leN (am_leN (am_leN (am_leS (am_leN am_leT))))) (t_X10_change_98 d (by omega) _ _ _)
  refine sim_tableOut 108 dX10_change_7 ((am_out (N := 4) (by decide) (lt_s (lt_s (lt_s (lt_s lt_0 c7_0) c7_1) c7_2) c7_3)).imp id (fun z => by omega)) (by decide) ?_
  exact sim_throw 1 (by decide) dX10_change_108 dX10_change_111 dX10_change_112 dX10_change_114 dX10_change_117 wx_RX10_66 wy_1 ws_RX10_232 at_RX10_70 gd_RX10_70 (by omega) (Nat.le_of_ble_eq_true rfl))
theorem q_X10_change : am_Cal m_X10_change 2 2 := ⟨am_mem 1030 (w := Cond.code yX10_change cX10_change 5 (some .boolean)) (by decide +kernel) rfl, am_mem 56 (w := Cond.initialized RX10) (by decide +kernel) rfl, fun z => absurd z (by decide), fun _ => am_mem 1028 (w := Cond.instanceMethod yX10_change) (by decide +kernel) rfl, fun z => absurd z (by decide), fun _ => am_mem 1029 (w := Cond.selects RX10 yX10_change yX10_change) (by decide +kernel) rfl, by decide +kernel, by decide +kernel, Nat.le_of_ble_eq_true rfl⟩
abbrev m_L_change : am_M := (yL_change, cL_change, 5, some .int, [(0, 17, 20, 21), (0, 17, 24, 13)])
def f_L_change_16  (s0 : Int64) (s1 : Int32) (s2 : Option (Nat × Nat)) (h : am_H) : am_R := m_sL s2 s1 s0 h fun h6 => m_ri h6 (0 : Int32)
theorem t_L_change_16 (d : Nat) (hd : 8 ≤ d)  (s0 : Int64) (s1 : Int32) (s2 : Option (Nat × Nat)) (h : am_H) : Sim m_L_change d 16 [none, none, none, none, none] [.inr (.inl s0), .inl s1, .inr (.inr s2)] h (f_L_change_16  s0 s1 s2 h) := by
  unfold f_L_change_16
  refine sim_sL dL_change_16 (fun h6 => ?_)
  refine sim_goto 28 dL_change_17 (by decide) ?_
  refine sim_iconst (0) dL_change_28 (by decide +kernel) ?_
  exact sim_iret dL_change_29 rfl
def f_L_change (x0 : Option (Nat × Nat)) (x1 : Int32) (x2 : Int32) (x3 : Option (Nat × Nat)) (h : am_H) : am_R := m_ao x0 10 fun a3 => m_bIx (f_X10_change a3 x1 x2 h) (fun h1 v2 => if v2 = 0 then (f_L_change_16 (0 : Int64) (0 : Int32) x3 h1) else (f_L_change_16 (1 : Int64) (0 : Int32) x3 h1)) (fun h4 e5 => if e5 = 0 then (m_ri h4 (1 : Int32)) else if e5 = 1 then (m_ri h4 (2 : Int32)) else none)
theorem k_L_change (d : Nat) (hd : 8 ≤ d) (x0 : Option (Nat × Nat)) (x1 : Int32) (x2 : Int32) (x3 : Option (Nat × Nat)) (h : am_H) : am_Con m_L_change d [.inr (.inr x0), .inl x1, .inl x2, .inr (.inr x3)] h (f_L_change x0 x1 x2 x3 h) := am_conX (by decide +kernel) (Nat.le_of_ble_eq_true rfl) (by
  unfold f_L_change
  refine sim_aload_n dL_change_0 rfl ?_
  refine sim_iconst (0) dL_change_1 (by decide +kernel) ?_
  refine sim_aload_n dL_change_2 rfl ?_
  refine sim_iload_n dL_change_3 rfl ?_
  refine sim_iload_n dL_change_4 rfl ?_
  refine sim_ao2 (fun a3 e => ?_)
  refine sim_virt (d - 1) e dL_change_5 (k_X10_change (d - 1) (by omega) _ _ _ _) q_X10_change rfl rfl wm_RL_110 rfl rfl (by omega) (Nat.le_of_ble_eq_true rfl) am_nIx (am_rIx fun h1 v2 => ?_) (am_eIx fun h9 k9 => ?_)
  · refine sim_if_eq 15 dL_change_8 (by decide) (fun c => ?_) (fun c => ?_)
    · refine sim_lconst (0) dL_change_15 (by decide +kernel) ?_
      exact sim_lv (am_leN (am_leN (am_leN (am_leN (am_leN am_leT))))) (t_L_change_16 d (by omega) _ _ _ _)
    · refine sim_lconst (1) dL_change_11 (by decide +kernel) ?_
      refine sim_goto 16 dL_change_12 (by decide) ?_
      exact sim_lv (am_leN (am_leN (am_leN (am_leN (am_leN am_leT))))) (t_L_change_16 d (by omega) _ _ _ _)
  · refine simx_case (fun cx => ?_) (fun cx => ?_)
    · subst cx
      refine simx_catch [] (0, 17, 20, 21) [(0, 17, 24, 13)] rfl ⟨by decide, by decide⟩ (by decide) wx_RL_21 wca_0 (by decide) (fun z hz => by cases hz) ?_
      refine sim_astore dL_change_20 (Nat.le_of_ble_eq_true rfl) ?_
      refine sim_iconst (1) dL_change_22 (by decide +kernel) ?_
      exact sim_iret dL_change_23 rfl
    refine simx_case (fun cx => ?_) (fun cx => ?_)
    · subst cx
      refine simx_catch [(0, 17, 20, 21)] (0, 17, 24, 13) [] rfl ⟨by decide, by decide⟩ (by decide) wx_RL_13 wca_1 (by decide) (fun z hz => by simp only [List.mem_cons, List.not_mem_nil, or_false] at hz; subst hz; exact ⟨by decide, 0, _, by decide, by decide, wx_RL_21⟩) ?_
      refine sim_astore dL_change_24 (Nat.le_of_ble_eq_true rfl) ?_
      refine sim_iconst (2) dL_change_26 (by decide +kernel) ?_
      exact sim_iret dL_change_27 rfl
    exact simx_none)
theorem q_L_change : am_Cal m_L_change 4 0 := ⟨am_mem 1026 (w := Cond.codeWith yL_change cL_change 5 (some .int) [(0, 17, 20, 21), (0, 17, 24, 13)]) (by decide +kernel) rfl, am_mem 55 (w := Cond.initialized RL) (by decide +kernel) rfl, fun _ => am_mem 1025 (w := Cond.static yL_change) (by decide +kernel) rfl, fun z => absurd rfl z, fun z => absurd z (by decide), fun z => absurd z (by decide), by decide +kernel, by decide +kernel, Nat.le_of_ble_eq_true rfl⟩
abbrev m_X10_checkWork : am_M := (yX10_checkWork, cX10_checkWork, 2, none, [])
def f_X10_checkWork_12   (h : am_H) : am_R := m_ex h 0
theorem t_X10_checkWork_12 (d : Nat) (hd : 6 ≤ d)   (h : am_H) : Sim m_X10_checkWork d 12 [none, none] [] h (f_X10_checkWork_12   h) := by
  unfold f_X10_checkWork_12
  exact sim_throwW 0 (by decide) dX10_checkWork_12 dX10_checkWork_15 dX10_checkWork_16 dX10_checkWork_19 dX10_checkWork_22 wx_RX10_162 wy_0 ws_RX10_384 at_RX10_166 gd_RX10_166 (by omega) (Nat.le_of_ble_eq_true rfl)
def f_X10_checkWork (a0 : Nat × Nat) (x1 : Int32) (h : am_H) : am_R := if x1 < 0 then (f_X10_checkWork_12 h) else (m_gI (some a0) 10 4 h fun v1 => if x1 < v1 then (m_rt h none) else (f_X10_checkWork_12 h))
theorem k_X10_checkWork (d : Nat) (hd : 6 ≤ d) (a0 : Nat × Nat) (x1 : Int32) (h : am_H) : am_Con m_X10_checkWork d [.inr (.inr (some a0)), .inl x1] h (f_X10_checkWork a0 x1 h) := am_con (by decide +kernel) (Nat.le_of_ble_eq_true rfl) (by
  unfold f_X10_checkWork
  refine sim_iload_n dX10_checkWork_0 rfl ?_
  refine sim_if_lt 12 dX10_checkWork_1 (by decide) (fun c => ?_) (fun c => ?_)
  · exact sim_lv (am_leN (am_leN am_leT)) (t_X10_checkWork_12 d (by omega) _)
  · refine sim_iload_n dX10_checkWork_4 rfl ?_
    refine sim_aload_n dX10_checkWork_5 rfl ?_
    refine sim_gI 10 4 dX10_checkWork_6 rfl wf_RX10_104 (Nat.le_of_ble_eq_true rfl) rfl (fun v1 => ?_)
    refine sim_ic_lt 23 dX10_checkWork_9 (by decide) (fun c => ?_) (fun c => ?_)
    · exact sim_vret dX10_checkWork_23 rfl
    · exact sim_lv (am_leN (am_leN am_leT)) (t_X10_checkWork_12 d (by omega) _))
theorem q_X10_checkWork : am_Cal m_X10_checkWork 1 2 := ⟨am_mem 564 (w := Cond.code yX10_checkWork cX10_checkWork 2 none) (by decide +kernel) rfl, am_mem 56 (w := Cond.initialized RX10) (by decide +kernel) rfl, fun z => absurd z (by decide), fun _ => am_mem 563 (w := Cond.instanceMethod yX10_checkWork) (by decide +kernel) rfl, fun z => absurd z (by decide), fun _ => am_mem 7 (w := Cond.selects RX10 yX10_checkWork yX10_checkWork) (by decide +kernel) rfl, by decide +kernel, by decide +kernel, Nat.le_of_ble_eq_true rfl⟩
abbrev m_X10_workAt : am_M := (yX10_workAt, cX10_workAt, 2, some (.object RX9), [])
def f_X10_workAt (a0 : Nat × Nat) (x1 : Int32) (h : am_H) : am_R := m_ao (some a0) 10 fun a3 => m_bV (f_X10_checkWork a3 x1 h) fun h1 => m_gR (some a0) 10 3 h1 fun o4 => m_aR o4 5 x1 h1 fun o5 => m_ra h1 o5
theorem k_X10_workAt (d : Nat) (hd : 7 ≤ d) (a0 : Nat × Nat) (x1 : Int32) (h : am_H) : am_Con m_X10_workAt d [.inr (.inr (some a0)), .inl x1] h (f_X10_workAt a0 x1 h) := am_con (by decide +kernel) (Nat.le_of_ble_eq_true rfl) (by
  unfold f_X10_workAt
  refine sim_aload_n dX10_workAt_0 rfl ?_
  refine sim_iload_n dX10_workAt_1 rfl ?_
  refine sim_ao1 (fun a3 e => ?_)
  refine sim_virt (d - 1) e dX10_workAt_2 (k_X10_checkWork (d - 1) (by omega) _ _ _) q_X10_checkWork rfl rfl wm_RX10_361 rfl rfl (by omega) (Nat.le_of_ble_eq_true rfl) am_nV (am_rV fun h1 => ?_) am_eV
  refine sim_aload_n dX10_workAt_5 rfl ?_
  refine sim_gR 10 3 dX10_workAt_6 rfl wf_RX10_21 (Nat.le_of_ble_eq_true rfl) rfl (fun o4 => ?_)
  refine sim_iload_n dX10_workAt_9 rfl ?_
  refine sim_aR 5 rfl dX10_workAt_10 (fun o5 => ?_)
  exact sim_aret dX10_workAt_11 rfl)
theorem q_X10_workAt : am_Cal m_X10_workAt 1 2 := ⟨am_mem 560 (w := Cond.code yX10_workAt cX10_workAt 2 (some (.object RX9))) (by decide +kernel) rfl, am_mem 56 (w := Cond.initialized RX10) (by decide +kernel) rfl, fun z => absurd z (by decide), fun _ => am_mem 559 (w := Cond.instanceMethod yX10_workAt) (by decide +kernel) rfl, fun z => absurd z (by decide), fun _ => am_mem 6 (w := Cond.selects RX10 yX10_workAt yX10_workAt) (by decide +kernel) rfl, by decide +kernel, by decide +kernel, Nat.le_of_ble_eq_true rfl⟩
abbrev m_X10_chapter : am_M := (yX10_chapter, cX10_chapter, 3, some .int, [])
def f_X10_chapter (a0 : Nat × Nat) (x1 : Int32) (h : am_H) : am_R := m_ao (some a0) 10 fun a3 => m_bR (f_X10_workAt a3 x1 h) fun h1 o2 => m_gI o2 9 3 h1 fun v4 => if v4 < (8 : Int32) then (m_gR o2 9 2 h1 fun o5 => m_gI o2 9 3 h1 fun v6 => m_gI (some a0) 10 0 h1 fun v7 => m_sI o5 v6 v7 h1 fun h8 => m_gI o2 9 3 h8 fun v9 => m_pI o2 9 3 (v9 + (1 : Int32)) h8 fun h10 => m_gI o2 9 3 h10 fun v11 => m_ri h10 (v11 - (1 : Int32))) else (m_ex h1 2)
theorem k_X10_chapter (d : Nat) (hd : 8 ≤ d) (a0 : Nat × Nat) (x1 : Int32) (h : am_H) : am_Con m_X10_chapter d [.inr (.inr (some a0)), .inl x1] h (f_X10_chapter a0 x1 h) := am_con (by decide +kernel) (Nat.le_of_ble_eq_true rfl) (by
  unfold f_X10_chapter
  refine sim_aload_n dX10_chapter_0 rfl ?_
  refine sim_iload_n dX10_chapter_1 rfl ?_
  refine sim_ao1 (fun a3 e => ?_)
  refine sim_virt (d - 1) e dX10_chapter_2 (k_X10_workAt (d - 1) (by omega) _ _ _) q_X10_workAt rfl rfl wm_RX10_112 rfl rfl (by omega) (Nat.le_of_ble_eq_true rfl) am_nR (am_rR fun h1 o2 => ?_) am_eR
  refine sim_astore_n dX10_chapter_5 (Nat.le_of_ble_eq_true rfl) ?_
  refine sim_aload_n dX10_chapter_6 rfl ?_
  refine sim_gI 9 3 dX10_chapter_7 rfl wf_RX10_133 (Nat.le_of_ble_eq_true rfl) rfl (fun v4 => ?_)
  refine sim_bipush (8) dX10_chapter_10 (by decide +kernel) ?_
  refine sim_ic_lt 25 dX10_chapter_12 (by decide) (fun c => ?_) (fun c => ?_)
  · refine sim_aload_n dX10_chapter_25 rfl ?_
    refine sim_gR 9 2 dX10_chapter_26 rfl wf_RX10_138 (Nat.le_of_ble_eq_true rfl) rfl (fun o5 => ?_)
    refine sim_aload_n dX10_chapter_29 rfl ?_
    refine sim_gI 9 3 dX10_chapter_30 rfl wf_RX10_133 (Nat.le_of_ble_eq_true rfl) rfl (fun v6 => ?_)
    refine sim_aload_n dX10_chapter_33 rfl ?_
    refine sim_gI 10 0 dX10_chapter_34 rfl wf_RX10_73 (Nat.le_of_ble_eq_true rfl) rfl (fun v7 => ?_)
    refine sim_sI dX10_chapter_37 (fun h8 => ?_)
    refine sim_aload_n dX10_chapter_38 rfl ?_
    refine sim_dup_r dX10_chapter_39 ?_
    refine sim_gI 9 3 dX10_chapter_40 rfl wf_RX10_133 (Nat.le_of_ble_eq_true rfl) rfl (fun v9 => ?_)
    refine sim_iconst (1) dX10_chapter_43 (by decide +kernel) ?_
    refine sim_iadd dX10_chapter_44 ?_
    refine sim_pI 9 3 dX10_chapter_45 rfl wf_RX10_133 (Nat.le_of_ble_eq_true rfl) rfl (Or.inl rfl) rfl (fun h10 => ?_)
    refine sim_aload_n dX10_chapter_48 rfl ?_
    refine sim_gI 9 3 dX10_chapter_49 rfl wf_RX10_133 (Nat.le_of_ble_eq_true rfl) rfl (fun v11 => ?_)
    refine sim_iconst (1) dX10_chapter_52 (by decide +kernel) ?_
    refine sim_isub dX10_chapter_53 ?_
    exact sim_iret dX10_chapter_54 rfl
  · exact sim_throw 2 (by decide) dX10_chapter_15 dX10_chapter_18 dX10_chapter_19 dX10_chapter_21 dX10_chapter_24 wx_RX10_77 wy_2 ws_RX10_136 at_RX10_81 gd_RX10_81 (by omega) (Nat.le_of_ble_eq_true rfl))
theorem q_X10_chapter : am_Cal m_X10_chapter 1 2 := ⟨am_mem 587 (w := Cond.code yX10_chapter cX10_chapter 3 (some .int)) (by decide +kernel) rfl, am_mem 56 (w := Cond.initialized RX10) (by decide +kernel) rfl, fun z => absurd z (by decide), fun _ => am_mem 585 (w := Cond.instanceMethod yX10_chapter) (by decide +kernel) rfl, fun z => absurd z (by decide), fun _ => am_mem 586 (w := Cond.selects RX10 yX10_chapter yX10_chapter) (by decide +kernel) rfl, by decide +kernel, by decide +kernel, Nat.le_of_ble_eq_true rfl⟩
abbrev m_L_chapter : am_M := (yL_chapter, cL_chapter, 4, some .int, [(0, 9, 12, 21), (0, 9, 15, 15)])
def f_L_chapter (x0 : Option (Nat × Nat)) (x1 : Int32) (x2 : Option (Nat × Nat)) (h : am_H) : am_R := m_ao x0 10 fun a3 => m_bIx (f_X10_chapter a3 x1 h) (fun h1 v2 => m_sL x2 (0 : Int32) (Int32.toInt64 v2) h1 fun h6 => m_ri h6 (0 : Int32)) (fun h4 e5 => if e5 = 0 then (m_ri h4 (1 : Int32)) else if e5 = 2 then (m_ri h4 (2 : Int32)) else none)
theorem k_L_chapter (d : Nat) (hd : 9 ≤ d) (x0 : Option (Nat × Nat)) (x1 : Int32) (x2 : Option (Nat × Nat)) (h : am_H) : am_Con m_L_chapter d [.inr (.inr x0), .inl x1, .inr (.inr x2)] h (f_L_chapter x0 x1 x2 h) := am_conX (by decide +kernel) (Nat.le_of_ble_eq_true rfl) (by
  unfold f_L_chapter
  refine sim_aload_n dL_chapter_0 rfl ?_
  refine sim_iconst (0) dL_chapter_1 (by decide +kernel) ?_
  refine sim_aload_n dL_chapter_2 rfl ?_
  refine sim_iload_n dL_chapter_3 rfl ?_
  refine sim_ao1 (fun a3 e => ?_)
  refine sim_virt (d - 1) e dL_chapter_4 (k_X10_chapter (d - 1) (by omega) _ _ _) q_X10_chapter rfl rfl wm_RL_37 rfl rfl (by omega) (Nat.le_of_ble_eq_true rfl) am_nIx (am_rIx fun h1 v2 => ?_) (am_eIx fun h9 k9 => ?_)
  · refine sim_i2l dL_chapter_7 ?_
    refine sim_sL dL_chapter_8 (fun h6 => ?_)
    refine sim_goto 18 dL_chapter_9 (by decide) ?_
    refine sim_iconst (0) dL_chapter_18 (by decide +kernel) ?_
    exact sim_iret dL_chapter_19 rfl
  · refine simx_case (fun cx => ?_) (fun cx => ?_)
    · subst cx
      refine simx_catch [] (0, 9, 12, 21) [(0, 9, 15, 15)] rfl ⟨by decide, by decide⟩ (by decide) wx_RL_21 wca_0 (by decide) (fun z hz => by cases hz) ?_
      refine sim_astore_n dL_chapter_12 (Nat.le_of_ble_eq_true rfl) ?_
      refine sim_iconst (1) dL_chapter_13 (by decide +kernel) ?_
      exact sim_iret dL_chapter_14 rfl
    refine simx_case (fun cx => ?_) (fun cx => ?_)
    · subst cx
      refine simx_catch [(0, 9, 12, 21)] (0, 9, 15, 15) [] rfl ⟨by decide, by decide⟩ (by decide) wx_RL_15 wca_2 (by decide) (fun z hz => by simp only [List.mem_cons, List.not_mem_nil, or_false] at hz; subst hz; exact ⟨by decide, 0, _, by decide, by decide, wx_RL_21⟩) ?_
      refine sim_astore_n dL_chapter_15 (Nat.le_of_ble_eq_true rfl) ?_
      refine sim_iconst (2) dL_chapter_16 (by decide +kernel) ?_
      exact sim_iret dL_chapter_17 rfl
    exact simx_none)
theorem q_L_chapter : am_Cal m_L_chapter 3 0 := ⟨am_mem 583 (w := Cond.codeWith yL_chapter cL_chapter 4 (some .int) [(0, 9, 12, 21), (0, 9, 15, 15)]) (by decide +kernel) rfl, am_mem 55 (w := Cond.initialized RL) (by decide +kernel) rfl, fun _ => am_mem 582 (w := Cond.static yL_chapter) (by decide +kernel) rfl, fun z => absurd rfl z, fun z => absurd z (by decide), fun z => absurd z (by decide), by decide +kernel, by decide +kernel, Nat.le_of_ble_eq_true rfl⟩
abbrev m_X10_collect : am_M := (yX10_collect, cX10_collect, 4, none, [])
def f_X10_collect_18   (h : am_H) : am_R := m_ex h 0
theorem t_X10_collect_18 (d : Nat) (hd : 8 ≤ d)   (h : am_H) : Sim m_X10_collect d 18 [none, none, none, none] [] h (f_X10_collect_18   h) := by
  unfold f_X10_collect_18
  exact sim_throw 0 (by decide) dX10_collect_18 dX10_collect_21 dX10_collect_22 dX10_collect_24 dX10_collect_27 wx_RX10_162 wy_0 ws_RX10_164 at_RX10_166 gd_RX10_166 (by omega) (Nat.le_of_ble_eq_true rfl)
def f_X10_collect (a0 : Nat × Nat) (x1 : Int32) (x2 : Int32) (h : am_H) : am_R := m_ao (some a0) 10 fun a3 => m_bR (f_X10_workAt a3 x1 h) fun h1 o2 => if x2 < 0 then (f_X10_collect_18 h1) else (m_gI (some a0) 10 6 h1 fun v4 => if x2 < v4 then (m_gR o2 9 6 h1 fun o5 => if o5 = none then (m_gR (some a0) 10 5 h1 fun o6 => m_aR o6 6 x2 h1 fun o7 => m_pR o2 9 6 o7 h1 fun h8 => m_rt h8 none) else (m_ex h1 2)) else (f_X10_collect_18 h1))
theorem k_X10_collect (d : Nat) (hd : 8 ≤ d) (a0 : Nat × Nat) (x1 : Int32) (x2 : Int32) (h : am_H) : am_Con m_X10_collect d [.inr (.inr (some a0)), .inl x1, .inl x2] h (f_X10_collect a0 x1 x2 h) := am_con (by decide +kernel) (Nat.le_of_ble_eq_true rfl) (by
  unfold f_X10_collect
  refine sim_aload_n dX10_collect_0 rfl ?_
  refine sim_iload_n dX10_collect_1 rfl ?_
  refine sim_ao1 (fun a3 e => ?_)
  refine sim_virt (d - 1) e dX10_collect_2 (k_X10_workAt (d - 1) (by omega) _ _ _) q_X10_workAt rfl rfl wm_RX10_112 rfl rfl (by omega) (Nat.le_of_ble_eq_true rfl) am_nR (am_rR fun h1 o2 => ?_) am_eR
  refine sim_astore_n dX10_collect_5 (Nat.le_of_ble_eq_true rfl) ?_
  refine sim_iload_n dX10_collect_6 rfl ?_
  refine sim_if_lt 18 dX10_collect_7 (by decide) (fun c => ?_) (fun c => ?_)
  · exact sim_lv (am_leN (am_leN (am_leN (am_leN am_leT)))) (t_X10_collect_18 d (by omega) _)
  · refine sim_iload_n dX10_collect_10 rfl ?_
    refine sim_aload_n dX10_collect_11 rfl ?_
    refine sim_gI 10 6 dX10_collect_12 rfl wf_RX10_156 (Nat.le_of_ble_eq_true rfl) rfl (fun v4 => ?_)
    refine sim_ic_lt 28 dX10_collect_15 (by decide) (fun c => ?_) (fun c => ?_)
    · refine sim_aload_n dX10_collect_28 rfl ?_
      refine sim_gR 9 6 dX10_collect_29 rfl wf_RX10_167 (Nat.le_of_ble_eq_true rfl) rfl (fun o5 => ?_)
      refine sim_ifnull 45 dX10_collect_32 (by decide) (fun c => ?_) (fun c => ?_)
      · refine sim_aload_n dX10_collect_45 rfl ?_
        refine sim_aload_n dX10_collect_46 rfl ?_
        refine sim_gR 10 5 dX10_collect_47 rfl wf_RX10_27 (Nat.le_of_ble_eq_true rfl) rfl (fun o6 => ?_)
        refine sim_iload_n dX10_collect_50 rfl ?_
        refine sim_aR 6 rfl dX10_collect_51 (fun o7 => ?_)
        refine sim_pR 9 6 dX10_collect_52 rfl wf_RX10_167 (Nat.le_of_ble_eq_true rfl) rfl (Or.inl rfl) (fun h8 => ?_)
        exact sim_vret dX10_collect_55 rfl
      · exact sim_throw 2 (by decide) dX10_collect_35 dX10_collect_38 dX10_collect_39 dX10_collect_41 dX10_collect_44 wx_RX10_77 wy_2 ws_RX10_171 at_RX10_81 gd_RX10_81 (by omega) (Nat.le_of_ble_eq_true rfl)
    · exact sim_lv (am_leN (am_leN (am_leN (am_leN am_leT)))) (t_X10_collect_18 d (by omega) _))
theorem q_X10_collect : am_Cal m_X10_collect 2 2 := ⟨am_mem 637 (w := Cond.code yX10_collect cX10_collect 4 none) (by decide +kernel) rfl, am_mem 56 (w := Cond.initialized RX10) (by decide +kernel) rfl, fun z => absurd z (by decide), fun _ => am_mem 635 (w := Cond.instanceMethod yX10_collect) (by decide +kernel) rfl, fun z => absurd z (by decide), fun _ => am_mem 636 (w := Cond.selects RX10 yX10_collect yX10_collect) (by decide +kernel) rfl, by decide +kernel, by decide +kernel, Nat.le_of_ble_eq_true rfl⟩
abbrev m_L_collect : am_M := (yL_collect, cL_collect, 4, some .int, [(0, 6, 9, 21), (0, 6, 12, 15)])
def f_L_collect (x0 : Option (Nat × Nat)) (x1 : Int32) (x2 : Int32) (h : am_H) : am_R := m_ao x0 10 fun a3 => m_bVx (f_X10_collect a3 x1 x2 h) (fun h1 => m_ri h1 (0 : Int32)) (fun h4 e5 => if e5 = 0 then (m_ri h4 (1 : Int32)) else if e5 = 2 then (m_ri h4 (2 : Int32)) else none)
theorem k_L_collect (d : Nat) (hd : 9 ≤ d) (x0 : Option (Nat × Nat)) (x1 : Int32) (x2 : Int32) (h : am_H) : am_Con m_L_collect d [.inr (.inr x0), .inl x1, .inl x2] h (f_L_collect x0 x1 x2 h) := am_conX (by decide +kernel) (Nat.le_of_ble_eq_true rfl) (by
  unfold f_L_collect
  refine sim_aload_n dL_collect_0 rfl ?_
  refine sim_iload_n dL_collect_1 rfl ?_
  refine sim_iload_n dL_collect_2 rfl ?_
  refine sim_ao2 (fun a3 e => ?_)
  refine sim_virt (d - 1) e dL_collect_3 (k_X10_collect (d - 1) (by omega) _ _ _ _) q_X10_collect rfl rfl wm_RL_50 rfl rfl (by omega) (Nat.le_of_ble_eq_true rfl) am_nVx (am_rVx fun h1 => ?_) (am_eVx fun h9 k9 => ?_)
  · refine sim_goto 15 dL_collect_6 (by decide) ?_
    refine sim_iconst (0) dL_collect_15 (by decide +kernel) ?_
    exact sim_iret dL_collect_16 rfl
  · refine simx_case (fun cx => ?_) (fun cx => ?_)
    · subst cx
      refine simx_catch [] (0, 6, 9, 21) [(0, 6, 12, 15)] rfl ⟨by decide, by decide⟩ (by decide) wx_RL_21 wca_0 (by decide) (fun z hz => by cases hz) ?_
      refine sim_astore_n dL_collect_9 (Nat.le_of_ble_eq_true rfl) ?_
      refine sim_iconst (1) dL_collect_10 (by decide +kernel) ?_
      exact sim_iret dL_collect_11 rfl
    refine simx_case (fun cx => ?_) (fun cx => ?_)
    · subst cx
      refine simx_catch [(0, 6, 9, 21)] (0, 6, 12, 15) [] rfl ⟨by decide, by decide⟩ (by decide) wx_RL_15 wca_2 (by decide) (fun z hz => by simp only [List.mem_cons, List.not_mem_nil, or_false] at hz; subst hz; exact ⟨by decide, 0, _, by decide, by decide, wx_RL_21⟩) ?_
      refine sim_astore_n dL_collect_12 (Nat.le_of_ble_eq_true rfl) ?_
      refine sim_iconst (2) dL_collect_13 (by decide +kernel) ?_
      exact sim_iret dL_collect_14 rfl
    exact simx_none)
theorem q_L_collect : am_Cal m_L_collect 3 0 := ⟨am_mem 633 (w := Cond.codeWith yL_collect cL_collect 4 (some .int) [(0, 6, 9, 21), (0, 6, 12, 15)]) (by decide +kernel) rfl, am_mem 55 (w := Cond.initialized RL) (by decide +kernel) rfl, fun _ => am_mem 632 (w := Cond.static yL_collect) (by decide +kernel) rfl, fun z => absurd rfl z, fun z => absurd z (by decide), fun z => absurd z (by decide), by decide +kernel, by decide +kernel, Nat.le_of_ble_eq_true rfl⟩
abbrev m_X0_init : am_M := (yX0_init, cX0_init, 3, none, [])
def f_X0_init (a0 : Nat × Nat) (x1 : Int32) (x2 : Int32) (h : am_H) : am_R := m_pI (some a0) 0 0 x1 h fun h1 => m_pI (some a0) 0 1 x2 h1 fun h2 => m_rt h2 none
theorem k_X0_init (d : Nat) (hd : 1 ≤ d) (a0 : Nat × Nat) (x1 : Int32) (x2 : Int32) (h : am_H) : am_Con m_X0_init d [.inr (.inr (some a0)), .inl x1, .inl x2] h (f_X0_init a0 x1 x2 h) := am_con (by decide +kernel) (Nat.le_of_ble_eq_true rfl) (by
  unfold f_X0_init
  refine sim_aload_n dX0_init_0 rfl ?_
  refine sim_obj dX0_init_1 wm_RX0_1 wobj_i wobj_c (by omega) (Nat.le_of_ble_eq_true rfl) ?_
  refine sim_aload_n dX0_init_4 rfl ?_
  refine sim_iload_n dX0_init_5 rfl ?_
  refine sim_pI 0 0 dX0_init_6 rfl wf_RX0_7 (Nat.le_of_ble_eq_true rfl) rfl (Or.inr ⟨rfl, rfl, rfl⟩) rfl (fun h1 => ?_)
  refine sim_aload_n dX0_init_9 rfl ?_
  refine sim_iload_n dX0_init_10 rfl ?_
  refine sim_pI 0 1 dX0_init_11 rfl wf_RX0_13 (Nat.le_of_ble_eq_true rfl) rfl (Or.inr ⟨rfl, rfl, rfl⟩) rfl (fun h2 => ?_)
  exact sim_vret dX0_init_14 rfl)
theorem q_X0_init : am_Cal m_X0_init 2 1 := ⟨am_mem 620 (w := Cond.code yX0_init cX0_init 3 none) (by decide +kernel) rfl, am_mem 73 (w := Cond.initialized RX0) (by decide +kernel) rfl, fun z => absurd z (by decide), fun _ => am_mem 619 (w := Cond.instanceMethod yX0_init) (by decide +kernel) rfl, fun _ => rfl, fun z => absurd z (by decide), by decide +kernel, by decide +kernel, Nat.le_of_ble_eq_true rfl⟩
abbrev m_X10_collection : am_M := (yX10_collection, cX10_collection, 3, some .int, [])
def f_X10_collection_23   (h : am_H) : am_R := m_ex h 1
theorem t_X10_collection_23 (d : Nat) (hd : 6 ≤ d)   (h : am_H) : Sim m_X10_collection d 23 [none, none, none] [] h (f_X10_collection_23   h) := by
  unfold f_X10_collection_23
  exact sim_throw 1 (by decide) dX10_collection_23 dX10_collection_26 dX10_collection_27 dX10_collection_29 dX10_collection_32 wx_RX10_66 wy_1 ws_RX10_154 at_RX10_70 gd_RX10_70 (by omega) (Nat.le_of_ble_eq_true rfl)
def f_X10_collection (a0 : Nat × Nat) (x1 : Int32) (x2 : Int32) (h : am_H) : am_R := if x1 < 0 then (f_X10_collection_23 h) else (if (2000 : Int32) < x1 then (f_X10_collection_23 h) else (if x2 < x1 then (f_X10_collection_23 h) else (if x2 ≤ (2000 : Int32) then (m_gI (some a0) 10 6 h fun v1 => if v1 < (6 : Int32) then (m_gR (some a0) 10 5 h fun o2 => m_gI (some a0) 10 6 h fun v3 => m_new 28 2 h fun a4 h5 => m_bW (f_X0_init a4 x1 x2 h5) fun h6 => m_sR o2 6 0 v3 (some a4) h6 fun h8 => m_gI (some a0) 10 6 h8 fun v9 => m_pI (some a0) 10 6 (v9 + (1 : Int32)) h8 fun h10 => m_gI (some a0) 10 6 h10 fun v11 => m_ri h10 (v11 - (1 : Int32))) else (m_ex h 2)) else (f_X10_collection_23 h))))
theorem k_X10_collection (d : Nat) (hd : 6 ≤ d) (a0 : Nat × Nat) (x1 : Int32) (x2 : Int32) (h : am_H) : am_Con m_X10_collection d [.inr (.inr (some a0)), .inl x1, .inl x2] h (f_X10_collection a0 x1 x2 h) := am_con (by decide +kernel) (Nat.le_of_ble_eq_true rfl) (by
  unfold f_X10_collection
  refine sim_iload_n dX10_collection_0 rfl ?_
  refine sim_if_lt 23 dX10_collection_1 (by decide) (fun c => ?_) (fun c => ?_)
  · exact sim_lv (am_leN (am_leN (am_leN am_leT))) (t_X10_collection_23 d (by omega) _)
  · refine sim_iload_n dX10_collection_4 rfl ?_
    refine sim_sipush (2000) dX10_collection_5 (by decide +kernel) ?_
    refine sim_ic_gt 23 dX10_collection_8 (by decide) (fun c => ?_) (fun c => ?_)
    · exact sim_lv (am_leN (am_leN (am_leN am_leT))) (t_X10_collection_23 d (by omega) _)
    · refine sim_iload_n dX10_collection_11 rfl ?_
      refine sim_iload_n dX10_collection_12 rfl ?_
      refine sim_ic_lt 23 dX10_collection_13 (by decide) (fun c => ?_) (fun c => ?_)
      · exact sim_lv (am_leN (am_leN (am_leN am_leT))) (t_X10_collection_23 d (by omega) _)
      · refine sim_iload_n dX10_collection_16 rfl ?_
        refine sim_sipush (2000) dX10_collection_17 (by decide +kernel) ?_
        refine sim_ic_le 33 dX10_collection_20 (by decide) (fun c => ?_) (fun c => ?_)
        · refine sim_aload_n dX10_collection_33 rfl ?_
          refine sim_gI 10 6 dX10_collection_34 rfl wf_RX10_156 (Nat.le_of_ble_eq_true rfl) rfl (fun v1 => ?_)
          refine sim_bipush (6) dX10_collection_37 (by decide +kernel) ?_
          refine sim_ic_lt 52 dX10_collection_39 (by decide) (fun c => ?_) (fun c => ?_)
          · refine sim_aload_n dX10_collection_52 rfl ?_
            refine sim_gR 10 5 dX10_collection_53 rfl wf_RX10_27 (Nat.le_of_ble_eq_true rfl) rfl (fun o2 => ?_)
            refine sim_aload_n dX10_collection_56 rfl ?_
            refine sim_gI 10 6 dX10_collection_57 rfl wf_RX10_156 (Nat.le_of_ble_eq_true rfl) rfl (fun v3 => ?_)
            refine sim_nw 28 0 2 dX10_collection_60 rfl rfl wc_RX10_25 wi_RX0 wz_RX0 (fun a4 h5 => ?_)
            refine sim_dup_r dX10_collection_63 ?_
            refine sim_iload_n dX10_collection_64 rfl ?_
            refine sim_iload_n dX10_collection_65 rfl ?_
            refine sim_ctor (d - 1) dX10_collection_66 (k_X0_init (d - 1) (by omega) _ _ _ _) q_X0_init wm_RX10_161 rfl rfl (by omega) (Nat.le_of_ble_eq_true rfl) am_nW am_xW (am_rW fun h6 => ?_)
            refine sim_sR 6 rfl dX10_collection_69 (fun h8 => ?_)
            refine sim_aload_n dX10_collection_70 rfl ?_
            refine sim_dup_r dX10_collection_71 ?_
            refine sim_gI 10 6 dX10_collection_72 rfl wf_RX10_156 (Nat.le_of_ble_eq_true rfl) rfl (fun v9 => ?_)
            refine sim_iconst (1) dX10_collection_75 (by decide +kernel) ?_
            refine sim_iadd dX10_collection_76 ?_
            refine sim_pI 10 6 dX10_collection_77 rfl wf_RX10_156 (Nat.le_of_ble_eq_true rfl) rfl (Or.inl rfl) rfl (fun h10 => ?_)
            refine sim_aload_n dX10_collection_80 rfl ?_
            refine sim_gI 10 6 dX10_collection_81 rfl wf_RX10_156 (Nat.le_of_ble_eq_true rfl) rfl (fun v11 => ?_)
            refine sim_iconst (1) dX10_collection_84 (by decide +kernel) ?_
            refine sim_isub dX10_collection_85 ?_
            exact sim_iret dX10_collection_86 rfl
          · exact sim_throw 2 (by decide) dX10_collection_42 dX10_collection_45 dX10_collection_46 dX10_collection_48 dX10_collection_51 wx_RX10_77 wy_2 ws_RX10_159 at_RX10_81 gd_RX10_81 (by omega) (Nat.le_of_ble_eq_true rfl)
        · exact sim_lv (am_leN (am_leN (am_leN am_leT))) (t_X10_collection_23 d (by omega) _))
theorem q_X10_collection : am_Cal m_X10_collection 2 2 := ⟨am_mem 614 (w := Cond.code yX10_collection cX10_collection 3 (some .int)) (by decide +kernel) rfl, am_mem 56 (w := Cond.initialized RX10) (by decide +kernel) rfl, fun z => absurd z (by decide), fun _ => am_mem 612 (w := Cond.instanceMethod yX10_collection) (by decide +kernel) rfl, fun z => absurd z (by decide), fun _ => am_mem 613 (w := Cond.selects RX10 yX10_collection yX10_collection) (by decide +kernel) rfl, by decide +kernel, by decide +kernel, Nat.le_of_ble_eq_true rfl⟩
abbrev m_L_collection : am_M := (yL_collection, cL_collection, 5, some .int, [(0, 10, 13, 13), (0, 10, 17, 15)])
def f_L_collection (x0 : Option (Nat × Nat)) (x1 : Int32) (x2 : Int32) (x3 : Option (Nat × Nat)) (h : am_H) : am_R := m_ao x0 10 fun a3 => m_bIx (f_X10_collection a3 x1 x2 h) (fun h1 v2 => m_sL x3 (0 : Int32) (Int32.toInt64 v2) h1 fun h6 => m_ri h6 (0 : Int32)) (fun h4 e5 => if e5 = 1 then (m_ri h4 (1 : Int32)) else if e5 = 2 then (m_ri h4 (2 : Int32)) else none)
theorem k_L_collection (d : Nat) (hd : 7 ≤ d) (x0 : Option (Nat × Nat)) (x1 : Int32) (x2 : Int32) (x3 : Option (Nat × Nat)) (h : am_H) : am_Con m_L_collection d [.inr (.inr x0), .inl x1, .inl x2, .inr (.inr x3)] h (f_L_collection x0 x1 x2 x3 h) := am_conX (by decide +kernel) (Nat.le_of_ble_eq_true rfl) (by
  unfold f_L_collection
  refine sim_aload_n dL_collection_0 rfl ?_
  refine sim_iconst (0) dL_collection_1 (by decide +kernel) ?_
  refine sim_aload_n dL_collection_2 rfl ?_
  refine sim_iload_n dL_collection_3 rfl ?_
  refine sim_iload_n dL_collection_4 rfl ?_
  refine sim_ao2 (fun a3 e => ?_)
  refine sim_virt (d - 1) e dL_collection_5 (k_X10_collection (d - 1) (by omega) _ _ _ _) q_X10_collection rfl rfl wm_RL_47 rfl rfl (by omega) (Nat.le_of_ble_eq_true rfl) am_nIx (am_rIx fun h1 v2 => ?_) (am_eIx fun h9 k9 => ?_)
  · refine sim_i2l dL_collection_8 ?_
    refine sim_sL dL_collection_9 (fun h6 => ?_)
    refine sim_goto 21 dL_collection_10 (by decide) ?_
    refine sim_iconst (0) dL_collection_21 (by decide +kernel) ?_
    exact sim_iret dL_collection_22 rfl
  · refine simx_case (fun cx => ?_) (fun cx => ?_)
    · subst cx
      refine simx_catch [] (0, 10, 13, 13) [(0, 10, 17, 15)] rfl ⟨by decide, by decide⟩ (by decide) wx_RL_13 wca_1 (by decide) (fun z hz => by cases hz) ?_
      refine sim_astore dL_collection_13 (Nat.le_of_ble_eq_true rfl) ?_
      refine sim_iconst (1) dL_collection_15 (by decide +kernel) ?_
      exact sim_iret dL_collection_16 rfl
    refine simx_case (fun cx => ?_) (fun cx => ?_)
    · subst cx
      refine simx_catch [(0, 10, 13, 13)] (0, 10, 17, 15) [] rfl ⟨by decide, by decide⟩ (by decide) wx_RL_15 wca_2 (by decide) (fun z hz => by simp only [List.mem_cons, List.not_mem_nil, or_false] at hz; subst hz; exact ⟨by decide, 1, _, by decide, by decide, wx_RL_13⟩) ?_
      refine sim_astore dL_collection_17 (Nat.le_of_ble_eq_true rfl) ?_
      refine sim_iconst (2) dL_collection_19 (by decide +kernel) ?_
      exact sim_iret dL_collection_20 rfl
    exact simx_none)
theorem q_L_collection : am_Cal m_L_collection 4 0 := ⟨am_mem 610 (w := Cond.codeWith yL_collection cL_collection 5 (some .int) [(0, 10, 13, 13), (0, 10, 17, 15)]) (by decide +kernel) rfl, am_mem 55 (w := Cond.initialized RL) (by decide +kernel) rfl, fun _ => am_mem 609 (w := Cond.static yL_collection) (by decide +kernel) rfl, fun z => absurd rfl z, fun z => absurd z (by decide), fun z => absurd z (by decide), by decide +kernel, by decide +kernel, Nat.le_of_ble_eq_true rfl⟩
abbrev m_X10_checkFace : am_M := (yX10_checkFace, cX10_checkFace, 1, none, [])
def f_X10_checkFace_10   (h : am_H) : am_R := m_ex h 0
theorem t_X10_checkFace_10 (d : Nat) (hd : 6 ≤ d)   (h : am_H) : Sim m_X10_checkFace d 10 [none] [] h (f_X10_checkFace_10   h) := by
  unfold f_X10_checkFace_10
  exact sim_throwW 0 (by decide) dX10_checkFace_10 dX10_checkFace_13 dX10_checkFace_14 dX10_checkFace_17 dX10_checkFace_20 wx_RX10_162 wy_0 ws_RX10_376 at_RX10_166 gd_RX10_166 (by omega) (Nat.le_of_ble_eq_true rfl)
def f_X10_checkFace (x0 : Int32) (h : am_H) : am_R := if x0 < 0 then (f_X10_checkFace_10 h) else (if x0 < (32 : Int32) then (m_rt h none) else (f_X10_checkFace_10 h))
theorem k_X10_checkFace (d : Nat) (hd : 6 ≤ d) (x0 : Int32) (h : am_H) : am_Con m_X10_checkFace d [.inl x0] h (f_X10_checkFace x0 h) := am_con (by decide +kernel) (Nat.le_of_ble_eq_true rfl) (by
  unfold f_X10_checkFace
  refine sim_iload_n dX10_checkFace_0 rfl ?_
  refine sim_if_lt 10 dX10_checkFace_1 (by decide) (fun c => ?_) (fun c => ?_)
  · exact sim_lv (am_leN am_leT) (t_X10_checkFace_10 d (by omega) _)
  · refine sim_iload_n dX10_checkFace_4 rfl ?_
    refine sim_bipush (32) dX10_checkFace_5 (by decide +kernel) ?_
    refine sim_ic_lt 21 dX10_checkFace_7 (by decide) (fun c => ?_) (fun c => ?_)
    · exact sim_vret dX10_checkFace_21 rfl
    · exact sim_lv (am_leN am_leT) (t_X10_checkFace_10 d (by omega) _))
theorem q_X10_checkFace : am_Cal m_X10_checkFace 1 0 := ⟨am_mem 488 (w := Cond.code yX10_checkFace cX10_checkFace 1 none) (by decide +kernel) rfl, am_mem 56 (w := Cond.initialized RX10) (by decide +kernel) rfl, fun _ => am_mem 487 (w := Cond.static yX10_checkFace) (by decide +kernel) rfl, fun z => absurd rfl z, fun z => absurd z (by decide), fun z => absurd z (by decide), by decide +kernel, by decide +kernel, Nat.le_of_ble_eq_true rfl⟩
abbrev m_X10_isBlockedBy : am_M := (yX10_isBlockedBy, cX10_isBlockedBy, 3, some .boolean, [])
def f_X10_isBlockedBy_31  (s0 : Int32) (h : am_H) : am_R := m_rz h s0
theorem t_X10_isBlockedBy_31 (d : Nat) (hd : 1 ≤ d)  (s0 : Int32) (h : am_H) : Sim m_X10_isBlockedBy d 31 [none, none, none] [.inl s0] h (f_X10_isBlockedBy_31  s0 h) := by
  unfold f_X10_isBlockedBy_31
  exact sim_zret dX10_isBlockedBy_31 rfl
def f_X10_isBlockedBy_30   (h : am_H) : am_R := f_X10_isBlockedBy_31 (0 : Int32) h
theorem t_X10_isBlockedBy_30 (d : Nat) (hd : 1 ≤ d)   (h : am_H) : Sim m_X10_isBlockedBy d 30 [none, none, none] [] h (f_X10_isBlockedBy_30   h) := by
  unfold f_X10_isBlockedBy_30
  refine sim_iconst (0) dX10_isBlockedBy_30 (by decide +kernel) ?_
  exact sim_lv (am_leN (am_leN (am_leN am_leT))) (t_X10_isBlockedBy_31 d (by omega) _ _)
def f_X10_isBlockedBy (a0 : Nat × Nat) (x1 : Int32) (x2 : Int32) (h : am_H) : am_R := if x1 < 0 then (f_X10_isBlockedBy_30 h) else (if (12 : Int32) ≤ x1 then (f_X10_isBlockedBy_30 h) else (m_gR (some a0) 10 2 h fun o1 => m_aR o1 4 x1 h fun o2 => m_gI o2 3 0 h fun v3 => m_bI (f_X10_has v3 x2 h) fun h4 v5 => if v5 = 0 then (f_X10_isBlockedBy_30 h4) else (f_X10_isBlockedBy_31 (1 : Int32) h4)))
theorem k_X10_isBlockedBy (d : Nat) (hd : 1 ≤ d) (a0 : Nat × Nat) (x1 : Int32) (x2 : Int32) (h : am_H) : am_Con m_X10_isBlockedBy d [.inr (.inr (some a0)), .inl x1, .inl x2] h (f_X10_isBlockedBy a0 x1 x2 h) := am_con (by decide +kernel) (Nat.le_of_ble_eq_true rfl) (by
  unfold f_X10_isBlockedBy
  refine sim_iload_n dX10_isBlockedBy_0 rfl ?_
  refine sim_if_lt 30 dX10_isBlockedBy_1 (by decide) (fun c => ?_) (fun c => ?_)
  · exact sim_lv (am_leN (am_leN (am_leN am_leT))) (t_X10_isBlockedBy_30 d (by omega) _)
  · refine sim_iload_n dX10_isBlockedBy_4 rfl ?_
    refine sim_bipush (12) dX10_isBlockedBy_5 (by decide +kernel) ?_
    refine sim_ic_ge 30 dX10_isBlockedBy_7 (by decide) (fun c => ?_) (fun c => ?_)
    · exact sim_lv (am_leN (am_leN (am_leN am_leT))) (t_X10_isBlockedBy_30 d (by omega) _)
    · refine sim_aload_n dX10_isBlockedBy_10 rfl ?_
      refine sim_gR 10 2 dX10_isBlockedBy_11 rfl wf_RX10_15 (Nat.le_of_ble_eq_true rfl) rfl (fun o1 => ?_)
      refine sim_iload_n dX10_isBlockedBy_14 rfl ?_
      refine sim_aR 4 rfl dX10_isBlockedBy_15 (fun o2 => ?_)
      refine sim_gI 3 0 dX10_isBlockedBy_16 rfl wf_RX10_88 (Nat.le_of_ble_eq_true rfl) rfl (fun v3 => ?_)
      refine sim_iload_n dX10_isBlockedBy_19 rfl ?_
      refine sim_static (d - 1) dX10_isBlockedBy_20 (k_X10_has (d - 1) (by omega) _ _ _) q_X10_has wm_RX10_91 rfl rfl (by omega) (Nat.le_of_ble_eq_true rfl) am_nI (am_rI fun h4 v5 => ?_) am_eI
      refine sim_if_eq 30 dX10_isBlockedBy_23 (by decide) (fun c => ?_) (fun c => ?_)
      · exact sim_lv (am_leN (am_leN (am_leN am_leT))) (t_X10_isBlockedBy_30 d (by omega) _)
      · refine sim_iconst (1) dX10_isBlockedBy_26 (by decide +kernel) ?_
        refine sim_goto 31 dX10_isBlockedBy_27 (by decide) ?_
        exact sim_lv (am_leN (am_leN (am_leN am_leT))) (t_X10_isBlockedBy_31 d (by omega) _ _))
theorem q_X10_isBlockedBy : am_Cal m_X10_isBlockedBy 2 2 := ⟨am_mem 986 (w := Cond.code yX10_isBlockedBy cX10_isBlockedBy 3 (some .boolean)) (by decide +kernel) rfl, am_mem 56 (w := Cond.initialized RX10) (by decide +kernel) rfl, fun z => absurd z (by decide), fun _ => am_mem 985 (w := Cond.instanceMethod yX10_isBlockedBy) (by decide +kernel) rfl, fun z => absurd z (by decide), fun _ => am_mem 25 (w := Cond.selects RX10 yX10_isBlockedBy yX10_isBlockedBy) (by decide +kernel) rfl, by decide +kernel, by decide +kernel, Nat.le_of_ble_eq_true rfl⟩
abbrev m_X10_isBlockedByAny : am_M := (yX10_isBlockedByAny, cX10_isBlockedByAny, 4, some .boolean, [])
def f_X10_isBlockedByAny_27 (rc2 : Nat × Nat → Int32 → Int32 → Int32 → am_H → am_R) (a0 : Nat × Nat) (x1 : Int32) (x2 : Int32) (x3 : Int32) (h : am_H) : am_R := rc2 a0 x1 x2 (x3 + 1) h
theorem t_X10_isBlockedByAny_27 (d : Nat) (hd : 2 ≤ d) (rc2 : Nat × Nat → Int32 → Int32 → Int32 → am_H → am_R) (hrc2 : ∀ a0 x1 x2 x3 h, Sim m_X10_isBlockedByAny d 2 [some (.inr (.inr (some a0))), some (.inl x1), some (.inl x2), some (.inl x3)] [] h (rc2 a0 x1 x2 x3 h)) (a0 : Nat × Nat) (x1 : Int32) (x2 : Int32) (x3 : Int32) (h : am_H) : Sim m_X10_isBlockedByAny d 27 [some (.inr (.inr (some a0))), some (.inl x1), some (.inl x2), some (.inl x3)] [] h (f_X10_isBlockedByAny_27 rc2 a0 x1 x2 x3 h) := by
  unfold f_X10_isBlockedByAny_27
  refine sim_iinc (1) dX10_isBlockedByAny_27 rfl (by decide +kernel) (Nat.le_of_ble_eq_true rfl) ?_
  refine sim_goto 2 dX10_isBlockedByAny_30 (by decide) ?_
  exact sim_lv (am_leS (am_leS (am_leS (am_leS am_leT)))) (hrc2 _ _ _ _ _)
def f_X10_isBlockedByAny_2  : Nat → Nat × Nat → Int32 → Int32 → Int32 → am_H → am_R
  | 0, _, _, _, _, _ => none
  | n + 1, a0, x1, x2, x3, h => if (12 : Int32) ≤ x3 then (m_rz h (0 : Int32)) else (m_bI (f_X10_has x1 x3 h) fun h1 v2 => if v2 = 0 then (f_X10_isBlockedByAny_27 (f_X10_isBlockedByAny_2  n) a0 x1 x2 x3 h1) else (m_ao (some a0) 10 fun a5 => m_bI (f_X10_isBlockedBy a5 x3 x2 h1) fun h3 v4 => if v4 = 0 then (f_X10_isBlockedByAny_27 (f_X10_isBlockedByAny_2  n) a0 x1 x2 x3 h3) else (m_rz h3 (1 : Int32))))
theorem t_X10_isBlockedByAny_2 (d : Nat) (hd : 2 ≤ d)  : ∀ (n : Nat) (a0 : Nat × Nat) (x1 : Int32) (x2 : Int32) (x3 : Int32) (h : am_H), Sim m_X10_isBlockedByAny d 2 [some (.inr (.inr (some a0))), some (.inl x1), some (.inl x2), some (.inl x3)] [] h (f_X10_isBlockedByAny_2  n a0 x1 x2 x3 h) := by
  intro n
  induction n with
  | zero => intros; exact sim_none
  | succ n hrc2 =>
    intro a0 x1 x2 x3 h
    rw [f_X10_isBlockedByAny_2]
    refine sim_iload_n dX10_isBlockedByAny_2 rfl ?_
    refine sim_bipush (12) dX10_isBlockedByAny_3 (by decide +kernel) ?_
    refine sim_ic_ge 33 dX10_isBlockedByAny_5 (by decide) (fun c => ?_) (fun c => ?_)
    · refine sim_iconst (0) dX10_isBlockedByAny_33 (by decide +kernel) ?_
      exact sim_zret dX10_isBlockedByAny_34 rfl
    · refine sim_iload_n dX10_isBlockedByAny_8 rfl ?_
      refine sim_iload_n dX10_isBlockedByAny_9 rfl ?_
      refine sim_static (d - 1) dX10_isBlockedByAny_10 (k_X10_has (d - 1) (by omega) _ _ _) q_X10_has wm_RX10_91 rfl rfl (by omega) (Nat.le_of_ble_eq_true rfl) am_nI (am_rI fun h1 v2 => ?_) am_eI
      refine sim_if_eq 27 dX10_isBlockedByAny_13 (by decide) (fun c => ?_) (fun c => ?_)
      · exact sim_lv (am_leS (am_leS (am_leS (am_leS am_leT)))) (t_X10_isBlockedByAny_27 d (by omega) _ hrc2 _ _ _ _ _)
      · refine sim_aload_n dX10_isBlockedByAny_16 rfl ?_
        refine sim_iload_n dX10_isBlockedByAny_17 rfl ?_
        refine sim_iload_n dX10_isBlockedByAny_18 rfl ?_
        refine sim_ao2 (fun a5 e => ?_)
        refine sim_virt (d - 1) e dX10_isBlockedByAny_19 (k_X10_isBlockedBy (d - 1) (by omega) _ _ _ _) q_X10_isBlockedBy rfl rfl wm_RX10_455 rfl rfl (by omega) (Nat.le_of_ble_eq_true rfl) am_nI (am_rI fun h3 v4 => ?_) am_eI
        refine sim_if_eq 27 dX10_isBlockedByAny_22 (by decide) (fun c => ?_) (fun c => ?_)
        · exact sim_lv (am_leS (am_leS (am_leS (am_leS am_leT)))) (t_X10_isBlockedByAny_27 d (by omega) _ hrc2 _ _ _ _ _)
        · refine sim_iconst (1) dX10_isBlockedByAny_25 (by decide +kernel) ?_
          exact sim_zret dX10_isBlockedByAny_26 rfl
def f_X10_isBlockedByAny (a0 : Nat × Nat) (x1 : Int32) (x2 : Int32) (h : am_H) : am_R := f_X10_isBlockedByAny_2 5000 a0 x1 x2 (0 : Int32) h
theorem k_X10_isBlockedByAny (d : Nat) (hd : 2 ≤ d) (a0 : Nat × Nat) (x1 : Int32) (x2 : Int32) (h : am_H) : am_Con m_X10_isBlockedByAny d [.inr (.inr (some a0)), .inl x1, .inl x2] h (f_X10_isBlockedByAny a0 x1 x2 h) := am_con (by decide +kernel) (Nat.le_of_ble_eq_true rfl) (by
  unfold f_X10_isBlockedByAny
  refine sim_iconst (0) dX10_isBlockedByAny_0 (by decide +kernel) ?_
  refine sim_istore_n dX10_isBlockedByAny_1 (Nat.le_of_ble_eq_true rfl) ?_
  exact sim_lv (am_leS (am_leS (am_leS (am_leS am_leT)))) (t_X10_isBlockedByAny_2 d (by omega) _ _ _ _ _ _))
theorem q_X10_isBlockedByAny : am_Cal m_X10_isBlockedByAny 2 2 := ⟨am_mem 982 (w := Cond.code yX10_isBlockedByAny cX10_isBlockedByAny 4 (some .boolean)) (by decide +kernel) rfl, am_mem 56 (w := Cond.initialized RX10) (by decide +kernel) rfl, fun z => absurd z (by decide), fun _ => am_mem 981 (w := Cond.instanceMethod yX10_isBlockedByAny) (by decide +kernel) rfl, fun z => absurd z (by decide), fun _ => am_mem 24 (w := Cond.selects RX10 yX10_isBlockedByAny yX10_isBlockedByAny) (by decide +kernel) rfl, by decide +kernel, by decide +kernel, Nat.le_of_ble_eq_true rfl⟩
abbrev m_X9_isOwnedBy : am_M := (yX9_isOwnedBy, cX9_isOwnedBy, 2, some .boolean, [])
def f_X9_isOwnedBy (a0 : Nat × Nat) (x1 : Int32) (h : am_H) : am_R := m_gI (some a0) 9 1 h fun v1 => m_bJ (f_X10_has v1 x1 h) fun h2 v3 => m_rz h2 v3
theorem k_X9_isOwnedBy (d : Nat) (hd : 1 ≤ d) (a0 : Nat × Nat) (x1 : Int32) (h : am_H) : am_Con m_X9_isOwnedBy d [.inr (.inr (some a0)), .inl x1] h (f_X9_isOwnedBy a0 x1 h) := am_con (by decide +kernel) (Nat.le_of_ble_eq_true rfl) (by
  unfold f_X9_isOwnedBy
  refine sim_aload_n dX9_isOwnedBy_0 rfl ?_
  refine sim_gI 9 1 dX9_isOwnedBy_1 rfl wf_RX9_19 (Nat.le_of_ble_eq_true rfl) rfl (fun v1 => ?_)
  refine sim_iload_n dX9_isOwnedBy_4 rfl ?_
  refine sim_staticN (d - 1) dX9_isOwnedBy_5 (k_X10_has (d - 1) (by omega) _ _ _) q_X10_has wn_RX9_25 rfl rfl (by omega) (Nat.le_of_ble_eq_true rfl) am_nJ am_xJ (am_rJ fun h2 v3 => ?_)
  exact sim_zret dX9_isOwnedBy_8 rfl)
theorem q_X9_isOwnedBy : am_Cal m_X9_isOwnedBy 1 2 := ⟨am_mem 570 (w := Cond.code yX9_isOwnedBy cX9_isOwnedBy 2 (some .boolean)) (by decide +kernel) rfl, am_mem 71 (w := Cond.initialized RX9) (by decide +kernel) rfl, fun z => absurd z (by decide), fun _ => am_mem 568 (w := Cond.instanceMethod yX9_isOwnedBy) (by decide +kernel) rfl, fun z => absurd z (by decide), fun _ => am_mem 569 (w := Cond.selects RX9 yX9_isOwnedBy yX9_isOwnedBy) (by decide +kernel) rfl, by decide +kernel, by decide +kernel, Nat.le_of_ble_eq_true rfl⟩
abbrev m_X9_isPosted : am_M := (yX9_isPosted, cX9_isPosted, 1, some .boolean, [])
def f_X9_isPosted_13  (s0 : Int32) (h : am_H) : am_R := m_rz h s0
theorem t_X9_isPosted_13 (d : Nat) (hd : 0 ≤ d)  (s0 : Int32) (h : am_H) : Sim m_X9_isPosted d 13 [none] [.inl s0] h (f_X9_isPosted_13  s0 h) := by
  unfold f_X9_isPosted_13
  exact sim_zret dX9_isPosted_13 rfl
def f_X9_isPosted (a0 : Nat × Nat) (h : am_H) : am_R := m_gI (some a0) 9 4 h fun v1 => if v1 = (-1 : Int32) then (f_X9_isPosted_13 (0 : Int32) h) else (f_X9_isPosted_13 (1 : Int32) h)
theorem k_X9_isPosted (d : Nat) (hd : 0 ≤ d) (a0 : Nat × Nat) (h : am_H) : am_Con m_X9_isPosted d [.inr (.inr (some a0))] h (f_X9_isPosted a0 h) := am_con (by decide +kernel) (Nat.le_of_ble_eq_true rfl) (by
  unfold f_X9_isPosted
  refine sim_aload_n dX9_isPosted_0 rfl ?_
  refine sim_gI 9 4 dX9_isPosted_1 rfl wf_RX9_15 (Nat.le_of_ble_eq_true rfl) rfl (fun v1 => ?_)
  refine sim_iconst (-1) dX9_isPosted_4 (by decide +kernel) ?_
  refine sim_ic_eq 12 dX9_isPosted_5 (by decide) (fun c => ?_) (fun c => ?_)
  · refine sim_iconst (0) dX9_isPosted_12 (by decide +kernel) ?_
    exact sim_lv (am_leN am_leT) (t_X9_isPosted_13 d (by omega) _ _)
  · refine sim_iconst (1) dX9_isPosted_8 (by decide +kernel) ?_
    refine sim_goto 13 dX9_isPosted_9 (by decide) ?_
    exact sim_lv (am_leN am_leT) (t_X9_isPosted_13 d (by omega) _ _))
theorem q_X9_isPosted : am_Cal m_X9_isPosted 0 2 := ⟨am_mem 599 (w := Cond.code yX9_isPosted cX9_isPosted 1 (some .boolean)) (by decide +kernel) rfl, am_mem 71 (w := Cond.initialized RX9) (by decide +kernel) rfl, fun z => absurd z (by decide), fun _ => am_mem 597 (w := Cond.instanceMethod yX9_isPosted) (by decide +kernel) rfl, fun z => absurd z (by decide), fun _ => am_mem 598 (w := Cond.selects RX9 yX9_isPosted yX9_isPosted) (by decide +kernel) rfl, by decide +kernel, by decide +kernel, Nat.le_of_ble_eq_true rfl⟩
