abbrev m_L_bit : am_M := (yL_bit, cL_bit, 1, some .int, [])
def f_L_bit_9  (s0 : Int32) (h : am_H) : am_R := m_ri h s0
theorem t_L_bit_9 (d : Nat) (hd : 0 ≤ d)  (s0 : Int32) (h : am_H) : Sim m_L_bit d 9 [none] [.inl s0] h (f_L_bit_9  s0 h) := by
  unfold f_L_bit_9
  exact sim_iret dL_bit_9 rfl
def f_L_bit (x0 : Int32) (h : am_H) : am_R := if x0 = 0 then (f_L_bit_9 (0 : Int32) h) else (f_L_bit_9 (1 : Int32) h)
theorem k_L_bit (d : Nat) (hd : 0 ≤ d) (x0 : Int32) (h : am_H) : am_Con m_L_bit d [.inl x0] h (f_L_bit x0 h) := am_con (by decide +kernel) (Nat.le_of_ble_eq_true rfl) (by
  unfold f_L_bit
  refine sim_iload_n dL_bit_0 rfl ?_
  refine sim_if_eq 8 dL_bit_1 (by decide) (fun c => ?_) (fun c => ?_)
  · refine sim_iconst (0) dL_bit_8 (by decide +kernel) ?_
    exact sim_lv (am_leN am_leT) (t_L_bit_9 d (by omega) _ _)
  · refine sim_iconst (1) dL_bit_4 (by decide +kernel) ?_
    refine sim_goto 9 dL_bit_5 (by decide) ?_
    exact sim_lv (am_leN am_leT) (t_L_bit_9 d (by omega) _ _))
theorem q_L_bit : am_Cal m_L_bit 1 0 := ⟨am_mem 443 (w := Cond.code yL_bit cL_bit 1 (some .int)) (by decide +kernel) rfl, am_mem 29 (w := Cond.initialized RL) (by decide +kernel) rfl, fun _ => am_mem 442 (w := Cond.static yL_bit) (by decide +kernel) rfl, fun z => absurd rfl z, fun z => absurd z (by decide), fun z => absurd z (by decide), by decide +kernel, by decide +kernel, Nat.le_of_ble_eq_true rfl⟩
abbrev m_X10_checkWork : am_M := (yX10_checkWork, cX10_checkWork, 2, none, [])
def f_X10_checkWork_12   (h : am_H) : am_R := m_ex h 0
theorem t_X10_checkWork_12 (d : Nat) (hd : 6 ≤ d)   (h : am_H) : Sim m_X10_checkWork d 12 [none, none] [] h (f_X10_checkWork_12   h) := by
  unfold f_X10_checkWork_12
  exact sim_throwW 0 (by decide) dX10_checkWork_12 dX10_checkWork_15 dX10_checkWork_16 dX10_checkWork_19 dX10_checkWork_22 wx_RX10_162 wy_0 ws_RX10_384 at_RX10_166 gd_RX10_166 (by omega) (Nat.le_of_ble_eq_true rfl)
def f_X10_checkWork (a0 : Nat × Nat) (x1 : Int32) (h : am_H) : am_R := if x1 < 0 then (f_X10_checkWork_12 h) else (m_gI (some a0) 10 4 h fun v1 => if x1 < v1 then (m_rt h none) else (f_X10_checkWork_12 h))
theorem k_X10_checkWork (d : Nat) (hd : 6 ≤ d) (a0 : Nat × Nat) (x1 : Int32) (h : am_H) : am_Con m_X10_checkWork d [.inr (.inr (some a0)), .inl x1] h (f_X10_checkWork a0 x1 h) := am_con (by decide +kernel) (Nat.le_of_ble_eq_true rfl) (by
  unfold f_X10_checkWork
  refine sim_iload_n dX10_checkWork_0 rfl ?_
  refine sim_if_lt 12 dX10_checkWork_1 (by decide) (fun c => ?_) (fun c => ?_)
  · exact sim_lv (am_leN (am_leN am_leT)) (t_X10_checkWork_12 d (by omega) _)
  · refine sim_iload_n dX10_checkWork_4 rfl ?_
    refine sim_aload_n dX10_checkWork_5 rfl ?_
    refine sim_gI 10 4 dX10_checkWork_6 rfl wf_RX10_104 (Nat.le_of_ble_eq_true rfl) rfl (fun v1 => ?_)
    refine sim_ic_lt 23 dX10_checkWork_9 (by decide) (fun c => ?_) (fun c => ?_)
    · exact sim_vret dX10_checkWork_23 rfl
    · exact sim_lv (am_leN (am_leN am_leT)) (t_X10_checkWork_12 d (by omega) _))
theorem q_X10_checkWork : am_Cal m_X10_checkWork 1 2 := ⟨am_mem 463 (w := Cond.code yX10_checkWork cX10_checkWork 2 none) (by decide +kernel) rfl, am_mem 30 (w := Cond.initialized RX10) (by decide +kernel) rfl, fun z => absurd z (by decide), fun _ => am_mem 462 (w := Cond.instanceMethod yX10_checkWork) (by decide +kernel) rfl, fun z => absurd z (by decide), fun _ => am_mem 2 (w := Cond.selects RX10 yX10_checkWork yX10_checkWork) (by decide +kernel) rfl, by decide +kernel, by decide +kernel, Nat.le_of_ble_eq_true rfl⟩
abbrev m_X10_workAt : am_M := (yX10_workAt, cX10_workAt, 2, some (.object RX9), [])
def f_X10_workAt (a0 : Nat × Nat) (x1 : Int32) (h : am_H) : am_R := m_ao (some a0) 10 fun a3 => m_bV (f_X10_checkWork a3 x1 h) fun h1 => m_gR (some a0) 10 3 h1 fun o4 => m_aR o4 5 x1 h1 fun o5 => m_ra h1 o5
theorem k_X10_workAt (d : Nat) (hd : 7 ≤ d) (a0 : Nat × Nat) (x1 : Int32) (h : am_H) : am_Con m_X10_workAt d [.inr (.inr (some a0)), .inl x1] h (f_X10_workAt a0 x1 h) := am_con (by decide +kernel) (Nat.le_of_ble_eq_true rfl) (by
  unfold f_X10_workAt
  refine sim_aload_n dX10_workAt_0 rfl ?_
  refine sim_iload_n dX10_workAt_1 rfl ?_
  refine sim_ao1 (fun a3 e => ?_)
  refine sim_virt (d - 1) e dX10_workAt_2 (k_X10_checkWork (d - 1) (by omega) _ _ _) q_X10_checkWork rfl rfl wm_RX10_361 rfl rfl (by omega) (Nat.le_of_ble_eq_true rfl) am_nV (am_rV fun h1 => ?_) am_eV
  refine sim_aload_n dX10_workAt_5 rfl ?_
  refine sim_gR 10 3 dX10_workAt_6 rfl wf_RX10_21 (Nat.le_of_ble_eq_true rfl) rfl (fun o4 => ?_)
  refine sim_iload_n dX10_workAt_9 rfl ?_
  refine sim_aR 5 rfl dX10_workAt_10 (fun o5 => ?_)
  exact sim_aret dX10_workAt_11 rfl)
theorem q_X10_workAt : am_Cal m_X10_workAt 1 2 := ⟨am_mem 459 (w := Cond.code yX10_workAt cX10_workAt 2 (some (.object RX9))) (by decide +kernel) rfl, am_mem 30 (w := Cond.initialized RX10) (by decide +kernel) rfl, fun z => absurd z (by decide), fun _ => am_mem 458 (w := Cond.instanceMethod yX10_workAt) (by decide +kernel) rfl, fun z => absurd z (by decide), fun _ => am_mem 1 (w := Cond.selects RX10 yX10_workAt yX10_workAt) (by decide +kernel) rfl, by decide +kernel, by decide +kernel, Nat.le_of_ble_eq_true rfl⟩
abbrev m_X10_collect : am_M := (yX10_collect, cX10_collect, 4, none, [])
def f_X10_collect_18   (h : am_H) : am_R := m_ex h 0
theorem t_X10_collect_18 (d : Nat) (hd : 8 ≤ d)   (h : am_H) : Sim m_X10_collect d 18 [none, none, none, none] [] h (f_X10_collect_18   h) := by
  unfold f_X10_collect_18
  exact sim_throw 0 (by decide) dX10_collect_18 dX10_collect_21 dX10_collect_22 dX10_collect_24 dX10_collect_27 wx_RX10_162 wy_0 ws_RX10_164 at_RX10_166 gd_RX10_166 (by omega) (Nat.le_of_ble_eq_true rfl)
def f_X10_collect (a0 : Nat × Nat) (x1 : Int32) (x2 : Int32) (h : am_H) : am_R := m_ao (some a0) 10 fun a3 => m_bR (f_X10_workAt a3 x1 h) fun h1 o2 => if x2 < 0 then (f_X10_collect_18 h1) else (m_gI (some a0) 10 6 h1 fun v4 => if x2 < v4 then (m_gR o2 9 6 h1 fun o5 => if o5 = none then (m_gR (some a0) 10 5 h1 fun o6 => m_aR o6 6 x2 h1 fun o7 => m_pR o2 9 6 o7 h1 fun h8 => m_rt h8 none) else (m_ex h1 2)) else (f_X10_collect_18 h1))
theorem k_X10_collect (d : Nat) (hd : 8 ≤ d) (a0 : Nat × Nat) (x1 : Int32) (x2 : Int32) (h : am_H) : am_Con m_X10_collect d [.inr (.inr (some a0)), .inl x1, .inl x2] h (f_X10_collect a0 x1 x2 h) := am_con (by decide +kernel) (Nat.le_of_ble_eq_true rfl) (by
  unfold f_X10_collect
  refine sim_aload_n dX10_collect_0 rfl ?_
  refine sim_iload_n dX10_collect_1 rfl ?_
  refine sim_ao1 (fun a3 e => ?_)
  refine sim_virt (d - 1) e dX10_collect_2 (k_X10_workAt (d - 1) (by omega) _ _ _) q_X10_workAt rfl rfl wm_RX10_112 rfl rfl (by omega) (Nat.le_of_ble_eq_true rfl) am_nR (am_rR fun h1 o2 => ?_) am_eR
  refine sim_astore_n dX10_collect_5 (Nat.le_of_ble_eq_true rfl) ?_
  refine sim_iload_n dX10_collect_6 rfl ?_
  refine sim_if_lt 18 dX10_collect_7 (by decide) (fun c => ?_) (fun c => ?_)
  · exact sim_lv (am_leN (am_leN (am_leN (am_leN am_leT)))) (t_X10_collect_18 d (by omega) _)
  · refine sim_iload_n dX10_collect_10 rfl ?_
    refine sim_aload_n dX10_collect_11 rfl ?_
    refine sim_gI 10 6 dX10_collect_12 rfl wf_RX10_156 (Nat.le_of_ble_eq_true rfl) rfl (fun v4 => ?_)
    refine sim_ic_lt 28 dX10_collect_15 (by decide) (fun c => ?_) (fun c => ?_)
    · refine sim_aload_n dX10_collect_28 rfl ?_
      refine sim_gR 9 6 dX10_collect_29 rfl wf_RX10_167 (Nat.le_of_ble_eq_true rfl) rfl (fun o5 => ?_)
      refine sim_ifnull 45 dX10_collect_32 (by decide) (fun c => ?_) (fun c => ?_)
      · refine sim_aload_n dX10_collect_45 rfl ?_
        refine sim_aload_n dX10_collect_46 rfl ?_
        refine sim_gR 10 5 dX10_collect_47 rfl wf_RX10_27 (Nat.le_of_ble_eq_true rfl) rfl (fun o6 => ?_)
        refine sim_iload_n dX10_collect_50 rfl ?_
        refine sim_aR 6 rfl dX10_collect_51 (fun o7 => ?_)
        refine sim_pR 9 6 dX10_collect_52 rfl wf_RX10_167 (Nat.le_of_ble_eq_true rfl) rfl (Or.inl rfl) (fun h8 => ?_)
        exact sim_vret dX10_collect_55 rfl
      · exact sim_throw 2 (by decide) dX10_collect_35 dX10_collect_38 dX10_collect_39 dX10_collect_41 dX10_collect_44 wx_RX10_77 wy_2 ws_RX10_171 at_RX10_81 gd_RX10_81 (by omega) (Nat.le_of_ble_eq_true rfl)
    · exact sim_lv (am_leN (am_leN (am_leN (am_leN am_leT)))) (t_X10_collect_18 d (by omega) _))
theorem q_X10_collect : am_Cal m_X10_collect 2 2 := ⟨am_mem 526 (w := Cond.code yX10_collect cX10_collect 4 none) (by decide +kernel) rfl, am_mem 30 (w := Cond.initialized RX10) (by decide +kernel) rfl, fun z => absurd z (by decide), fun _ => am_mem 524 (w := Cond.instanceMethod yX10_collect) (by decide +kernel) rfl, fun z => absurd z (by decide), fun _ => am_mem 525 (w := Cond.selects RX10 yX10_collect yX10_collect) (by decide +kernel) rfl, by decide +kernel, by decide +kernel, Nat.le_of_ble_eq_true rfl⟩
abbrev m_L_collects : am_M := (yL_collects, cL_collects, 3, some .int, [])
def f_L_collects (x0 : Option (Nat × Nat)) (x1 : Int32) (x2 : Int32) (h : am_H) : am_R := m_ao x0 10 fun a3 => m_bV (f_X10_collect a3 x1 x2 h) fun h1 => m_ri h1 (0 : Int32)
theorem k_L_collects (d : Nat) (hd : 9 ≤ d) (x0 : Option (Nat × Nat)) (x1 : Int32) (x2 : Int32) (h : am_H) : am_Con m_L_collects d [.inr (.inr x0), .inl x1, .inl x2] h (f_L_collects x0 x1 x2 h) := am_con (by decide +kernel) (Nat.le_of_ble_eq_true rfl) (by
  unfold f_L_collects
  refine sim_aload_n dL_collects_0 rfl ?_
  refine sim_iload_n dL_collects_1 rfl ?_
  refine sim_iload_n dL_collects_2 rfl ?_
  refine sim_ao2 (fun a3 e => ?_)
  refine sim_virt (d - 1) e dL_collects_3 (k_X10_collect (d - 1) (by omega) _ _ _ _) q_X10_collect rfl rfl wm_RL_148 rfl rfl (by omega) (Nat.le_of_ble_eq_true rfl) am_nV (am_rV fun h1 => ?_) am_eV
  refine sim_iconst (0) dL_collects_6 (by decide +kernel) ?_
  exact sim_iret dL_collects_7 rfl)
theorem q_L_collects : am_Cal m_L_collects 3 0 := ⟨am_mem 522 (w := Cond.code yL_collects cL_collects 3 (some .int)) (by decide +kernel) rfl, am_mem 29 (w := Cond.initialized RL) (by decide +kernel) rfl, fun _ => am_mem 521 (w := Cond.static yL_collects) (by decide +kernel) rfl, fun z => absurd rfl z, fun z => absurd z (by decide), fun z => absurd z (by decide), by decide +kernel, by decide +kernel, Nat.le_of_ble_eq_true rfl⟩
abbrev m_X10_checkPerson : am_M := (yX10_checkPerson, cX10_checkPerson, 1, none, [])
def f_X10_checkPerson_10   (h : am_H) : am_R := m_ex h 0
theorem t_X10_checkPerson_10 (d : Nat) (hd : 6 ≤ d)   (h : am_H) : Sim m_X10_checkPerson d 10 [none] [] h (f_X10_checkPerson_10   h) := by
  unfold f_X10_checkPerson_10
  exact sim_throwW 0 (by decide) dX10_checkPerson_10 dX10_checkPerson_13 dX10_checkPerson_14 dX10_checkPerson_17 dX10_checkPerson_20 wx_RX10_162 wy_0 ws_RX10_378 at_RX10_166 gd_RX10_166 (by omega) (Nat.le_of_ble_eq_true rfl)
def f_X10_checkPerson (x0 : Int32) (h : am_H) : am_R := if x0 < 0 then (f_X10_checkPerson_10 h) else (if x0 < (12 : Int32) then (m_rt h none) else (f_X10_checkPerson_10 h))
theorem k_X10_checkPerson (d : Nat) (hd : 6 ≤ d) (x0 : Int32) (h : am_H) : am_Con m_X10_checkPerson d [.inl x0] h (f_X10_checkPerson x0 h) := am_con (by decide +kernel) (Nat.le_of_ble_eq_true rfl) (by
  unfold f_X10_checkPerson
  refine sim_iload_n dX10_checkPerson_0 rfl ?_
  refine sim_if_lt 10 dX10_checkPerson_1 (by decide) (fun c => ?_) (fun c => ?_)
  · exact sim_lv (am_leN am_leT) (t_X10_checkPerson_10 d (by omega) _)
  · refine sim_iload_n dX10_checkPerson_4 rfl ?_
    refine sim_bipush (12) dX10_checkPerson_5 (by decide +kernel) ?_
    refine sim_ic_lt 21 dX10_checkPerson_7 (by decide) (fun c => ?_) (fun c => ?_)
    · exact sim_vret dX10_checkPerson_21 rfl
    · exact sim_lv (am_leN am_leT) (t_X10_checkPerson_10 d (by omega) _))
theorem q_X10_checkPerson : am_Cal m_X10_checkPerson 1 0 := ⟨am_mem 244 (w := Cond.code yX10_checkPerson cX10_checkPerson 1 none) (by decide +kernel) rfl, am_mem 30 (w := Cond.initialized RX10) (by decide +kernel) rfl, fun _ => am_mem 243 (w := Cond.static yX10_checkPerson) (by decide +kernel) rfl, fun z => absurd rfl z, fun z => absurd z (by decide), fun z => absurd z (by decide), by decide +kernel, by decide +kernel, Nat.le_of_ble_eq_true rfl⟩
abbrev m_X10_has : am_M := (yX10_has, cX10_has, 2, some .boolean, [])
def f_X10_has_13  (s0 : Int32) (h : am_H) : am_R := m_rz h s0
theorem t_X10_has_13 (d : Nat) (hd : 0 ≤ d)  (s0 : Int32) (h : am_H) : Sim m_X10_has d 13 [none, none] [.inl s0] h (f_X10_has_13  s0 h) := by
  unfold f_X10_has_13
  exact sim_zret dX10_has_13 rfl
def f_X10_has (x0 : Int32) (x1 : Int32) (h : am_H) : am_R := if ((m_ushr x0 x1) &&& (1 : Int32)) = 0 then (f_X10_has_13 (0 : Int32) h) else (f_X10_has_13 (1 : Int32) h)
theorem k_X10_has (d : Nat) (hd : 0 ≤ d) (x0 : Int32) (x1 : Int32) (h : am_H) : am_Con m_X10_has d [.inl x0, .inl x1] h (f_X10_has x0 x1 h) := am_con (by decide +kernel) (Nat.le_of_ble_eq_true rfl) (by
  unfold f_X10_has
  refine sim_iload_n dX10_has_0 rfl ?_
  refine sim_iload_n dX10_has_1 rfl ?_
  refine sim_iushr dX10_has_2 ?_
  refine sim_iconst (1) dX10_has_3 (by decide +kernel) ?_
  refine sim_iand dX10_has_4 ?_
  refine sim_if_eq 12 dX10_has_5 (by decide) (fun c => ?_) (fun c => ?_)
  · refine sim_iconst (0) dX10_has_12 (by decide +kernel) ?_
    exact sim_lv (am_leN (am_leN am_leT)) (t_X10_has_13 d (by omega) _ _)
  · refine sim_iconst (1) dX10_has_8 (by decide +kernel) ?_
    refine sim_goto 13 dX10_has_9 (by decide) ?_
    exact sim_lv (am_leN (am_leN am_leT)) (t_X10_has_13 d (by omega) _ _))
theorem q_X10_has : am_Cal m_X10_has 2 0 := ⟨am_mem 437 (w := Cond.code yX10_has cX10_has 2 (some .boolean)) (by decide +kernel) rfl, am_mem 30 (w := Cond.initialized RX10) (by decide +kernel) rfl, fun _ => am_mem 436 (w := Cond.static yX10_has) (by decide +kernel) rfl, fun z => absurd rfl z, fun z => absurd z (by decide), fun z => absurd z (by decide), by decide +kernel, by decide +kernel, Nat.le_of_ble_eq_true rfl⟩
abbrev m_X10_with : am_M := (yX10_with, cX10_with, 3, some .int, [])
def f_X10_with_19  (s0 : Int32) (h : am_H) : am_R := m_ri h s0
theorem t_X10_with_19 (d : Nat) (hd : 0 ≤ d)  (s0 : Int32) (h : am_H) : Sim m_X10_with d 19 [none, none, none] [.inl s0] h (f_X10_with_19  s0 h) := by
  unfold f_X10_with_19
  exact sim_iret dX10_with_19 rfl
def f_X10_with (x0 : Int32) (x1 : Int32) (x2 : Int32) (h : am_H) : am_R := if x2 = 0 then (f_X10_with_19 (x0 &&& (((1 : Int32) <<< (x1 &&& 31)) ^^^ (-1 : Int32))) h) else (f_X10_with_19 (x0 ||| ((1 : Int32) <<< (x1 &&& 31))) h)
theorem k_X10_with (d : Nat) (hd : 0 ≤ d) (x0 : Int32) (x1 : Int32) (x2 : Int32) (h : am_H) : am_Con m_X10_with d [.inl x0, .inl x1, .inl x2] h (f_X10_with x0 x1 x2 h) := am_con (by decide +kernel) (Nat.le_of_ble_eq_true rfl) (by
  unfold f_X10_with
  refine sim_iload_n dX10_with_0 rfl ?_
  refine sim_if_eq 12 dX10_with_1 (by decide) (fun c => ?_) (fun c => ?_)
  · refine sim_iload_n dX10_with_12 rfl ?_
    refine sim_iconst (1) dX10_with_13 (by decide +kernel) ?_
    refine sim_iload_n dX10_with_14 rfl ?_
    refine sim_ishl dX10_with_15 ?_
    refine sim_iconst (-1) dX10_with_16 (by decide +kernel) ?_
    refine sim_ixor dX10_with_17 ?_
    refine sim_iand dX10_with_18 ?_
    exact sim_lv (am_leN (am_leN (am_leN am_leT))) (t_X10_with_19 d (by omega) _ _)
  · refine sim_iload_n dX10_with_4 rfl ?_
    refine sim_iconst (1) dX10_with_5 (by decide +kernel) ?_
    refine sim_iload_n dX10_with_6 rfl ?_
    refine sim_ishl dX10_with_7 ?_
    refine sim_ior dX10_with_8 ?_
    refine sim_goto 19 dX10_with_9 (by decide) ?_
    exact sim_lv (am_leN (am_leN (am_leN am_leT))) (t_X10_with_19 d (by omega) _ _))
theorem q_X10_with : am_Cal m_X10_with 3 0 := ⟨am_mem 440 (w := Cond.code yX10_with cX10_with 3 (some .int)) (by decide +kernel) rfl, am_mem 30 (w := Cond.initialized RX10) (by decide +kernel) rfl, fun _ => am_mem 439 (w := Cond.static yX10_with) (by decide +kernel) rfl, fun z => absurd rfl z, fun z => absurd z (by decide), fun z => absurd z (by decide), by decide +kernel, by decide +kernel, Nat.le_of_ble_eq_true rfl⟩
abbrev m_X10_block : am_M := (yX10_block, cX10_block, 6, some .boolean, [])
def f_X10_block (a0 : Nat × Nat) (x1 : Int32) (x2 : Int32) (x3 : Int32) (h : am_H) : am_R := m_bV (f_X10_checkPerson x1 h) fun h1 => m_bV (f_X10_checkPerson x2 h1) fun h3 => if x1 = x2 then (m_ex h3 1) else (m_gR (some a0) 10 2 h3 fun o5 => m_aR o5 4 x1 h3 fun o6 => m_gI o6 3 0 h3 fun v7 => m_bI (f_X10_has v7 x2 h3) fun h8 v9 => m_gI o6 3 0 h8 fun v10 => m_bI (f_X10_with v10 x2 x3 h8) fun h11 v12 => m_pI o6 3 0 v12 h11 fun h13 => m_rz h13 v9)
theorem k_X10_block (d : Nat) (hd : 7 ≤ d) (a0 : Nat × Nat) (x1 : Int32) (x2 : Int32) (x3 : Int32) (h : am_H) : am_Con m_X10_block d [.inr (.inr (some a0)), .inl x1, .inl x2, .inl x3] h (f_X10_block a0 x1 x2 x3 h) := am_con (by decide +kernel) (Nat.le_of_ble_eq_true rfl) (by
  unfold f_X10_block
  refine sim_iload_n dX10_block_0 rfl ?_
  refine sim_static (d - 1) dX10_block_1 (k_X10_checkPerson (d - 1) (by omega) _ _) q_X10_checkPerson wm_RX10_82 rfl rfl (by omega) (Nat.le_of_ble_eq_true rfl) am_nV (am_rV fun h1 => ?_) am_eV
  refine sim_iload_n dX10_block_4 rfl ?_
  refine sim_static (d - 1) dX10_block_5 (k_X10_checkPerson (d - 1) (by omega) _ _) q_X10_checkPerson wm_RX10_82 rfl rfl (by omega) (Nat.le_of_ble_eq_true rfl) am_nV (am_rV fun h3 => ?_) am_eV
  refine sim_iload_n dX10_block_8 rfl ?_
  refine sim_iload_n dX10_block_9 rfl ?_
  refine sim_ic_ne 23 dX10_block_10 (by decide) (fun c => ?_) (fun c => ?_)
  · refine sim_aload_n dX10_block_23 rfl ?_
    refine sim_gR 10 2 dX10_block_24 rfl wf_RX10_15 (Nat.le_of_ble_eq_true rfl) rfl (fun o5 => ?_)
    refine sim_iload_n dX10_block_27 rfl ?_
    refine sim_aR 4 rfl dX10_block_28 (fun o6 => ?_)
    refine sim_astore dX10_block_29 (Nat.le_of_ble_eq_true rfl) ?_
    refine sim_aload dX10_block_31 rfl ?_
    refine sim_gI 3 0 dX10_block_33 rfl wf_RX10_88 (Nat.le_of_ble_eq_true rfl) rfl (fun v7 => ?_)
    refine sim_iload_n dX10_block_36 rfl ?_
    refine sim_static (d - 1) dX10_block_37 (k_X10_has (d - 1) (by omega) _ _ _) q_X10_has wm_RX10_91 rfl rfl (by omega) (Nat.le_of_ble_eq_true rfl) am_nI (am_rI fun h8 v9 => ?_) am_eI
    refine sim_istore dX10_block_40 (Nat.le_of_ble_eq_true rfl) ?_
    refine sim_aload dX10_block_42 rfl ?_
    refine sim_aload dX10_block_44 rfl ?_
    refine sim_gI 3 0 dX10_block_46 rfl wf_RX10_88 (Nat.le_of_ble_eq_true rfl) rfl (fun v10 => ?_)
    refine sim_iload_n dX10_block_49 rfl ?_
    refine sim_iload_n dX10_block_50 rfl ?_
    refine sim_static (d - 1) dX10_block_51 (k_X10_with (d - 1) (by omega) _ _ _ _) q_X10_with wm_RX10_95 rfl rfl (by omega) (Nat.le_of_ble_eq_true rfl) am_nI (am_rI fun h11 v12 => ?_) am_eI
    refine sim_pI 3 0 dX10_block_54 rfl wf_RX10_88 (Nat.le_of_ble_eq_true rfl) rfl (Or.inl rfl) rfl (fun h13 => ?_)
    refine sim_iload dX10_block_57 rfl ?_
    exact sim_zret dX10_block_59 rfl
  · exact sim_throw 1 (by decide) dX10_block_13 dX10_block_16 dX10_block_17 dX10_block_19 dX10_block_22 wx_RX10_66 wy_1 ws_RX10_86 at_RX10_70 gd_RX10_70 (by omega) (Nat.le_of_ble_eq_true rfl))
theorem q_X10_block : am_Cal m_X10_block 3 2 := ⟨am_mem 433 (w := Cond.code yX10_block cX10_block 6 (some .boolean)) (by decide +kernel) rfl, am_mem 30 (w := Cond.initialized RX10) (by decide +kernel) rfl, fun z => absurd z (by decide), fun _ => am_mem 431 (w := Cond.instanceMethod yX10_block) (by decide +kernel) rfl, fun z => absurd z (by decide), fun _ => am_mem 432 (w := Cond.selects RX10 yX10_block yX10_block) (by decide +kernel) rfl, by decide +kernel, by decide +kernel, Nat.le_of_ble_eq_true rfl⟩
abbrev m_X10_chapter : am_M := (yX10_chapter, cX10_chapter, 3, some .int, [])
def f_X10_chapter (a0 : Nat × Nat) (x1 : Int32) (h : am_H) : am_R := m_ao (some a0) 10 fun a3 => m_bR (f_X10_workAt a3 x1 h) fun h1 o2 => m_gI o2 9 3 h1 fun v4 => if v4 < (8 : Int32) then (m_gR o2 9 2 h1 fun o5 => m_gI o2 9 3 h1 fun v6 => m_gI (some a0) 10 0 h1 fun v7 => m_sI o5 v6 v7 h1 fun h8 => m_gI o2 9 3 h8 fun v9 => m_pI o2 9 3 (v9 + (1 : Int32)) h8 fun h10 => m_gI o2 9 3 h10 fun v11 => m_ri h10 (v11 - (1 : Int32))) else (m_ex h1 2)
theorem k_X10_chapter (d : Nat) (hd : 8 ≤ d) (a0 : Nat × Nat) (x1 : Int32) (h : am_H) : am_Con m_X10_chapter d [.inr (.inr (some a0)), .inl x1] h (f_X10_chapter a0 x1 h) := am_con (by decide +kernel) (Nat.le_of_ble_eq_true rfl) (by
  unfold f_X10_chapter
  refine sim_aload_n dX10_chapter_0 rfl ?_
  refine sim_iload_n dX10_chapter_1 rfl ?_
  refine sim_ao1 (fun a3 e => ?_)
  refine sim_virt (d - 1) e dX10_chapter_2 (k_X10_workAt (d - 1) (by omega) _ _ _) q_X10_workAt rfl rfl wm_RX10_112 rfl rfl (by omega) (Nat.le_of_ble_eq_true rfl) am_nR (am_rR fun h1 o2 => ?_) am_eR
  refine sim_astore_n dX10_chapter_5 (Nat.le_of_ble_eq_true rfl) ?_
  refine sim_aload_n dX10_chapter_6 rfl ?_
  refine sim_gI 9 3 dX10_chapter_7 rfl wf_RX10_133 (Nat.le_of_ble_eq_true rfl) rfl (fun v4 => ?_)
  refine sim_bipush (8) dX10_chapter_10 (by decide +kernel) ?_
  refine sim_ic_lt 25 dX10_chapter_12 (by decide) (fun c => ?_) (fun c => ?_)
  · refine sim_aload_n dX10_chapter_25 rfl ?_
    refine sim_gR 9 2 dX10_chapter_26 rfl wf_RX10_138 (Nat.le_of_ble_eq_true rfl) rfl (fun o5 => ?_)
    refine sim_aload_n dX10_chapter_29 rfl ?_
    refine sim_gI 9 3 dX10_chapter_30 rfl wf_RX10_133 (Nat.le_of_ble_eq_true rfl) rfl (fun v6 => ?_)
    refine sim_aload_n dX10_chapter_33 rfl ?_
    refine sim_gI 10 0 dX10_chapter_34 rfl wf_RX10_73 (Nat.le_of_ble_eq_true rfl) rfl (fun v7 => ?_)
    refine sim_sI dX10_chapter_37 (fun h8 => ?_)
    refine sim_aload_n dX10_chapter_38 rfl ?_
    refine sim_dup_r dX10_chapter_39 ?_
    refine sim_gI 9 3 dX10_chapter_40 rfl wf_RX10_133 (Nat.le_of_ble_eq_true rfl) rfl (fun v9 => ?_)
    refine sim_iconst (1) dX10_chapter_43 (by decide +kernel) ?_
    refine sim_iadd dX10_chapter_44 ?_
    refine sim_pI 9 3 dX10_chapter_45 rfl wf_RX10_133 (Nat.le_of_ble_eq_true rfl) rfl (Or.inl rfl) rfl (fun h10 => ?_)
    refine sim_aload_n dX10_chapter_48 rfl ?_
    refine sim_gI 9 3 dX10_chapter_49 rfl wf_RX10_133 (Nat.le_of_ble_eq_true rfl) rfl (fun v11 => ?_)
    refine sim_iconst (1) dX10_chapter_52 (by decide +kernel) ?_
    refine sim_isub dX10_chapter_53 ?_
    exact sim_iret dX10_chapter_54 rfl
  · exact sim_throw 2 (by decide) dX10_chapter_15 dX10_chapter_18 dX10_chapter_19 dX10_chapter_21 dX10_chapter_24 wx_RX10_77 wy_2 ws_RX10_136 at_RX10_81 gd_RX10_81 (by omega) (Nat.le_of_ble_eq_true rfl))
theorem q_X10_chapter : am_Cal m_X10_chapter 1 2 := ⟨am_mem 485 (w := Cond.code yX10_chapter cX10_chapter 3 (some .int)) (by decide +kernel) rfl, am_mem 30 (w := Cond.initialized RX10) (by decide +kernel) rfl, fun z => absurd z (by decide), fun _ => am_mem 483 (w := Cond.instanceMethod yX10_chapter) (by decide +kernel) rfl, fun z => absurd z (by decide), fun _ => am_mem 484 (w := Cond.selects RX10 yX10_chapter yX10_chapter) (by decide +kernel) rfl, by decide +kernel, by decide +kernel, Nat.le_of_ble_eq_true rfl⟩
abbrev m_X0_init : am_M := (yX0_init, cX0_init, 3, none, [])
def f_X0_init (a0 : Nat × Nat) (x1 : Int32) (x2 : Int32) (h : am_H) : am_R := m_pI (some a0) 0 0 x1 h fun h1 => m_pI (some a0) 0 1 x2 h1 fun h2 => m_rt h2 none
theorem k_X0_init (d : Nat) (hd : 1 ≤ d) (a0 : Nat × Nat) (x1 : Int32) (x2 : Int32) (h : am_H) : am_Con m_X0_init d [.inr (.inr (some a0)), .inl x1, .inl x2] h (f_X0_init a0 x1 x2 h) := am_con (by decide +kernel) (Nat.le_of_ble_eq_true rfl) (by
  unfold f_X0_init
  refine sim_aload_n dX0_init_0 rfl ?_
  refine sim_obj dX0_init_1 wm_RX0_1 wobj_i wobj_c (by omega) (Nat.le_of_ble_eq_true rfl) ?_
  refine sim_aload_n dX0_init_4 rfl ?_
  refine sim_iload_n dX0_init_5 rfl ?_
  refine sim_pI 0 0 dX0_init_6 rfl wf_RX0_7 (Nat.le_of_ble_eq_true rfl) rfl (Or.inr ⟨rfl, rfl, rfl⟩) rfl (fun h1 => ?_)
  refine sim_aload_n dX0_init_9 rfl ?_
  refine sim_iload_n dX0_init_10 rfl ?_
  refine sim_pI 0 1 dX0_init_11 rfl wf_RX0_13 (Nat.le_of_ble_eq_true rfl) rfl (Or.inr ⟨rfl, rfl, rfl⟩) rfl (fun h2 => ?_)
  exact sim_vret dX0_init_14 rfl)
theorem q_X0_init : am_Cal m_X0_init 2 1 := ⟨am_mem 509 (w := Cond.code yX0_init cX0_init 3 none) (by decide +kernel) rfl, am_mem 46 (w := Cond.initialized RX0) (by decide +kernel) rfl, fun z => absurd z (by decide), fun _ => am_mem 508 (w := Cond.instanceMethod yX0_init) (by decide +kernel) rfl, fun _ => rfl, fun z => absurd z (by decide), by decide +kernel, by decide +kernel, Nat.le_of_ble_eq_true rfl⟩
abbrev m_X10_collection : am_M := (yX10_collection, cX10_collection, 3, some .int, [])
def f_X10_collection_23   (h : am_H) : am_R := m_ex h 1
theorem t_X10_collection_23 (d : Nat) (hd : 6 ≤ d)   (h : am_H) : Sim m_X10_collection d 23 [none, none, none] [] h (f_X10_collection_23   h) := by
  unfold f_X10_collection_23
  exact sim_throw 1 (by decide) dX10_collection_23 dX10_collection_26 dX10_collection_27 dX10_collection_29 dX10_collection_32 wx_RX10_66 wy_1 ws_RX10_154 at_RX10_70 gd_RX10_70 (by omega) (Nat.le_of_ble_eq_true rfl)
def f_X10_collection (a0 : Nat × Nat) (x1 : Int32) (x2 : Int32) (h : am_H) : am_R := if x1 < 0 then (f_X10_collection_23 h) else (if (2000 : Int32) < x1 then (f_X10_collection_23 h) else (if x2 < x1 then (f_X10_collection_23 h) else (if x2 ≤ (2000 : Int32) then (m_gI (some a0) 10 6 h fun v1 => if v1 < (6 : Int32) then (m_gR (some a0) 10 5 h fun o2 => m_gI (some a0) 10 6 h fun v3 => m_new 28 2 h fun a4 h5 => m_bW (f_X0_init a4 x1 x2 h5) fun h6 => m_sR o2 6 0 v3 (some a4) h6 fun h8 => m_gI (some a0) 10 6 h8 fun v9 => m_pI (some a0) 10 6 (v9 + (1 : Int32)) h8 fun h10 => m_gI (some a0) 10 6 h10 fun v11 => m_ri h10 (v11 - (1 : Int32))) else (m_ex h 2)) else (f_X10_collection_23 h))))
theorem k_X10_collection (d : Nat) (hd : 6 ≤ d) (a0 : Nat × Nat) (x1 : Int32) (x2 : Int32) (h : am_H) : am_Con m_X10_collection d [.inr (.inr (some a0)), .inl x1, .inl x2] h (f_X10_collection a0 x1 x2 h) := am_con (by decide +kernel) (Nat.le_of_ble_eq_true rfl) (by
  unfold f_X10_collection
  refine sim_iload_n dX10_collection_0 rfl ?_
  refine sim_if_lt 23 dX10_collection_1 (by decide) (fun c => ?_) (fun c => ?_)
  · exact sim_lv (am_leN (am_leN (am_leN am_leT))) (t_X10_collection_23 d (by omega) _)
  · refine sim_iload_n dX10_collection_4 rfl ?_
    refine sim_sipush (2000) dX10_collection_5 (by decide +kernel) ?_
    refine sim_ic_gt 23 dX10_collection_8 (by decide) (fun c => ?_) (fun c => ?_)
    · exact sim_lv (am_leN (am_leN (am_leN am_leT))) (t_X10_collection_23 d (by omega) _)
    · refine sim_iload_n dX10_collection_11 rfl ?_
      refine sim_iload_n dX10_collection_12 rfl ?_
      refine sim_ic_lt 23 dX10_collection_13 (by decide) (fun c => ?_) (fun c => ?_)
      · exact sim_lv (am_leN (am_leN (am_leN am_leT))) (t_X10_collection_23 d (by omega) _)
      · refine sim_iload_n dX10_collection_16 rfl ?_
        refine sim_sipush (2000) dX10_collection_17 (by decide +kernel) ?_
        refine sim_ic_le 33 dX10_collection_20 (by decide) (fun c => ?_) (fun c => ?_)
        · refine sim_aload_n dX10_collection_33 rfl ?_
          refine sim_gI 10 6 dX10_collection_34 rfl wf_RX10_156 (Nat.le_of_ble_eq_true rfl) rfl (fun v1 => ?_)
          refine sim_bipush (6) dX10_collection_37 (by decide +kernel) ?_
          refine sim_ic_lt 52 dX10_collection_39 (by decide) (fun c => ?_) (fun c => ?_)
          · refine sim_aload_n dX10_collection_52 rfl ?_
            refine sim_gR 10 5 dX10_collection_53 rfl wf_RX10_27 (Nat.le_of_ble_eq_true rfl) rfl (fun o2 => ?_)
            refine sim_aload_n dX10_collection_56 rfl ?_
            refine sim_gI 10 6 dX10_collection_57 rfl wf_RX10_156 (Nat.le_of_ble_eq_true rfl) rfl (fun v3 => ?_)
            refine sim_nw 28 0 2 dX10_collection_60 rfl rfl wc_RX10_25 wi_RX0 wz_RX0 (fun a4 h5 => ?_)
            refine sim_dup_r dX10_collection_63 ?_
            refine sim_iload_n dX10_collection_64 rfl ?_
            refine sim_iload_n dX10_collection_65 rfl ?_
            refine sim_ctor (d - 1) dX10_collection_66 (k_X0_init (d - 1) (by omega) _ _ _ _) q_X0_init wm_RX10_161 rfl rfl (by omega) (Nat.le_of_ble_eq_true rfl) am_nW am_xW (am_rW fun h6 => ?_)
            refine sim_sR 6 rfl dX10_collection_69 (fun h8 => ?_)
            refine sim_aload_n dX10_collection_70 rfl ?_
            refine sim_dup_r dX10_collection_71 ?_
            refine sim_gI 10 6 dX10_collection_72 rfl wf_RX10_156 (Nat.le_of_ble_eq_true rfl) rfl (fun v9 => ?_)
            refine sim_iconst (1) dX10_collection_75 (by decide +kernel) ?_
            refine sim_iadd dX10_collection_76 ?_
            refine sim_pI 10 6 dX10_collection_77 rfl wf_RX10_156 (Nat.le_of_ble_eq_true rfl) rfl (Or.inl rfl) rfl (fun h10 => ?_)
            refine sim_aload_n dX10_collection_80 rfl ?_
            refine sim_gI 10 6 dX10_collection_81 rfl wf_RX10_156 (Nat.le_of_ble_eq_true rfl) rfl (fun v11 => ?_)
            refine sim_iconst (1) dX10_collection_84 (by decide +kernel) ?_
            refine sim_isub dX10_collection_85 ?_
            exact sim_iret dX10_collection_86 rfl
          · exact sim_throw 2 (by decide) dX10_collection_42 dX10_collection_45 dX10_collection_46 dX10_collection_48 dX10_collection_51 wx_RX10_77 wy_2 ws_RX10_159 at_RX10_81 gd_RX10_81 (by omega) (Nat.le_of_ble_eq_true rfl)
        · exact sim_lv (am_leN (am_leN (am_leN am_leT))) (t_X10_collection_23 d (by omega) _))
theorem q_X10_collection : am_Cal m_X10_collection 2 2 := ⟨am_mem 503 (w := Cond.code yX10_collection cX10_collection 3 (some .int)) (by decide +kernel) rfl, am_mem 30 (w := Cond.initialized RX10) (by decide +kernel) rfl, fun z => absurd z (by decide), fun _ => am_mem 501 (w := Cond.instanceMethod yX10_collection) (by decide +kernel) rfl, fun z => absurd z (by decide), fun _ => am_mem 502 (w := Cond.selects RX10 yX10_collection yX10_collection) (by decide +kernel) rfl, by decide +kernel, by decide +kernel, Nat.le_of_ble_eq_true rfl⟩
abbrev m_J6_bitCount_0f7a4 : am_M := (yJ6_bitCount_0f7a4, cJ6_bitCount_0f7a4, 1, some .int, [])
def f_J6_bitCount_0f7a4 (x0 : Int32) (h : am_H) : am_R := m_ri h ((((((((x0 - ((m_ushr x0 (1 : Int32)) &&& (1431655765 : Int32))) &&& (858993459 : Int32)) + ((m_ushr (x0 - ((m_ushr x0 (1 : Int32)) &&& (1431655765 : Int32))) (2 : Int32)) &&& (858993459 : Int32))) + (m_ushr (((x0 - ((m_ushr x0 (1 : Int32)) &&& (1431655765 : Int32))) &&& (858993459 : Int32)) + ((m_ushr (x0 - ((m_ushr x0 (1 : Int32)) &&& (1431655765 : Int32))) (2 : Int32)) &&& (858993459 : Int32))) (4 : Int32))) &&& (252645135 : Int32)) + (m_ushr (((((x0 - ((m_ushr x0 (1 : Int32)) &&& (1431655765 : Int32))) &&& (858993459 : Int32)) + ((m_ushr (x0 - ((m_ushr x0 (1 : Int32)) &&& (1431655765 : Int32))) (2 : Int32)) &&& (858993459 : Int32))) + (m_ushr (((x0 - ((m_ushr x0 (1 : Int32)) &&& (1431655765 : Int32))) &&& (858993459 : Int32)) + ((m_ushr (x0 - ((m_ushr x0 (1 : Int32)) &&& (1431655765 : Int32))) (2 : Int32)) &&& (858993459 : Int32))) (4 : Int32))) &&& (252645135 : Int32)) (8 : Int32))) + (m_ushr ((((((x0 - ((m_ushr x0 (1 : Int32)) &&& (1431655765 : Int32))) &&& (858993459 : Int32)) + ((m_ushr (x0 - ((m_ushr x0 (1 : Int32)) &&& (1431655765 : Int32))) (2 : Int32)) &&& (858993459 : Int32))) + (m_ushr (((x0 - ((m_ushr x0 (1 : Int32)) &&& (1431655765 : Int32))) &&& (858993459 : Int32)) + ((m_ushr (x0 - ((m_ushr x0 (1 : Int32)) &&& (1431655765 : Int32))) (2 : Int32)) &&& (858993459 : Int32))) (4 : Int32))) &&& (252645135 : Int32)) + (m_ushr (((((x0 - ((m_ushr x0 (1 : Int32)) &&& (1431655765 : Int32))) &&& (858993459 : Int32)) + ((m_ushr (x0 - ((m_ushr x0 (1 : Int32)) &&& (1431655765 : Int32))) (2 : Int32)) &&& (858993459 : Int32))) + (m_ushr (((x0 - ((m_ushr x0 (1 : Int32)) &&& (1431655765 : Int32))) &&& (858993459 : Int32)) + ((m_ushr (x0 - ((m_ushr x0 (1 : Int32)) &&& (1431655765 : Int32))) (2 : Int32)) &&& (858993459 : Int32))) (4 : Int32))) &&& (252645135 : Int32)) (8 : Int32))) (16 : Int32))) &&& (63 : Int32))
theorem k_J6_bitCount_0f7a4 (d : Nat) (hd : 0 ≤ d) (x0 : Int32) (h : am_H) : am_Con m_J6_bitCount_0f7a4 d [.inl x0] h (f_J6_bitCount_0f7a4 x0 h) := am_con (by decide +kernel) (Nat.le_of_ble_eq_true rfl) (by
  unfold f_J6_bitCount_0f7a4
  refine sim_iload_n dJ6_bitCount_0f7a4_0 rfl ?_
  refine sim_iload_n dJ6_bitCount_0f7a4_1 rfl ?_
  refine sim_iconst (1) dJ6_bitCount_0f7a4_2 (by decide +kernel) ?_
  refine sim_iushr dJ6_bitCount_0f7a4_3 ?_
  refine sim_ldcw (1431655765) dJ6_bitCount_0f7a4_4 wk_RJ6_265 ?_
  refine sim_iand dJ6_bitCount_0f7a4_7 ?_
  refine sim_isub dJ6_bitCount_0f7a4_8 ?_
  refine sim_istore_n dJ6_bitCount_0f7a4_9 (Nat.le_of_ble_eq_true rfl) ?_
  refine sim_iload_n dJ6_bitCount_0f7a4_10 rfl ?_
  refine sim_ldcw (858993459) dJ6_bitCount_0f7a4_11 wk_RJ6_266 ?_
  refine sim_iand dJ6_bitCount_0f7a4_14 ?_
  refine sim_iload_n dJ6_bitCount_0f7a4_15 rfl ?_
  refine sim_iconst (2) dJ6_bitCount_0f7a4_16 (by decide +kernel) ?_
  refine sim_iushr dJ6_bitCount_0f7a4_17 ?_
  refine sim_ldcw (858993459) dJ6_bitCount_0f7a4_18 wk_RJ6_266 ?_
  refine sim_iand dJ6_bitCount_0f7a4_21 ?_
  refine sim_iadd dJ6_bitCount_0f7a4_22 ?_
  refine sim_istore_n dJ6_bitCount_0f7a4_23 (Nat.le_of_ble_eq_true rfl) ?_
  refine sim_iload_n dJ6_bitCount_0f7a4_24 rfl ?_
  refine sim_iload_n dJ6_bitCount_0f7a4_25 rfl ?_
  refine sim_iconst (4) dJ6_bitCount_0f7a4_26 (by decide +kernel) ?_
  refine sim_iushr dJ6_bitCount_0f7a4_27 ?_
  refine sim_iadd dJ6_bitCount_0f7a4_28 ?_
  refine sim_ldcw (252645135) dJ6_bitCount_0f7a4_29 wk_RJ6_267 ?_
  refine sim_iand dJ6_bitCount_0f7a4_32 ?_
  refine sim_istore_n dJ6_bitCount_0f7a4_33 (Nat.le_of_ble_eq_true rfl) ?_
  refine sim_iload_n dJ6_bitCount_0f7a4_34 rfl ?_
  refine sim_iload_n dJ6_bitCount_0f7a4_35 rfl ?_
  refine sim_bipush (8) dJ6_bitCount_0f7a4_36 (by decide +kernel) ?_
  refine sim_iushr dJ6_bitCount_0f7a4_38 ?_
  refine sim_iadd dJ6_bitCount_0f7a4_39 ?_
  refine sim_istore_n dJ6_bitCount_0f7a4_40 (Nat.le_of_ble_eq_true rfl) ?_
  refine sim_iload_n dJ6_bitCount_0f7a4_41 rfl ?_
  refine sim_iload_n dJ6_bitCount_0f7a4_42 rfl ?_
  refine sim_bipush (16) dJ6_bitCount_0f7a4_43 (by decide +kernel) ?_
  refine sim_iushr dJ6_bitCount_0f7a4_45 ?_
  refine sim_iadd dJ6_bitCount_0f7a4_46 ?_
  refine sim_istore_n dJ6_bitCount_0f7a4_47 (Nat.le_of_ble_eq_true rfl) ?_
  refine sim_iload_n dJ6_bitCount_0f7a4_48 rfl ?_
  refine sim_bipush (63) dJ6_bitCount_0f7a4_49 (by decide +kernel) ?_
  refine sim_iand dJ6_bitCount_0f7a4_51 ?_
  exact sim_iret dJ6_bitCount_0f7a4_52 rfl)
theorem q_J6_bitCount_0f7a4 : am_Cal m_J6_bitCount_0f7a4 1 0 := ⟨am_mem 467 (w := Cond.code yJ6_bitCount_0f7a4 cJ6_bitCount_0f7a4 1 (some .int)) (by decide +kernel) rfl, am_mem 45 (w := Cond.initialized RJ6) (by decide +kernel) rfl, fun _ => am_mem 466 (w := Cond.static yJ6_bitCount_0f7a4) (by decide +kernel) rfl, fun z => absurd rfl z, fun z => absurd z (by decide), fun z => absurd z (by decide), by decide +kernel, by decide +kernel, Nat.le_of_ble_eq_true rfl⟩
abbrev m_X9_isOwnedBy : am_M := (yX9_isOwnedBy, cX9_isOwnedBy, 2, some .boolean, [])
def f_X9_isOwnedBy (a0 : Nat × Nat) (x1 : Int32) (h : am_H) : am_R := m_gI (some a0) 9 1 h fun v1 => m_bJ (f_X10_has v1 x1 h) fun h2 v3 => m_rz h2 v3
theorem k_X9_isOwnedBy (d : Nat) (hd : 1 ≤ d) (a0 : Nat × Nat) (x1 : Int32) (h : am_H) : am_Con m_X9_isOwnedBy d [.inr (.inr (some a0)), .inl x1] h (f_X9_isOwnedBy a0 x1 h) := am_con (by decide +kernel) (Nat.le_of_ble_eq_true rfl) (by
  unfold f_X9_isOwnedBy
  refine sim_aload_n dX9_isOwnedBy_0 rfl ?_
  refine sim_gI 9 1 dX9_isOwnedBy_1 rfl wf_RX9_19 (Nat.le_of_ble_eq_true rfl) rfl (fun v1 => ?_)
  refine sim_iload_n dX9_isOwnedBy_4 rfl ?_
  refine sim_staticN (d - 1) dX9_isOwnedBy_5 (k_X10_has (d - 1) (by omega) _ _ _) q_X10_has wn_RX9_25 rfl rfl (by omega) (Nat.le_of_ble_eq_true rfl) am_nJ am_xJ (am_rJ fun h2 v3 => ?_)
  exact sim_zret dX9_isOwnedBy_8 rfl)
theorem q_X9_isOwnedBy : am_Cal m_X9_isOwnedBy 1 2 := ⟨am_mem 474 (w := Cond.code yX9_isOwnedBy cX9_isOwnedBy 2 (some .boolean)) (by decide +kernel) rfl, am_mem 44 (w := Cond.initialized RX9) (by decide +kernel) rfl, fun z => absurd z (by decide), fun _ => am_mem 472 (w := Cond.instanceMethod yX9_isOwnedBy) (by decide +kernel) rfl, fun z => absurd z (by decide), fun _ => am_mem 473 (w := Cond.selects RX9 yX9_isOwnedBy yX9_isOwnedBy) (by decide +kernel) rfl, by decide +kernel, by decide +kernel, Nat.le_of_ble_eq_true rfl⟩
abbrev m_X10_join : am_M := (yX10_join, cX10_join, 5, some .int, [])
def f_X10_join_38   (h : am_H) : am_R := m_ex h 2
theorem t_X10_join_38 (d : Nat) (hd : 8 ≤ d)   (h : am_H) : Sim m_X10_join d 38 [none, none, none, none, none] [] h (f_X10_join_38   h) := by
  unfold f_X10_join_38
  exact sim_throw 2 (by decide) dX10_join_38 dX10_join_41 dX10_join_42 dX10_join_44 dX10_join_47 wx_RX10_77 wy_2 ws_RX10_129 at_RX10_81 gd_RX10_81 (by omega) (Nat.le_of_ble_eq_true rfl)
def f_X10_join (a0 : Nat × Nat) (x1 : Int32) (x2 : Int32) (h : am_H) : am_R := m_ao (some a0) 10 fun a3 => m_bR (f_X10_workAt a3 x1 h) fun h1 o2 => m_bV (f_X10_checkPerson x2 h1) fun h4 => m_gI o2 9 1 h4 fun v6 => m_bI (f_J6_bitCount_0f7a4 v6 h4) fun h7 v8 => m_ao o2 9 fun a11 => m_bI (f_X9_isOwnedBy a11 x2 h7) fun h9 v10 => if v10 = 0 then (if (3 : Int32) ≤ v8 then (f_X10_join_38 h9) else (if v8 = 0 then (f_X10_join_38 h9) else (m_gI o2 9 1 h9 fun v12 => m_bI (f_X10_with v12 x2 (1 : Int32) h9) fun h13 v14 => m_pI o2 9 1 v14 h13 fun h15 => m_ri h15 (v8 + (1 : Int32))))) else (f_X10_join_38 h9)
theorem k_X10_join (d : Nat) (hd : 8 ≤ d) (a0 : Nat × Nat) (x1 : Int32) (x2 : Int32) (h : am_H) : am_Con m_X10_join d [.inr (.inr (some a0)), .inl x1, .inl x2] h (f_X10_join a0 x1 x2 h) := am_con (by decide +kernel) (Nat.le_of_ble_eq_true rfl) (by
  unfold f_X10_join
  refine sim_aload_n dX10_join_0 rfl ?_
  refine sim_iload_n dX10_join_1 rfl ?_
  refine sim_ao1 (fun a3 e => ?_)
  refine sim_virt (d - 1) e dX10_join_2 (k_X10_workAt (d - 1) (by omega) _ _ _) q_X10_workAt rfl rfl wm_RX10_112 rfl rfl (by omega) (Nat.le_of_ble_eq_true rfl) am_nR (am_rR fun h1 o2 => ?_) am_eR
  refine sim_astore_n dX10_join_5 (Nat.le_of_ble_eq_true rfl) ?_
  refine sim_iload_n dX10_join_6 rfl ?_
  refine sim_static (d - 1) dX10_join_7 (k_X10_checkPerson (d - 1) (by omega) _ _) q_X10_checkPerson wm_RX10_82 rfl rfl (by omega) (Nat.le_of_ble_eq_true rfl) am_nV (am_rV fun h4 => ?_) am_eV
  refine sim_aload_n dX10_join_10 rfl ?_
  refine sim_gI 9 1 dX10_join_11 rfl wf_RX10_116 (Nat.le_of_ble_eq_true rfl) rfl (fun v6 => ?_)
  refine sim_static (d - 1) dX10_join_14 (k_J6_bitCount_0f7a4 (d - 1) (by omega) _ _) q_J6_bitCount_0f7a4 wm_RX10_119 rfl rfl (by omega) (Nat.le_of_ble_eq_true rfl) am_nI (am_rI fun h7 v8 => ?_) am_eI
  refine sim_istore dX10_join_17 (Nat.le_of_ble_eq_true rfl) ?_
  refine sim_aload_n dX10_join_19 rfl ?_
  refine sim_iload_n dX10_join_20 rfl ?_
  refine sim_ao1 (fun a11 e => ?_)
  refine sim_virt (d - 1) e dX10_join_21 (k_X9_isOwnedBy (d - 1) (by omega) _ _ _) q_X9_isOwnedBy rfl rfl wm_RX10_125 rfl rfl (by omega) (Nat.le_of_ble_eq_true rfl) am_nI (am_rI fun h9 v10 => ?_) am_eI
  refine sim_if_ne 38 dX10_join_24 (by decide) (fun c => ?_) (fun c => ?_)
  · exact sim_lv (am_leN (am_leN (am_leN (am_leN (am_leN am_leT))))) (t_X10_join_38 d (by omega) _)
  · refine sim_iload dX10_join_27 rfl ?_
    refine sim_iconst (3) dX10_join_29 (by decide +kernel) ?_
    refine sim_ic_ge 38 dX10_join_30 (by decide) (fun c => ?_) (fun c => ?_)
    · exact sim_lv (am_leN (am_leN (am_leN (am_leN (am_leN am_leT))))) (t_X10_join_38 d (by omega) _)
    · refine sim_iload dX10_join_33 rfl ?_
      refine sim_if_ne 48 dX10_join_35 (by decide) (fun c => ?_) (fun c => ?_)
      · refine sim_aload_n dX10_join_48 rfl ?_
        refine sim_aload_n dX10_join_49 rfl ?_
        refine sim_gI 9 1 dX10_join_50 rfl wf_RX10_116 (Nat.le_of_ble_eq_true rfl) rfl (fun v12 => ?_)
        refine sim_iload_n dX10_join_53 rfl ?_
        refine sim_iconst (1) dX10_join_54 (by decide +kernel) ?_
        refine sim_static (d - 1) dX10_join_55 (k_X10_with (d - 1) (by omega) _ _ _ _) q_X10_with wm_RX10_95 rfl rfl (by omega) (Nat.le_of_ble_eq_true rfl) am_nI (am_rI fun h13 v14 => ?_) am_eI
        refine sim_pI 9 1 dX10_join_58 rfl wf_RX10_116 (Nat.le_of_ble_eq_true rfl) rfl (Or.inl rfl) rfl (fun h15 => ?_)
        refine sim_iload dX10_join_61 rfl ?_
        refine sim_iconst (1) dX10_join_63 (by decide +kernel) ?_
        refine sim_iadd dX10_join_64 ?_
        exact sim_iret dX10_join_65 rfl
      · exact sim_lv (am_leN (am_leN (am_leN (am_leN (am_leN am_leT))))) (t_X10_join_38 d (by omega) _))
theorem q_X10_join : am_Cal m_X10_join 2 2 := ⟨am_mem 455 (w := Cond.code yX10_join cX10_join 5 (some .int)) (by decide +kernel) rfl, am_mem 30 (w := Cond.initialized RX10) (by decide +kernel) rfl, fun z => absurd z (by decide), fun _ => am_mem 453 (w := Cond.instanceMethod yX10_join) (by decide +kernel) rfl, fun z => absurd z (by decide), fun _ => am_mem 454 (w := Cond.selects RX10 yX10_join yX10_join) (by decide +kernel) rfl, by decide +kernel, by decide +kernel, Nat.le_of_ble_eq_true rfl⟩
abbrev m_X10_leave : am_M := (yX10_leave, cX10_leave, 4, some .int, [])
def f_X10_leave (a0 : Nat × Nat) (x1 : Int32) (x2 : Int32) (h : am_H) : am_R := m_ao (some a0) 10 fun a3 => m_bR (f_X10_workAt a3 x1 h) fun h1 o2 => m_bV (f_X10_checkPerson x2 h1) fun h4 => m_ao o2 9 fun a8 => m_bI (f_X9_isOwnedBy a8 x2 h4) fun h6 v7 => if v7 = 0 then (m_ex h6 2) else (m_gI o2 9 1 h6 fun v9 => m_bI (f_X10_with v9 x2 (0 : Int32) h6) fun h10 v11 => m_pI o2 9 1 v11 h10 fun h12 => m_gI o2 9 1 h12 fun v13 => m_bI (f_J6_bitCount_0f7a4 v13 h12) fun h14 v15 => m_ri h14 v15)
theorem k_X10_leave (d : Nat) (hd : 8 ≤ d) (a0 : Nat × Nat) (x1 : Int32) (x2 : Int32) (h : am_H) : am_Con m_X10_leave d [.inr (.inr (some a0)), .inl x1, .inl x2] h (f_X10_leave a0 x1 x2 h) := am_con (by decide +kernel) (Nat.le_of_ble_eq_true rfl) (by
  unfold f_X10_leave
  refine sim_aload_n dX10_leave_0 rfl ?_
  refine sim_iload_n dX10_leave_1 rfl ?_
  refine sim_ao1 (fun a3 e => ?_)
  refine sim_virt (d - 1) e dX10_leave_2 (k_X10_workAt (d - 1) (by omega) _ _ _) q_X10_workAt rfl rfl wm_RX10_112 rfl rfl (by omega) (Nat.le_of_ble_eq_true rfl) am_nR (am_rR fun h1 o2 => ?_) am_eR
  refine sim_astore_n dX10_leave_5 (Nat.le_of_ble_eq_true rfl) ?_
  refine sim_iload_n dX10_leave_6 rfl ?_
  refine sim_static (d - 1) dX10_leave_7 (k_X10_checkPerson (d - 1) (by omega) _ _) q_X10_checkPerson wm_RX10_82 rfl rfl (by omega) (Nat.le_of_ble_eq_true rfl) am_nV (am_rV fun h4 => ?_) am_eV
  refine sim_aload_n dX10_leave_10 rfl ?_
  refine sim_iload_n dX10_leave_11 rfl ?_
  refine sim_ao1 (fun a8 e => ?_)
  refine sim_virt (d - 1) e dX10_leave_12 (k_X9_isOwnedBy (d - 1) (by omega) _ _ _) q_X9_isOwnedBy rfl rfl wm_RX10_125 rfl rfl (by omega) (Nat.le_of_ble_eq_true rfl) am_nI (am_rI fun h6 v7 => ?_) am_eI
  refine sim_if_ne 28 dX10_leave_15 (by decide) (fun c => ?_) (fun c => ?_)
  · refine sim_aload_n dX10_leave_28 rfl ?_
    refine sim_aload_n dX10_leave_29 rfl ?_
    refine sim_gI 9 1 dX10_leave_30 rfl wf_RX10_116 (Nat.le_of_ble_eq_true rfl) rfl (fun v9 => ?_)
    refine sim_iload_n dX10_leave_33 rfl ?_
    refine sim_iconst (0) dX10_leave_34 (by decide +kernel) ?_
    refine sim_static (d - 1) dX10_leave_35 (k_X10_with (d - 1) (by omega) _ _ _ _) q_X10_with wm_RX10_95 rfl rfl (by omega) (Nat.le_of_ble_eq_true rfl) am_nI (am_rI fun h10 v11 => ?_) am_eI
    refine sim_pI 9 1 dX10_leave_38 rfl wf_RX10_116 (Nat.le_of_ble_eq_true rfl) rfl (Or.inl rfl) rfl (fun h12 => ?_)
    refine sim_aload_n dX10_leave_41 rfl ?_
    refine sim_gI 9 1 dX10_leave_42 rfl wf_RX10_116 (Nat.le_of_ble_eq_true rfl) rfl (fun v13 => ?_)
    refine sim_static (d - 1) dX10_leave_45 (k_J6_bitCount_0f7a4 (d - 1) (by omega) _ _) q_J6_bitCount_0f7a4 wm_RX10_119 rfl rfl (by omega) (Nat.le_of_ble_eq_true rfl) am_nI (am_rI fun h14 v15 => ?_) am_eI
    exact sim_iret dX10_leave_48 rfl
  · exact sim_throw 2 (by decide) dX10_leave_18 dX10_leave_21 dX10_leave_22 dX10_leave_24 dX10_leave_27 wx_RX10_77 wy_2 ws_RX10_131 at_RX10_81 gd_RX10_81 (by omega) (Nat.le_of_ble_eq_true rfl))
theorem q_X10_leave : am_Cal m_X10_leave 2 2 := ⟨am_mem 480 (w := Cond.code yX10_leave cX10_leave 4 (some .int)) (by decide +kernel) rfl, am_mem 30 (w := Cond.initialized RX10) (by decide +kernel) rfl, fun z => absurd z (by decide), fun _ => am_mem 478 (w := Cond.instanceMethod yX10_leave) (by decide +kernel) rfl, fun z => absurd z (by decide), fun _ => am_mem 479 (w := Cond.selects RX10 yX10_leave yX10_leave) (by decide +kernel) rfl, by decide +kernel, by decide +kernel, Nat.le_of_ble_eq_true rfl⟩
abbrev m_X10_lock : am_M := (yX10_lock, cX10_lock, 5, some .boolean, [])
def f_X10_lock (a0 : Nat × Nat) (x1 : Int32) (x2 : Int32) (h : am_H) : am_R := m_ao (some a0) 10 fun a3 => m_bR (f_X10_workAt a3 x1 h) fun h1 o2 => m_gI o2 9 5 h1 fun v4 => m_pZ o2 9 5 x2 h1 fun h5 => m_rz h5 v4
theorem k_X10_lock (d : Nat) (hd : 8 ≤ d) (a0 : Nat × Nat) (x1 : Int32) (x2 : Int32) (h : am_H) : am_Con m_X10_lock d [.inr (.inr (some a0)), .inl x1, .inl x2] h (f_X10_lock a0 x1 x2 h) := am_con (by decide +kernel) (Nat.le_of_ble_eq_true rfl) (by
  unfold f_X10_lock
  refine sim_aload_n dX10_lock_0 rfl ?_
  refine sim_iload_n dX10_lock_1 rfl ?_
  refine sim_ao1 (fun a3 e => ?_)
  refine sim_virt (d - 1) e dX10_lock_2 (k_X10_workAt (d - 1) (by omega) _ _ _) q_X10_workAt rfl rfl wm_RX10_112 rfl rfl (by omega) (Nat.le_of_ble_eq_true rfl) am_nR (am_rR fun h1 o2 => ?_) am_eR
  refine sim_astore_n dX10_lock_5 (Nat.le_of_ble_eq_true rfl) ?_
  refine sim_aload_n dX10_lock_6 rfl ?_
  refine sim_gI 9 5 dX10_lock_7 rfl wf_RX10_150 (Nat.le_of_ble_eq_true rfl) rfl (fun v4 => ?_)
  refine sim_istore dX10_lock_10 (Nat.le_of_ble_eq_true rfl) ?_
  refine sim_aload_n dX10_lock_12 rfl ?_
  refine sim_iload_n dX10_lock_13 rfl ?_
  refine sim_pZ 9 5 dX10_lock_14 rfl wf_RX10_150 (Nat.le_of_ble_eq_true rfl) rfl (Or.inl rfl) rfl (fun h5 => ?_)
  refine sim_iload dX10_lock_17 rfl ?_
  exact sim_zret dX10_lock_19 rfl)
theorem q_X10_lock : am_Cal m_X10_lock 2 2 := ⟨am_mem 499 (w := Cond.code yX10_lock cX10_lock 5 (some .boolean)) (by decide +kernel) rfl, am_mem 30 (w := Cond.initialized RX10) (by decide +kernel) rfl, fun z => absurd z (by decide), fun _ => am_mem 497 (w := Cond.instanceMethod yX10_lock) (by decide +kernel) rfl, fun z => absurd z (by decide), fun _ => am_mem 498 (w := Cond.selects RX10 yX10_lock yX10_lock) (by decide +kernel) rfl, by decide +kernel, by decide +kernel, Nat.le_of_ble_eq_true rfl⟩
abbrev m_X10_checkTag : am_M := (yX10_checkTag, cX10_checkTag, 2, none, [])
def f_X10_checkTag_15   (h : am_H) : am_R := m_ex h 0
theorem t_X10_checkTag_15 (d : Nat) (hd : 6 ≤ d)   (h : am_H) : Sim m_X10_checkTag d 15 [none, none] [] h (f_X10_checkTag_15   h) := by
  unfold f_X10_checkTag_15
  exact sim_throwW 0 (by decide) dX10_checkTag_15 dX10_checkTag_18 dX10_checkTag_19 dX10_checkTag_22 dX10_checkTag_25 wx_RX10_162 wy_0 ws_RX10_380 at_RX10_166 gd_RX10_166 (by omega) (Nat.le_of_ble_eq_true rfl)
def f_X10_checkTag (a0 : Nat × Nat) (x1 : Int32) (h : am_H) : am_R := if x1 < 0 then (f_X10_checkTag_15 h) else (m_gR (some a0) 10 7 h fun o1 => m_gI o1 7 0 h fun v2 => if x1 < v2 then (m_rt h none) else (f_X10_checkTag_15 h))
theorem k_X10_checkTag (d : Nat) (hd : 6 ≤ d) (a0 : Nat × Nat) (x1 : Int32) (h : am_H) : am_Con m_X10_checkTag d [.inr (.inr (some a0)), .inl x1] h (f_X10_checkTag a0 x1 h) := am_con (by decide +kernel) (Nat.le_of_ble_eq_true rfl) (by
  unfold f_X10_checkTag
  refine sim_iload_n dX10_checkTag_0 rfl ?_
  refine sim_if_lt 15 dX10_checkTag_1 (by decide) (fun c => ?_) (fun c => ?_)
  · exact sim_lv (am_leN (am_leN am_leT)) (t_X10_checkTag_15 d (by omega) _)
  · refine sim_iload_n dX10_checkTag_4 rfl ?_
    refine sim_aload_n dX10_checkTag_5 rfl ?_
    refine sim_gR 10 7 dX10_checkTag_6 rfl wf_RX10_34 (Nat.le_of_ble_eq_true rfl) rfl (fun o1 => ?_)
    refine sim_gI 7 0 dX10_checkTag_9 rfl wf_RX10_180 (Nat.le_of_ble_eq_true rfl) rfl (fun v2 => ?_)
    refine sim_ic_lt 26 dX10_checkTag_12 (by decide) (fun c => ?_) (fun c => ?_)
    · exact sim_vret dX10_checkTag_26 rfl
    · exact sim_lv (am_leN (am_leN am_leT)) (t_X10_checkTag_15 d (by omega) _))
theorem q_X10_checkTag : am_Cal m_X10_checkTag 1 2 := ⟨am_mem 555 (w := Cond.code yX10_checkTag cX10_checkTag 2 none) (by decide +kernel) rfl, am_mem 30 (w := Cond.initialized RX10) (by decide +kernel) rfl, fun z => absurd z (by decide), fun _ => am_mem 554 (w := Cond.instanceMethod yX10_checkTag) (by decide +kernel) rfl, fun z => absurd z (by decide), fun _ => am_mem 3 (w := Cond.selects RX10 yX10_checkTag yX10_checkTag) (by decide +kernel) rfl, by decide +kernel, by decide +kernel, Nat.le_of_ble_eq_true rfl⟩
abbrev m_X10_letTaggedWorksWait : am_M := (yX10_letTaggedWorksWait, cX10_letTaggedWorksWait, 3, none, [])
def f_X10_letTaggedWorksWait_37 (rc2 : Nat × Nat → Int32 → am_H → am_R) (a0 : Nat × Nat) (x1 : Int32) (s0 : Int32) (s1 : Option (Nat × Nat)) (h : am_H) : am_R := m_pZ s1 9 9 s0 h fun h6 => rc2 a0 (x1 + 1) h6
theorem t_X10_letTaggedWorksWait_37 (d : Nat) (hd : 0 ≤ d) (rc2 : Nat × Nat → Int32 → am_H → am_R) (hrc2 : ∀ a0 x1 h, Sim m_X10_letTaggedWorksWait d 2 [some (.inr (.inr (some a0))), some (.inl x1), none] [] h (rc2 a0 x1 h)) (a0 : Nat × Nat) (x1 : Int32) (s0 : Int32) (s1 : Option (Nat × Nat)) (h : am_H) : Sim m_X10_letTaggedWorksWait d 37 [some (.inr (.inr (some a0))), some (.inl x1), none] [.inl s0, .inr (.inr s1)] h (f_X10_letTaggedWorksWait_37 rc2 a0 x1 s0 s1 h) := by
  unfold f_X10_letTaggedWorksWait_37
  refine sim_pZ 9 9 dX10_letTaggedWorksWait_37 rfl wf_RX10_244 (Nat.le_of_ble_eq_true rfl) rfl (Or.inl rfl) rfl (fun h6 => ?_)
  refine sim_iinc (1) dX10_letTaggedWorksWait_40 rfl (by decide +kernel) (Nat.le_of_ble_eq_true rfl) ?_
  refine sim_goto 2 dX10_letTaggedWorksWait_43 (by decide) ?_
  exact sim_lv (am_leS (am_leS (am_leN am_leT))) (hrc2 _ _ _)
def f_X10_letTaggedWorksWait_32 (rc2 : Nat × Nat → Int32 → am_H → am_R) (a0 : Nat × Nat) (x1 : Int32) (s0 : Option (Nat × Nat)) (h : am_H) : am_R := f_X10_letTaggedWorksWait_37 rc2 a0 x1 (1 : Int32) s0 h
theorem t_X10_letTaggedWorksWait_32 (d : Nat) (hd : 0 ≤ d) (rc2 : Nat × Nat → Int32 → am_H → am_R) (hrc2 : ∀ a0 x1 h, Sim m_X10_letTaggedWorksWait d 2 [some (.inr (.inr (some a0))), some (.inl x1), none] [] h (rc2 a0 x1 h)) (a0 : Nat × Nat) (x1 : Int32) (s0 : Option (Nat × Nat)) (h : am_H) : Sim m_X10_letTaggedWorksWait d 32 [some (.inr (.inr (some a0))), some (.inl x1), none] [.inr (.inr s0)] h (f_X10_letTaggedWorksWait_32 rc2 a0 x1 s0 h) := by
  unfold f_X10_letTaggedWorksWait_32
  refine sim_iconst (1) dX10_letTaggedWorksWait_32 (by decide +kernel) ?_
  refine sim_goto 37 dX10_letTaggedWorksWait_33 (by decide) ?_
  exact sim_lv (am_leS (am_leS (am_leN am_leT))) (t_X10_letTaggedWorksWait_37 d (by omega) _ hrc2 _ _ _ _ _)
def f_X10_letTaggedWorksWait_2  : Nat → Nat × Nat → Int32 → am_H → am_R
  | 0, _, _, _ => none
  | n + 1, a0, x1, h => m_gI (some a0) 10 4 h fun v1 => if v1 ≤ x1 then (m_rt h none) else (m_gR (some a0) 10 3 h fun o2 => m_aR o2 5 x1 h fun o3 => m_gI o3 9 9 h fun v4 => if v4 = 0 then (m_gI o3 9 7 h fun v5 => if v5 = 0 then (f_X10_letTaggedWorksWait_37 (f_X10_letTaggedWorksWait_2  n) a0 x1 (0 : Int32) o3 h) else (f_X10_letTaggedWorksWait_32 (f_X10_letTaggedWorksWait_2  n) a0 x1 o3 h)) else (f_X10_letTaggedWorksWait_32 (f_X10_letTaggedWorksWait_2  n) a0 x1 o3 h))
theorem t_X10_letTaggedWorksWait_2 (d : Nat) (hd : 0 ≤ d)  : ∀ (n : Nat) (a0 : Nat × Nat) (x1 : Int32) (h : am_H), Sim m_X10_letTaggedWorksWait d 2 [some (.inr (.inr (some a0))), some (.inl x1), none] [] h (f_X10_letTaggedWorksWait_2  n a0 x1 h) := by
  intro n
  induction n with
  | zero => intros; exact sim_none
  | succ n hrc2 =>
    intro a0 x1 h
    rw [f_X10_letTaggedWorksWait_2]
    refine sim_iload_n dX10_letTaggedWorksWait_2 rfl ?_
    refine sim_aload_n dX10_letTaggedWorksWait_3 rfl ?_
    refine sim_gI 10 4 dX10_letTaggedWorksWait_4 rfl wf_RX10_104 (Nat.le_of_ble_eq_true rfl) rfl (fun v1 => ?_)
    refine sim_ic_ge 46 dX10_letTaggedWorksWait_7 (by decide) (fun c => ?_) (fun c => ?_)
    · exact sim_vret dX10_letTaggedWorksWait_46 rfl
    · refine sim_aload_n dX10_letTaggedWorksWait_10 rfl ?_
      refine sim_gR 10 3 dX10_letTaggedWorksWait_11 rfl wf_RX10_21 (Nat.le_of_ble_eq_true rfl) rfl (fun o2 => ?_)
      refine sim_iload_n dX10_letTaggedWorksWait_14 rfl ?_
      refine sim_aR 5 rfl dX10_letTaggedWorksWait_15 (fun o3 => ?_)
      refine sim_astore_n dX10_letTaggedWorksWait_16 (Nat.le_of_ble_eq_true rfl) ?_
      refine sim_aload_n dX10_letTaggedWorksWait_17 rfl ?_
      refine sim_aload_n dX10_letTaggedWorksWait_18 rfl ?_
      refine sim_gI 9 9 dX10_letTaggedWorksWait_19 rfl wf_RX10_244 (Nat.le_of_ble_eq_true rfl) rfl (fun v4 => ?_)
      refine sim_if_ne 32 dX10_letTaggedWorksWait_22 (by decide) (fun c => ?_) (fun c => ?_)
      · exact sim_lv (am_leS (am_leS (am_leN am_leT))) (t_X10_letTaggedWorksWait_32 d (by omega) _ hrc2 _ _ _ _)
      · refine sim_aload_n dX10_letTaggedWorksWait_25 rfl ?_
        refine sim_gI 9 7 dX10_letTaggedWorksWait_26 rfl wf_RX10_234 (Nat.le_of_ble_eq_true rfl) rfl (fun v5 => ?_)
        refine sim_if_eq 36 dX10_letTaggedWorksWait_29 (by decide) (fun c => ?_) (fun c => ?_)
        · refine sim_iconst (0) dX10_letTaggedWorksWait_36 (by decide +kernel) ?_
          exact sim_lv (am_leS (am_leS (am_leN am_leT))) (t_X10_letTaggedWorksWait_37 d (by omega) _ hrc2 _ _ _ _ _)
        · exact sim_lv (am_leS (am_leS (am_leN am_leT))) (t_X10_letTaggedWorksWait_32 d (by omega) _ hrc2 _ _ _ _)
def f_X10_letTaggedWorksWait (a0 : Nat × Nat) (h : am_H) : am_R := f_X10_letTaggedWorksWait_2 5000 a0 (0 : Int32) h
theorem k_X10_letTaggedWorksWait (d : Nat) (hd : 0 ≤ d) (a0 : Nat × Nat) (h : am_H) : am_Con m_X10_letTaggedWorksWait d [.inr (.inr (some a0))] h (f_X10_letTaggedWorksWait a0 h) := am_con (by decide +kernel) (Nat.le_of_ble_eq_true rfl) (by
  unfold f_X10_letTaggedWorksWait
  refine sim_iconst (0) dX10_letTaggedWorksWait_0 (by decide +kernel) ?_
  refine sim_istore_n dX10_letTaggedWorksWait_1 (Nat.le_of_ble_eq_true rfl) ?_
  exact sim_lv (am_leS (am_leS (am_leN am_leT))) (t_X10_letTaggedWorksWait_2 d (by omega) _ _ _ _))
theorem q_X10_letTaggedWorksWait : am_Cal m_X10_letTaggedWorksWait 0 2 := ⟨am_mem 569 (w := Cond.code yX10_letTaggedWorksWait cX10_letTaggedWorksWait 3 none) (by decide +kernel) rfl, am_mem 30 (w := Cond.initialized RX10) (by decide +kernel) rfl, fun z => absurd z (by decide), fun _ => am_mem 568 (w := Cond.instanceMethod yX10_letTaggedWorksWait) (by decide +kernel) rfl, fun z => absurd z (by decide), fun _ => am_mem 4 (w := Cond.selects RX10 yX10_letTaggedWorksWait yX10_letTaggedWorksWait) (by decide +kernel) rfl, by decide +kernel, by decide +kernel, Nat.le_of_ble_eq_true rfl⟩
abbrev m_X7_kindOf : am_M := (yX7_kindOf, cX7_kindOf, 2, some .int, [])
def f_X7_kindOf_27  (s0 : Int32) (h : am_H) : am_R := m_ri h s0
theorem t_X7_kindOf_27 (d : Nat) (hd : 0 ≤ d)  (s0 : Int32) (h : am_H) : Sim m_X7_kindOf d 27 [none, none] [.inl s0] h (f_X7_kindOf_27  s0 h) := by
  unfold f_X7_kindOf_27
  exact sim_iret dX7_kindOf_27 rfl
def f_X7_kindOf (a0 : Nat × Nat) (x1 : Int32) (h : am_H) : am_R := m_gR (some a0) 7 1 h fun o1 => m_aI o1 0 x1 h fun v2 => if v2 = (-1 : Int32) then (m_ri h (0 : Int32)) else (m_gR (some a0) 7 1 h fun o3 => m_aI o3 0 x1 h fun v4 => if v4 = x1 then (f_X7_kindOf_27 (1 : Int32) h) else (f_X7_kindOf_27 (2 : Int32) h))
theorem k_X7_kindOf (d : Nat) (hd : 0 ≤ d) (a0 : Nat × Nat) (x1 : Int32) (h : am_H) : am_Con m_X7_kindOf d [.inr (.inr (some a0)), .inl x1] h (f_X7_kindOf a0 x1 h) := am_con (by decide +kernel) (Nat.le_of_ble_eq_true rfl) (by
  unfold f_X7_kindOf
  refine sim_aload_n dX7_kindOf_0 rfl ?_
  refine sim_gR 7 1 dX7_kindOf_1 rfl wf_RX7_9 (Nat.le_of_ble_eq_true rfl) rfl (fun o1 => ?_)
  refine sim_iload_n dX7_kindOf_4 rfl ?_
  refine sim_aI dX7_kindOf_5 (fun v2 => ?_)
  refine sim_iconst (-1) dX7_kindOf_6 (by decide +kernel) ?_
  refine sim_ic_ne 12 dX7_kindOf_7 (by decide) (fun c => ?_) (fun c => ?_)
  · refine sim_aload_n dX7_kindOf_12 rfl ?_
    refine sim_gR 7 1 dX7_kindOf_13 rfl wf_RX7_9 (Nat.le_of_ble_eq_true rfl) rfl (fun o3 => ?_)
    refine sim_iload_n dX7_kindOf_16 rfl ?_
    refine sim_aI dX7_kindOf_17 (fun v4 => ?_)
    refine sim_iload_n dX7_kindOf_18 rfl ?_
    refine sim_ic_ne 26 dX7_kindOf_19 (by decide) (fun c => ?_) (fun c => ?_)
    · refine sim_iconst (2) dX7_kindOf_26 (by decide +kernel) ?_
      exact sim_lv (am_leN (am_leN am_leT)) (t_X7_kindOf_27 d (by omega) _ _)
    · refine sim_iconst (1) dX7_kindOf_22 (by decide +kernel) ?_
      refine sim_goto 27 dX7_kindOf_23 (by decide) ?_
      exact sim_lv (am_leN (am_leN am_leT)) (t_X7_kindOf_27 d (by omega) _ _)
  · refine sim_iconst (0) dX7_kindOf_10 (by decide +kernel) ?_
    exact sim_iret dX7_kindOf_11 rfl)
theorem q_X7_kindOf : am_Cal m_X7_kindOf 1 2 := ⟨am_mem 560 (w := Cond.code yX7_kindOf cX7_kindOf 2 (some .int)) (by decide +kernel) rfl, am_mem 31 (w := Cond.initialized RX7) (by decide +kernel) rfl, fun z => absurd z (by decide), fun _ => am_mem 558 (w := Cond.instanceMethod yX7_kindOf) (by decide +kernel) rfl, fun z => absurd z (by decide), fun _ => am_mem 559 (w := Cond.selects RX7 yX7_kindOf yX7_kindOf) (by decide +kernel) rfl, by decide +kernel, by decide +kernel, Nat.le_of_ble_eq_true rfl⟩
abbrev m_X7_makeMain : am_M := (yX7_makeMain, cX7_makeMain, 2, none, [])
def f_X7_makeMain (a0 : Nat × Nat) (x1 : Int32) (h : am_H) : am_R := m_gR (some a0) 7 1 h fun o1 => m_sI o1 x1 x1 h fun h2 => m_rt h2 none
theorem k_X7_makeMain (d : Nat) (hd : 0 ≤ d) (a0 : Nat × Nat) (x1 : Int32) (h : am_H) : am_Con m_X7_makeMain d [.inr (.inr (some a0)), .inl x1] h (f_X7_makeMain a0 x1 h) := am_con (by decide +kernel) (Nat.le_of_ble_eq_true rfl) (by
  unfold f_X7_makeMain
  refine sim_aload_n dX7_makeMain_0 rfl ?_
  refine sim_gR 7 1 dX7_makeMain_1 rfl wf_RX7_9 (Nat.le_of_ble_eq_true rfl) rfl (fun o1 => ?_)
  refine sim_iload_n dX7_makeMain_4 rfl ?_
  refine sim_iload_n dX7_makeMain_5 rfl ?_
  refine sim_sI dX7_makeMain_6 (fun h2 => ?_)
  exact sim_vret dX7_makeMain_7 rfl)
theorem q_X7_makeMain : am_Cal m_X7_makeMain 1 2 := ⟨am_mem 565 (w := Cond.code yX7_makeMain cX7_makeMain 2 none) (by decide +kernel) rfl, am_mem 31 (w := Cond.initialized RX7) (by decide +kernel) rfl, fun z => absurd z (by decide), fun _ => am_mem 563 (w := Cond.instanceMethod yX7_makeMain) (by decide +kernel) rfl, fun z => absurd z (by decide), fun _ => am_mem 564 (w := Cond.selects RX7 yX7_makeMain yX7_makeMain) (by decide +kernel) rfl, by decide +kernel, by decide +kernel, Nat.le_of_ble_eq_true rfl⟩
