theorem dX10_waiting_0 : decode cX10_waiting 0 = .ok (.iconst 0, 1) := by decide +kernel
theorem dX10_waiting_1 : decode cX10_waiting 1 = .ok (.istore_n 1, 1) := by decide +kernel
theorem dX10_waiting_2 : decode cX10_waiting 2 = .ok (.iconst 0, 1) := by decide +kernel
theorem dX10_waiting_3 : decode cX10_waiting 3 = .ok (.istore_n 2, 1) := by decide +kernel
theorem dX10_waiting_4 : decode cX10_waiting 4 = .ok (.iload_n 2, 1) := by decide +kernel
theorem dX10_waiting_5 : decode cX10_waiting 5 = .ok (.aload_n 0, 1) := by decide +kernel
theorem dX10_waiting_6 : decode cX10_waiting 6 = .ok (.getfield 104, 3) := by decide +kernel
theorem dX10_waiting_9 : decode cX10_waiting 9 = .ok (.if_icmp .ge 24, 3) := by decide +kernel
theorem dX10_waiting_12 : decode cX10_waiting 12 = .ok (.iload_n 1, 1) := by decide +kernel
theorem dX10_waiting_13 : decode cX10_waiting 13 = .ok (.iload_n 2, 1) := by decide +kernel
theorem dX10_waiting_14 : decode cX10_waiting 14 = .ok (.aload_n 0, 1) := by decide +kernel
theorem dX10_waiting_15 : decode cX10_waiting 15 = .ok (.getfield 21, 3) := by decide +kernel
theorem dX10_waiting_18 : decode cX10_waiting 18 = .ok (.iload_n 2, 1) := by decide +kernel
theorem dX10_waiting_19 : decode cX10_waiting 19 = .ok (.aaload, 1) := by decide +kernel
theorem dX10_waiting_20 : decode cX10_waiting 20 = .ok (.getfield 244, 3) := by decide +kernel
theorem dX10_waiting_23 : decode cX10_waiting 23 = .ok (.invokestatic 95, 3) := by decide +kernel
theorem dX10_waiting_26 : decode cX10_waiting 26 = .ok (.istore_n 1, 1) := by decide +kernel
theorem dX10_waiting_27 : decode cX10_waiting 27 = .ok (.iinc 2 1, 3) := by decide +kernel
theorem dX10_waiting_30 : decode cX10_waiting 30 = .ok (.goto (-26), 3) := by decide +kernel
theorem dX10_waiting_33 : decode cX10_waiting 33 = .ok (.iload_n 1, 1) := by decide +kernel
theorem dX10_waiting_34 : decode cX10_waiting 34 = .ok (.ireturn, 1) := by decide +kernel
abbrev m_X10_waiting : am_M := (yX10_waiting, cX10_waiting, 3, some .int, [])
def f_X10_waiting_4  : Nat → Nat × Nat → Int32 → Int32 → am_H → am_R
  | 0, _, _, _, _ => none
  | n + 1, a0, x1, x2, h => m_gI (some a0) 10 4 h fun v1 => if v1 ≤ x2 then (m_ri h x1) else (m_gR (some a0) 10 3 h fun o2 => m_aR o2 5 x2 h fun o3 => m_gI o3 9 9 h fun v4 => m_bI (f_X10_with x1 x2 v4 h) fun h5 v6 => (f_X10_waiting_4  n) a0 v6 (x2 + 1) h5)
theorem t_X10_waiting_4 (d : Nat) (hd : 1 ≤ d)  : ∀ (n : Nat) (a0 : Nat × Nat) (x1 : Int32) (x2 : Int32) (h : am_H), Sim m_X10_waiting d 4 [some (.inr (.inr (some a0))), some (.inl x1), some (.inl x2)] [] h (f_X10_waiting_4  n a0 x1 x2 h) := by
  intro n
  induction n with
  | zero => intros; exact sim_none
  | succ n hrc4 =>
    intro a0 x1 x2 h
    rw [f_X10_waiting_4]
    refine sim_iload_n dX10_waiting_4 rfl ?_
    refine sim_aload_n dX10_waiting_5 rfl ?_
    refine sim_gI 10 4 dX10_waiting_6 rfl wf_RX10_104 (Nat.le_of_ble_eq_true rfl) rfl (fun v1 => ?_)
    refine sim_ic_ge 33 dX10_waiting_9 (by decide) (fun c => ?_) (fun c => ?_)
    · refine sim_iload_n dX10_waiting_33 rfl ?_
      exact sim_iret dX10_waiting_34 rfl
    · refine sim_iload_n dX10_waiting_12 rfl ?_
      refine sim_iload_n dX10_waiting_13 rfl ?_
      refine sim_aload_n dX10_waiting_14 rfl ?_
      refine sim_gR 10 3 dX10_waiting_15 rfl wf_RX10_21 (Nat.le_of_ble_eq_true rfl) rfl (fun o2 => ?_)
      refine sim_iload_n dX10_waiting_18 rfl ?_
      refine sim_aR 5 rfl dX10_waiting_19 (fun o3 => ?_)
      refine sim_gI 9 9 dX10_waiting_20 rfl wf_RX10_244 (Nat.le_of_ble_eq_true rfl) rfl (fun v4 => ?_)
      refine sim_static (d - 1) dX10_waiting_23 (k_X10_with (d - 1) (by omega) _ _ _ _) q_X10_with wm_RX10_95 rfl rfl (by omega) (Nat.le_of_ble_eq_true rfl) am_nI (am_rI fun h5 v6 => ?_) am_eI
      refine sim_istore_n dX10_waiting_26 (Nat.le_of_ble_eq_true rfl) ?_
      refine sim_iinc (1) dX10_waiting_27 rfl (by decide +kernel) (Nat.le_of_ble_eq_true rfl) ?_
      refine sim_goto 4 dX10_waiting_30 (by decide) ?_
      exact sim_lv (am_leS (am_leS (am_leS am_leT))) (hrc4 _ _ _ _)
def f_X10_waiting (a0 : Nat × Nat) (h : am_H) : am_R := f_X10_waiting_4 5000 a0 (0 : Int32) (0 : Int32) h
theorem k_X10_waiting (d : Nat) (hd : 1 ≤ d) (a0 : Nat × Nat) (h : am_H) : am_Con m_X10_waiting d [.inr (.inr (some a0))] h (f_X10_waiting a0 h) := am_con (by decide +kernel) (Nat.le_of_ble_eq_true rfl) (by
  unfold f_X10_waiting
  refine sim_iconst (0) dX10_waiting_0 (by decide +kernel) ?_
  refine sim_istore_n dX10_waiting_1 (Nat.le_of_ble_eq_true rfl) ?_
  refine sim_iconst (0) dX10_waiting_2 (by decide +kernel) ?_
  refine sim_istore_n dX10_waiting_3 (Nat.le_of_ble_eq_true rfl) ?_
  exact sim_lv (am_leS (am_leS (am_leS am_leT))) (t_X10_waiting_4 d (by omega) _ _ _ _ _))
theorem q_X10_waiting : am_Cal m_X10_waiting 0 2 := ⟨am_mem 268 (w := Cond.code yX10_waiting cX10_waiting 3 (some .int)) (by decide +kernel) rfl, am_mem 56 (w := Cond.initialized RX10) (by decide +kernel) rfl, fun z => absurd z (by decide), fun _ => am_mem 266 (w := Cond.instanceMethod yX10_waiting) (by decide +kernel) rfl, fun z => absurd z (by decide), fun _ => am_mem 267 (w := Cond.selects RX10 yX10_waiting yX10_waiting) (by decide +kernel) rfl, by decide +kernel, by decide +kernel, Nat.le_of_ble_eq_true rfl⟩
theorem dX10_wipe_0 : decode cX10_wipe 0 = .ok (.aload_n 0, 1) := by decide +kernel
theorem dX10_wipe_1 : decode cX10_wipe 1 = .ok (.getfield 41, 3) := by decide +kernel
theorem dX10_wipe_4 : decode cX10_wipe 4 = .ok (.getfield 263, 3) := by decide +kernel
theorem dX10_wipe_7 : decode cX10_wipe 7 = .ok (.istore_n 1, 1) := by decide +kernel
theorem dX10_wipe_8 : decode cX10_wipe 8 = .ok (.aload_n 0, 1) := by decide +kernel
theorem dX10_wipe_9 : decode cX10_wipe 9 = .ok (.getfield 41, 3) := by decide +kernel
theorem dX10_wipe_12 : decode cX10_wipe 12 = .ok (.iconst 0, 1) := by decide +kernel
theorem dX10_wipe_13 : decode cX10_wipe 13 = .ok (.putfield 263, 3) := by decide +kernel
theorem dX10_wipe_16 : decode cX10_wipe 16 = .ok (.iload_n 1, 1) := by decide +kernel
theorem dX10_wipe_17 : decode cX10_wipe 17 = .ok (.ireturn, 1) := by decide +kernel
abbrev m_X10_wipe : am_M := (yX10_wipe, cX10_wipe, 2, some .int, [])
def f_X10_wipe (a0 : Nat × Nat) (h : am_H) : am_R := m_gR (some a0) 10 8 h fun o1 => m_gI o1 8 1 h fun v2 => m_gR (some a0) 10 8 h fun o3 => m_pI o3 8 1 (0 : Int32) h fun h4 => m_ri h4 v2
theorem k_X10_wipe (d : Nat) (hd : 0 ≤ d) (a0 : Nat × Nat) (h : am_H) : am_Con m_X10_wipe d [.inr (.inr (some a0))] h (f_X10_wipe a0 h) := am_con (by decide +kernel) (Nat.le_of_ble_eq_true rfl) (by
  unfold f_X10_wipe
  refine sim_aload_n dX10_wipe_0 rfl ?_
  refine sim_gR 10 8 dX10_wipe_1 rfl wf_RX10_41 (Nat.le_of_ble_eq_true rfl) rfl (fun o1 => ?_)
  refine sim_gI 8 1 dX10_wipe_4 rfl wf_RX10_263 (Nat.le_of_ble_eq_true rfl) rfl (fun v2 => ?_)
  refine sim_istore_n dX10_wipe_7 (Nat.le_of_ble_eq_true rfl) ?_
  refine sim_aload_n dX10_wipe_8 rfl ?_
  refine sim_gR 10 8 dX10_wipe_9 rfl wf_RX10_41 (Nat.le_of_ble_eq_true rfl) rfl (fun o3 => ?_)
  refine sim_iconst (0) dX10_wipe_12 (by decide +kernel) ?_
  refine sim_pI 8 1 dX10_wipe_13 rfl wf_RX10_263 (Nat.le_of_ble_eq_true rfl) rfl (Or.inl rfl) rfl (fun h4 => ?_)
  refine sim_iload_n dX10_wipe_16 rfl ?_
  exact sim_iret dX10_wipe_17 rfl)
theorem q_X10_wipe : am_Cal m_X10_wipe 0 2 := ⟨am_mem 275 (w := Cond.code yX10_wipe cX10_wipe 2 (some .int)) (by decide +kernel) rfl, am_mem 56 (w := Cond.initialized RX10) (by decide +kernel) rfl, fun z => absurd z (by decide), fun _ => am_mem 273 (w := Cond.instanceMethod yX10_wipe) (by decide +kernel) rfl, fun z => absurd z (by decide), fun _ => am_mem 274 (w := Cond.selects RX10 yX10_wipe yX10_wipe) (by decide +kernel) rfl, by decide +kernel, by decide +kernel, Nat.le_of_ble_eq_true rfl⟩
theorem dX11_holds_0 : decode cX11_holds 0 = .ok (.aload_n 0, 1) := by decide +kernel
theorem dX11_holds_1 : decode cX11_holds 1 = .ok (.iload_n 1, 1) := by decide +kernel
theorem dX11_holds_2 : decode cX11_holds 2 = .ok (.putfield 125, 3) := by decide +kernel
theorem dX11_holds_5 : decode cX11_holds 5 = .ok (.iload_n 1, 1) := by decide +kernel
theorem dX11_holds_6 : decode cX11_holds 6 = .ok (.ifCond .ne 7, 3) := by decide +kernel
theorem dX11_holds_9 : decode cX11_holds 9 = .ok (.iconst 1, 1) := by decide +kernel
theorem dX11_holds_10 : decode cX11_holds 10 = .ok (.goto 4, 3) := by decide +kernel
theorem dX11_holds_13 : decode cX11_holds 13 = .ok (.iconst 0, 1) := by decide +kernel
theorem dX11_holds_14 : decode cX11_holds 14 = .ok (.ireturn, 1) := by decide +kernel
abbrev m_X11_holds : am_M := (yX11_holds, cX11_holds, 2, some .boolean, [])
def f_X11_holds_14  (s0 : Int32) (h : am_H) : am_R := m_rz h s0
theorem t_X11_holds_14 (d : Nat) (hd : 0 ≤ d)  (s0 : Int32) (h : am_H) : Sim m_X11_holds d 14 [none, none] [.inl s0] h (f_X11_holds_14  s0 h) := by
  unfold f_X11_holds_14
  exact sim_zret dX11_holds_14 rfl
def f_X11_holds (a0 : Nat × Nat) (x1 : Int32) (h : am_H) : am_R := m_pI (some a0) 11 0 x1 h fun h1 => if x1 = 0 then (f_X11_holds_14 (1 : Int32) h1) else (f_X11_holds_14 (0 : Int32) h1)
theorem k_X11_holds (d : Nat) (hd : 0 ≤ d) (a0 : Nat × Nat) (x1 : Int32) (h : am_H) : am_Con m_X11_holds d [.inr (.inr (some a0)), .inl x1] h (f_X11_holds a0 x1 h) := am_con (by decide +kernel) (Nat.le_of_ble_eq_true rfl) (by
  unfold f_X11_holds
  refine sim_aload_n dX11_holds_0 rfl ?_
  refine sim_iload_n dX11_holds_1 rfl ?_
  refine sim_pI 11 0 dX11_holds_2 rfl wf_RX11_125 (Nat.le_of_ble_eq_true rfl) rfl (Or.inl rfl) rfl (fun h1 => ?_)
  refine sim_iload_n dX11_holds_5 rfl ?_
  refine sim_if_ne 13 dX11_holds_6 (by decide) (fun c => ?_) (fun c => ?_)
  · refine sim_iconst (0) dX11_holds_13 (by decide +kernel) ?_
    exact sim_lv (am_leN (am_leN am_leT)) (t_X11_holds_14 d (by omega) _ _)
  · refine sim_iconst (1) dX11_holds_9 (by decide +kernel) ?_
    refine sim_goto 14 dX11_holds_10 (by decide) ?_
    exact sim_lv (am_leN (am_leN am_leT)) (t_X11_holds_14 d (by omega) _ _))
theorem q_X11_holds : am_Cal m_X11_holds 1 2 := ⟨am_mem 1258 (w := Cond.code yX11_holds cX11_holds 2 (some .boolean)) (by decide +kernel) rfl, am_mem 64 (w := Cond.initialized RX11) (by decide +kernel) rfl, fun z => absurd z (by decide), fun _ => am_mem 1257 (w := Cond.instanceMethod yX11_holds) (by decide +kernel) rfl, fun z => absurd z (by decide), fun _ => am_mem 29 (w := Cond.selects RX11 yX11_holds yX11_holds) (by decide +kernel) rfl, by decide +kernel, by decide +kernel, Nat.le_of_ble_eq_true rfl⟩
theorem dX11_in_0 : decode cX11_in 0 = .ok (.iload_n 0, 1) := by decide +kernel
theorem dX11_in_1 : decode cX11_in 1 = .ok (.iload_n 1, 1) := by decide +kernel
theorem dX11_in_2 : decode cX11_in 2 = .ok (.if_icmp .lt 12, 3) := by decide +kernel
theorem dX11_in_5 : decode cX11_in 5 = .ok (.iload_n 0, 1) := by decide +kernel
theorem dX11_in_6 : decode cX11_in 6 = .ok (.iload_n 2, 1) := by decide +kernel
theorem dX11_in_7 : decode cX11_in 7 = .ok (.if_icmp .gt 7, 3) := by decide +kernel
theorem dX11_in_10 : decode cX11_in 10 = .ok (.iconst 1, 1) := by decide +kernel
theorem dX11_in_11 : decode cX11_in 11 = .ok (.goto 4, 3) := by decide +kernel
theorem dX11_in_14 : decode cX11_in 14 = .ok (.iconst 0, 1) := by decide +kernel
theorem dX11_in_15 : decode cX11_in 15 = .ok (.ireturn, 1) := by decide +kernel
abbrev m_X11_in : am_M := (yX11_in, cX11_in, 3, some .boolean, [])
def f_X11_in_15  (s0 : Int32) (h : am_H) : am_R := m_rz h s0
theorem t_X11_in_15 (d : Nat) (hd : 0 ≤ d)  (s0 : Int32) (h : am_H) : Sim m_X11_in d 15 [none, none, none] [.inl s0] h (f_X11_in_15  s0 h) := by
  unfold f_X11_in_15
  exact sim_zret dX11_in_15 rfl
def f_X11_in_14   (h : am_H) : am_R := f_X11_in_15 (0 : Int32) h
theorem t_X11_in_14 (d : Nat) (hd : 0 ≤ d)   (h : am_H) : Sim m_X11_in d 14 [none, none, none] [] h (f_X11_in_14   h) := by
  unfold f_X11_in_14
  refine sim_iconst (0) dX11_in_14 (by decide +kernel) ?_
  exact sim_lv (am_leN (am_leN (am_leN am_leT))) (t_X11_in_15 d (by omega) _ _)
def f_X11_in (x0 : Int32) (x1 : Int32) (x2 : Int32) (h : am_H) : am_R := if x0 < x1 then (f_X11_in_14 h) else (if x2 < x0 then (f_X11_in_14 h) else (f_X11_in_15 (1 : Int32) h))
theorem k_X11_in (d : Nat) (hd : 0 ≤ d) (x0 : Int32) (x1 : Int32) (x2 : Int32) (h : am_H) : am_Con m_X11_in d [.inl x0, .inl x1, .inl x2] h (f_X11_in x0 x1 x2 h) := am_con (by decide +kernel) (Nat.le_of_ble_eq_true rfl) (by
  unfold f_X11_in
  refine sim_iload_n dX11_in_0 rfl ?_
  refine sim_iload_n dX11_in_1 rfl ?_
  refine sim_ic_lt 14 dX11_in_2 (by decide) (fun c => ?_) (fun c => ?_)
  · exact sim_lv (am_leN (am_leN (am_leN am_leT))) (t_X11_in_14 d (by omega) _)
  · refine sim_iload_n dX11_in_5 rfl ?_
    refine sim_iload_n dX11_in_6 rfl ?_
    refine sim_ic_gt 14 dX11_in_7 (by decide) (fun c => ?_) (fun c => ?_)
    · exact sim_lv (am_leN (am_leN (am_leN am_leT))) (t_X11_in_14 d (by omega) _)
    · refine sim_iconst (1) dX11_in_10 (by decide +kernel) ?_
      refine sim_goto 15 dX11_in_11 (by decide) ?_
      exact sim_lv (am_leN (am_leN (am_leN am_leT))) (t_X11_in_15 d (by omega) _ _))
theorem q_X11_in : am_Cal m_X11_in 3 0 := ⟨am_mem 1254 (w := Cond.code yX11_in cX11_in 3 (some .boolean)) (by decide +kernel) rfl, am_mem 64 (w := Cond.initialized RX11) (by decide +kernel) rfl, fun _ => am_mem 1253 (w := Cond.static yX11_in) (by decide +kernel) rfl, fun z => absurd rfl z, fun z => absurd z (by decide), fun z => absurd z (by decide), by decide +kernel, by decide +kernel, Nat.le_of_ble_eq_true rfl⟩
theorem dX11_isPerson_0 : decode cX11_isPerson 0 = .ok (.iload_n 0, 1) := by decide +kernel
theorem dX11_isPerson_1 : decode cX11_isPerson 1 = .ok (.iconst 0, 1) := by decide +kernel
theorem dX11_isPerson_2 : decode cX11_isPerson 2 = .ok (.bipush 11, 2) := by decide +kernel
theorem dX11_isPerson_4 : decode cX11_isPerson 4 = .ok (.invokestatic 129, 3) := by decide +kernel
theorem dX11_isPerson_7 : decode cX11_isPerson 7 = .ok (.ireturn, 1) := by decide +kernel
abbrev m_X11_isPerson : am_M := (yX11_isPerson, cX11_isPerson, 1, some .boolean, [])
def f_X11_isPerson (x0 : Int32) (h : am_H) : am_R := m_bI (f_X11_in x0 (0 : Int32) (11 : Int32) h) fun h1 v2 => m_rz h1 v2
theorem k_X11_isPerson (d : Nat) (hd : 1 ≤ d) (x0 : Int32) (h : am_H) : am_Con m_X11_isPerson d [.inl x0] h (f_X11_isPerson x0 h) := am_con (by decide +kernel) (Nat.le_of_ble_eq_true rfl) (by
  unfold f_X11_isPerson
  refine sim_iload_n dX11_isPerson_0 rfl ?_
  refine sim_iconst (0) dX11_isPerson_1 (by decide +kernel) ?_
  refine sim_bipush (11) dX11_isPerson_2 (by decide +kernel) ?_
  refine sim_static (d - 1) dX11_isPerson_4 (k_X11_in (d - 1) (by omega) _ _ _ _) q_X11_in wm_RX11_129 rfl rfl (by omega) (Nat.le_of_ble_eq_true rfl) am_nI (am_rI fun h1 v2 => ?_) am_eI
  exact sim_zret dX11_isPerson_7 rfl)
theorem q_X11_isPerson : am_Cal m_X11_isPerson 1 0 := ⟨am_mem 1265 (w := Cond.code yX11_isPerson cX11_isPerson 1 (some .boolean)) (by decide +kernel) rfl, am_mem 64 (w := Cond.initialized RX11) (by decide +kernel) rfl, fun _ => am_mem 1264 (w := Cond.static yX11_isPerson) (by decide +kernel) rfl, fun z => absurd rfl z, fun z => absurd z (by decide), fun z => absurd z (by decide), by decide +kernel, by decide +kernel, Nat.le_of_ble_eq_true rfl⟩
theorem dX11_block_0 : decode cX11_block 0 = .ok (.aload_n 0, 1) := by decide +kernel
theorem dX11_block_1 : decode cX11_block 1 = .ok (.iload_n 1, 1) := by decide +kernel
theorem dX11_block_2 : decode cX11_block 2 = .ok (.invokestatic 146, 3) := by decide +kernel
theorem dX11_block_5 : decode cX11_block 5 = .ok (.ifCond .eq 10, 3) := by decide +kernel
theorem dX11_block_8 : decode cX11_block 8 = .ok (.iload_n 2, 1) := by decide +kernel
theorem dX11_block_9 : decode cX11_block 9 = .ok (.invokestatic 146, 3) := by decide +kernel
theorem dX11_block_12 : decode cX11_block 12 = .ok (.ifCond .ne 7, 3) := by decide +kernel
theorem dX11_block_15 : decode cX11_block 15 = .ok (.iconst 1, 1) := by decide +kernel
theorem dX11_block_16 : decode cX11_block 16 = .ok (.goto 13, 3) := by decide +kernel
theorem dX11_block_19 : decode cX11_block 19 = .ok (.iload_n 1, 1) := by decide +kernel
theorem dX11_block_20 : decode cX11_block 20 = .ok (.iload_n 2, 1) := by decide +kernel
theorem dX11_block_21 : decode cX11_block 21 = .ok (.if_icmp .ne 7, 3) := by decide +kernel
theorem dX11_block_24 : decode cX11_block 24 = .ok (.iconst 2, 1) := by decide +kernel
theorem dX11_block_25 : decode cX11_block 25 = .ok (.goto 4, 3) := by decide +kernel
theorem dX11_block_28 : decode cX11_block 28 = .ok (.iconst 0, 1) := by decide +kernel
theorem dX11_block_29 : decode cX11_block 29 = .ok (.invokevirtual 142, 3) := by decide +kernel
theorem dX11_block_32 : decode cX11_block 32 = .ok (.ifCond .ne 5, 3) := by decide +kernel
theorem dX11_block_35 : decode cX11_block 35 = .ok (.iconst 0, 1) := by decide +kernel
theorem dX11_block_36 : decode cX11_block 36 = .ok (.ireturn, 1) := by decide +kernel
theorem dX11_block_37 : decode cX11_block 37 = .ok (.aload_n 0, 1) := by decide +kernel
theorem dX11_block_38 : decode cX11_block 38 = .ok (.getfield 7, 3) := by decide +kernel
theorem dX11_block_41 : decode cX11_block 41 = .ok (.bipush 12, 2) := by decide +kernel
theorem dX11_block_43 : decode cX11_block 43 = .ok (.iload_n 1, 1) := by decide +kernel
theorem dX11_block_44 : decode cX11_block 44 = .ok (.imul, 1) := by decide +kernel
theorem dX11_block_45 : decode cX11_block 45 = .ok (.iload_n 2, 1) := by decide +kernel
theorem dX11_block_46 : decode cX11_block 46 = .ok (.iadd, 1) := by decide +kernel
theorem dX11_block_47 : decode cX11_block 47 = .ok (.baload, 1) := by decide +kernel
theorem dX11_block_48 : decode cX11_block 48 = .ok (.istore 4, 2) := by decide +kernel
theorem dX11_block_50 : decode cX11_block 50 = .ok (.aload_n 0, 1) := by decide +kernel
theorem dX11_block_51 : decode cX11_block 51 = .ok (.getfield 7, 3) := by decide +kernel
theorem dX11_block_54 : decode cX11_block 54 = .ok (.bipush 12, 2) := by decide +kernel
theorem dX11_block_56 : decode cX11_block 56 = .ok (.iload_n 1, 1) := by decide +kernel
theorem dX11_block_57 : decode cX11_block 57 = .ok (.imul, 1) := by decide +kernel
theorem dX11_block_58 : decode cX11_block 58 = .ok (.iload_n 2, 1) := by decide +kernel
theorem dX11_block_59 : decode cX11_block 59 = .ok (.iadd, 1) := by decide +kernel
theorem dX11_block_60 : decode cX11_block 60 = .ok (.iload_n 3, 1) := by decide +kernel
theorem dX11_block_61 : decode cX11_block 61 = .ok (.bastore, 1) := by decide +kernel
theorem dX11_block_62 : decode cX11_block 62 = .ok (.iload 4, 2) := by decide +kernel
theorem dX11_block_64 : decode cX11_block 64 = .ok (.ireturn, 1) := by decide +kernel
abbrev m_X11_block : am_M := (yX11_block, cX11_block, 5, some .boolean, [])
def f_X11_block_29  (a0 : Nat × Nat) (x1 : Int32) (x2 : Int32) (x3 : Int32) (s0 : Int32) (s1 : Option (Nat × Nat)) (h : am_H) : am_R := m_ao s1 11 fun a7 => m_bI (f_X11_holds a7 s0 h) fun h5 v6 => if v6 = 0 then (m_rz h5 (0 : Int32)) else (m_gR (some a0) 11 2 h5 fun o8 => m_aI o8 1 (((12 : Int32) * x1) + x2) h5 fun v9 => m_gR (some a0) 11 2 h5 fun o10 => m_sZ o10 (((12 : Int32) * x1) + x2) x3 h5 fun h11 => m_rz h11 v9)
theorem t_X11_block_29 (d : Nat) (hd : 2 ≤ d)  (a0 : Nat × Nat) (x1 : Int32) (x2 : Int32) (x3 : Int32) (s0 : Int32) (s1 : Option (Nat × Nat)) (h : am_H) : Sim m_X11_block d 29 [some (.inr (.inr (some a0))), some (.inl x1), some (.inl x2), some (.inl x3), none] [.inl s0, .inr (.inr s1)] h (f_X11_block_29  a0 x1 x2 x3 s0 s1 h) := by
  unfold f_X11_block_29
  refine sim_ao1 (fun a7 e => ?_)
  refine sim_virt (d - 1) e dX11_block_29 (k_X11_holds (d - 1) (by omega) _ _ _) q_X11_holds rfl rfl wm_RX11_142 rfl rfl (by omega) (Nat.le_of_ble_eq_true rfl) am_nI (am_rI fun h5 v6 => ?_) am_eI
  refine sim_if_ne 37 dX11_block_32 (by decide) (fun c => ?_) (fun c => ?_)
  · refine sim_aload_n dX11_block_37 rfl ?_
    refine sim_gR 11 2 dX11_block_38 rfl wf_RX11_7 (Nat.le_of_ble_eq_true rfl) rfl (fun o8 => ?_)
    refine sim_bipush (12) dX11_block_41 (by decide +kernel) ?_
    refine sim_iload_n dX11_block_43 rfl ?_
    refine sim_imul dX11_block_44 ?_
    refine sim_iload_n dX11_block_45 rfl ?_
    refine sim_iadd dX11_block_46 ?_
    refine sim_aZ dX11_block_47 (fun v9 => ?_)
    refine sim_istore dX11_block_48 (Nat.le_of_ble_eq_true rfl) ?_
    refine sim_aload_n dX11_block_50 rfl ?_
    refine sim_gR 11 2 dX11_block_51 rfl wf_RX11_7 (Nat.le_of_ble_eq_true rfl) rfl (fun o10 => ?_)
    refine sim_bipush (12) dX11_block_54 (by decide +kernel) ?_
    refine sim_iload_n dX11_block_56 rfl ?_
    refine sim_imul dX11_block_57 ?_
    refine sim_iload_n dX11_block_58 rfl ?_
    refine sim_iadd dX11_block_59 ?_
    refine sim_iload_n dX11_block_60 rfl ?_
    refine sim_sZ dX11_block_61 (fun h11 => ?_)
    refine sim_iload dX11_block_62 rfl ?_
    exact sim_zret dX11_block_64 rfl
  · refine sim_iconst (0) dX11_block_35 (by decide +kernel) ?_
    exact sim_zret dX11_block_36 rfl
def f_X11_block_15  (a0 : Nat × Nat) (x1 : Int32) (x2 : Int32) (x3 : Int32) (s0 : Option (Nat × Nat)) (h : am_H) : am_R := f_X11_block_29 a0 x1 x2 x3 (1 : Int32) s0 h
theorem t_X11_block_15 (d : Nat) (hd : 2 ≤ d)  (a0 : Nat × Nat) (x1 : Int32) (x2 : Int32) (x3 : Int32) (s0 : Option (Nat × Nat)) (h : am_H) : Sim m_X11_block d 15 [some (.inr (.inr (some a0))), some (.inl x1), some (.inl x2), some (.inl x3), none] [.inr (.inr s0)] h (f_X11_block_15  a0 x1 x2 x3 s0 h) := by
  unfold f_X11_block_15
  refine sim_iconst (1) dX11_block_15 (by decide +kernel) ?_
  refine sim_goto 29 dX11_block_16 (by decide) ?_
  exact sim_lv (am_leS (am_leS (am_leS (am_leS (am_leN am_leT))))) (t_X11_block_29 d (by omega) _ _ _ _ _ _ _)
def f_X11_block (a0 : Nat × Nat) (x1 : Int32) (x2 : Int32) (x3 : Int32) (h : am_H) : am_R := m_bI (f_X11_isPerson x1 h) fun h1 v2 => if v2 = 0 then (f_X11_block_15 a0 x1 x2 x3 (some a0) h1) else (m_bI (f_X11_isPerson x2 h1) fun h3 v4 => if v4 = 0 then (f_X11_block_15 a0 x1 x2 x3 (some a0) h3) else (if x1 = x2 then (f_X11_block_29 a0 x1 x2 x3 (2 : Int32) (some a0) h3) else (f_X11_block_29 a0 x1 x2 x3 (0 : Int32) (some a0) h3)))
theorem k_X11_block (d : Nat) (hd : 2 ≤ d) (a0 : Nat × Nat) (x1 : Int32) (x2 : Int32) (x3 : Int32) (h : am_H) : am_Con m_X11_block d [.inr (.inr (some a0)), .inl x1, .inl x2, .inl x3] h (f_X11_block a0 x1 x2 x3 h) := am_con (by decide +kernel) (Nat.le_of_ble_eq_true rfl) (by
  unfold f_X11_block
  refine sim_aload_n dX11_block_0 rfl ?_
  refine sim_iload_n dX11_block_1 rfl ?_
  refine sim_static (d - 1) dX11_block_2 (k_X11_isPerson (d - 1) (by omega) _ _) q_X11_isPerson wm_RX11_146 rfl rfl (by omega) (Nat.le_of_ble_eq_true rfl) am_nI (am_rI fun h1 v2 => ?_) am_eI
  refine sim_if_eq 15 dX11_block_5 (by decide) (fun c => ?_) (fun c => ?_)
  · exact sim_lv (am_leS (am_leS (am_leS (am_leS (am_leN am_leT))))) (t_X11_block_15 d (by omega) _ _ _ _ _ _)
  · refine sim_iload_n dX11_block_8 rfl ?_
    refine sim_static (d - 1) dX11_block_9 (k_X11_isPerson (d - 1) (by omega) _ _) q_X11_isPerson wm_RX11_146 rfl rfl (by omega) (Nat.le_of_ble_eq_true rfl) am_nI (am_rI fun h3 v4 => ?_) am_eI
    refine sim_if_ne 19 dX11_block_12 (by decide) (fun c => ?_) (fun c => ?_)
    · refine sim_iload_n dX11_block_19 rfl ?_
      refine sim_iload_n dX11_block_20 rfl ?_
      refine sim_ic_ne 28 dX11_block_21 (by decide) (fun c => ?_) (fun c => ?_)
      · refine sim_iconst (0) dX11_block_28 (by decide +kernel) ?_
        exact sim_lv (am_leS (am_leS (am_leS (am_leS (am_leN am_leT))))) (t_X11_block_29 d (by omega) _ _ _ _ _ _ _)
      · refine sim_iconst (2) dX11_block_24 (by decide +kernel) ?_
        refine sim_goto 29 dX11_block_25 (by decide) ?_
        exact sim_lv (am_leS (am_leS (am_leS (am_leS (am_leN am_leT))))) (t_X11_block_29 d (by omega) _ _ _ _ _ _ _)
    · exact sim_lv (am_leS (am_leS (am_leS (am_leS (am_leN am_leT))))) (t_X11_block_15 d (by omega) _ _ _ _ _ _))
theorem q_X11_block : am_Cal m_X11_block 3 2 := ⟨am_mem 1262 (w := Cond.code yX11_block cX11_block 5 (some .boolean)) (by decide +kernel) rfl, am_mem 64 (w := Cond.initialized RX11) (by decide +kernel) rfl, fun z => absurd z (by decide), fun _ => am_mem 1260 (w := Cond.instanceMethod yX11_block) (by decide +kernel) rfl, fun z => absurd z (by decide), fun _ => am_mem 1261 (w := Cond.selects RX11 yX11_block yX11_block) (by decide +kernel) rfl, by decide +kernel, by decide +kernel, Nat.le_of_ble_eq_true rfl⟩
theorem dX11_change_0 : decode cX11_change 0 = .ok (.aload_n 0, 1) := by decide +kernel
theorem dX11_change_1 : decode cX11_change 1 = .ok (.iload_n 1, 1) := by decide +kernel
theorem dX11_change_2 : decode cX11_change 2 = .ok (.iconst 0, 1) := by decide +kernel
theorem dX11_change_3 : decode cX11_change 3 = .ok (.aload_n 0, 1) := by decide +kernel
theorem dX11_change_4 : decode cX11_change 4 = .ok (.getfield 248, 3) := by decide +kernel
theorem dX11_change_7 : decode cX11_change 7 = .ok (.iconst 1, 1) := by decide +kernel
theorem dX11_change_8 : decode cX11_change 8 = .ok (.isub, 1) := by decide +kernel
theorem dX11_change_9 : decode cX11_change 9 = .ok (.invokestatic 129, 3) := by decide +kernel
theorem dX11_change_12 : decode cX11_change 12 = .ok (.ifCond .ne 7, 3) := by decide +kernel
theorem dX11_change_15 : decode cX11_change 15 = .ok (.iconst 1, 1) := by decide +kernel
theorem dX11_change_16 : decode cX11_change 16 = .ok (.goto 17, 3) := by decide +kernel
theorem dX11_change_19 : decode cX11_change 19 = .ok (.iload_n 2, 1) := by decide +kernel
theorem dX11_change_20 : decode cX11_change 20 = .ok (.iconst 0, 1) := by decide +kernel
theorem dX11_change_21 : decode cX11_change 21 = .ok (.iconst 3, 1) := by decide +kernel
theorem dX11_change_22 : decode cX11_change 22 = .ok (.invokestatic 129, 3) := by decide +kernel
theorem dX11_change_25 : decode cX11_change 25 = .ok (.ifCond .eq 7, 3) := by decide +kernel
theorem dX11_change_28 : decode cX11_change 28 = .ok (.iconst 0, 1) := by decide +kernel
theorem dX11_change_29 : decode cX11_change 29 = .ok (.goto 4, 3) := by decide +kernel
theorem dX11_change_32 : decode cX11_change 32 = .ok (.iconst 2, 1) := by decide +kernel
theorem dX11_change_33 : decode cX11_change 33 = .ok (.invokevirtual 142, 3) := by decide +kernel
theorem dX11_change_36 : decode cX11_change 36 = .ok (.ifCond .ne 5, 3) := by decide +kernel
theorem dX11_change_39 : decode cX11_change 39 = .ok (.iconst 0, 1) := by decide +kernel
theorem dX11_change_40 : decode cX11_change 40 = .ok (.ireturn, 1) := by decide +kernel
theorem dX11_change_41 : decode cX11_change 41 = .ok (.iload_n 2, 1) := by decide +kernel
theorem dX11_change_42 : decode cX11_change 42 = .ok (.iconst 2, 1) := by decide +kernel
theorem dX11_change_43 : decode cX11_change 43 = .ok (.if_icmp .ne 12, 3) := by decide +kernel
theorem dX11_change_46 : decode cX11_change 46 = .ok (.aload_n 0, 1) := by decide +kernel
theorem dX11_change_47 : decode cX11_change 47 = .ok (.getfield 110, 3) := by decide +kernel
theorem dX11_change_50 : decode cX11_change 50 = .ok (.iload_n 1, 1) := by decide +kernel
theorem dX11_change_51 : decode cX11_change 51 = .ok (.baload, 1) := by decide +kernel
theorem dX11_change_52 : decode cX11_change 52 = .ok (.goto 48, 3) := by decide +kernel
theorem dX11_change_55 : decode cX11_change 55 = .ok (.iload_n 2, 1) := by decide +kernel
theorem dX11_change_56 : decode cX11_change 56 = .ok (.iconst 3, 1) := by decide +kernel
theorem dX11_change_57 : decode cX11_change 57 = .ok (.if_icmp .ne 20, 3) := by decide +kernel
theorem dX11_change_60 : decode cX11_change 60 = .ok (.aload_n 0, 1) := by decide +kernel
theorem dX11_change_61 : decode cX11_change 61 = .ok (.getfield 113, 3) := by decide +kernel
theorem dX11_change_64 : decode cX11_change 64 = .ok (.iload_n 1, 1) := by decide +kernel
theorem dX11_change_65 : decode cX11_change 65 = .ok (.baload, 1) := by decide +kernel
theorem dX11_change_66 : decode cX11_change 66 = .ok (.ifCond .ne 7, 3) := by decide +kernel
theorem dX11_change_69 : decode cX11_change 69 = .ok (.iconst 1, 1) := by decide +kernel
theorem dX11_change_70 : decode cX11_change 70 = .ok (.goto 30, 3) := by decide +kernel
theorem dX11_change_73 : decode cX11_change 73 = .ok (.iconst 0, 1) := by decide +kernel
theorem dX11_change_74 : decode cX11_change 74 = .ok (.goto 26, 3) := by decide +kernel
theorem dX11_change_77 : decode cX11_change 77 = .ok (.aload_n 0, 1) := by decide +kernel
theorem dX11_change_78 : decode cX11_change 78 = .ok (.getfield 107, 3) := by decide +kernel
theorem dX11_change_81 : decode cX11_change 81 = .ok (.iload_n 1, 1) := by decide +kernel
theorem dX11_change_82 : decode cX11_change 82 = .ok (.baload, 1) := by decide +kernel
theorem dX11_change_83 : decode cX11_change 83 = .ok (.iload_n 2, 1) := by decide +kernel
theorem dX11_change_84 : decode cX11_change 84 = .ok (.ifCond .ne 7, 3) := by decide +kernel
theorem dX11_change_87 : decode cX11_change 87 = .ok (.iconst 1, 1) := by decide +kernel
theorem dX11_change_88 : decode cX11_change 88 = .ok (.goto 4, 3) := by decide +kernel
theorem dX11_change_91 : decode cX11_change 91 = .ok (.iconst 0, 1) := by decide +kernel
theorem dX11_change_92 : decode cX11_change 92 = .ok (.if_icmp .eq 7, 3) := by decide +kernel
theorem dX11_change_95 : decode cX11_change 95 = .ok (.iconst 1, 1) := by decide +kernel
theorem dX11_change_96 : decode cX11_change 96 = .ok (.goto 4, 3) := by decide +kernel
theorem dX11_change_99 : decode cX11_change 99 = .ok (.iconst 0, 1) := by decide +kernel
theorem dX11_change_100 : decode cX11_change 100 = .ok (.istore_n 3, 1) := by decide +kernel
theorem dX11_change_101 : decode cX11_change 101 = .ok (.aload_n 0, 1) := by decide +kernel
theorem dX11_change_102 : decode cX11_change 102 = .ok (.getfield 107, 3) := by decide +kernel
theorem dX11_change_105 : decode cX11_change 105 = .ok (.iload_n 1, 1) := by decide +kernel
theorem dX11_change_106 : decode cX11_change 106 = .ok (.iload_n 2, 1) := by decide +kernel
theorem dX11_change_107 : decode cX11_change 107 = .ok (.ifCond .eq 17, 3) := by decide +kernel
theorem dX11_change_110 : decode cX11_change 110 = .ok (.iload_n 2, 1) := by decide +kernel
theorem dX11_change_111 : decode cX11_change 111 = .ok (.iconst 1, 1) := by decide +kernel
theorem dX11_change_112 : decode cX11_change 112 = .ok (.if_icmp .le 16, 3) := by decide +kernel
theorem dX11_change_115 : decode cX11_change 115 = .ok (.aload_n 0, 1) := by decide +kernel
theorem dX11_change_116 : decode cX11_change 116 = .ok (.getfield 107, 3) := by decide +kernel
theorem dX11_change_119 : decode cX11_change 119 = .ok (.iload_n 1, 1) := by decide +kernel
theorem dX11_change_120 : decode cX11_change 120 = .ok (.baload, 1) := by decide +kernel
theorem dX11_change_121 : decode cX11_change 121 = .ok (.ifCond .eq 7, 3) := by decide +kernel
theorem dX11_change_124 : decode cX11_change 124 = .ok (.iconst 1, 1) := by decide +kernel
theorem dX11_change_125 : decode cX11_change 125 = .ok (.goto 4, 3) := by decide +kernel
theorem dX11_change_128 : decode cX11_change 128 = .ok (.iconst 0, 1) := by decide +kernel
theorem dX11_change_129 : decode cX11_change 129 = .ok (.bastore, 1) := by decide +kernel
theorem dX11_change_130 : decode cX11_change 130 = .ok (.aload_n 0, 1) := by decide +kernel
theorem dX11_change_131 : decode cX11_change 131 = .ok (.getfield 110, 3) := by decide +kernel
theorem dX11_change_134 : decode cX11_change 134 = .ok (.iload_n 1, 1) := by decide +kernel
theorem dX11_change_135 : decode cX11_change 135 = .ok (.iload_n 2, 1) := by decide +kernel
theorem dX11_change_136 : decode cX11_change 136 = .ok (.iconst 2, 1) := by decide +kernel
theorem dX11_change_137 : decode cX11_change 137 = .ok (.if_icmp .eq 16, 3) := by decide +kernel
theorem dX11_change_140 : decode cX11_change 140 = .ok (.aload_n 0, 1) := by decide +kernel
theorem dX11_change_141 : decode cX11_change 141 = .ok (.getfield 110, 3) := by decide +kernel
theorem dX11_change_144 : decode cX11_change 144 = .ok (.iload_n 1, 1) := by decide +kernel
theorem dX11_change_145 : decode cX11_change 145 = .ok (.baload, 1) := by decide +kernel
theorem dX11_change_146 : decode cX11_change 146 = .ok (.ifCond .eq 7, 3) := by decide +kernel
theorem dX11_change_149 : decode cX11_change 149 = .ok (.iconst 1, 1) := by decide +kernel
theorem dX11_change_150 : decode cX11_change 150 = .ok (.goto 4, 3) := by decide +kernel
theorem dX11_change_153 : decode cX11_change 153 = .ok (.iconst 0, 1) := by decide +kernel
theorem dX11_change_154 : decode cX11_change 154 = .ok (.bastore, 1) := by decide +kernel
theorem dX11_change_155 : decode cX11_change 155 = .ok (.aload_n 0, 1) := by decide +kernel
theorem dX11_change_156 : decode cX11_change 156 = .ok (.getfield 113, 3) := by decide +kernel
theorem dX11_change_159 : decode cX11_change 159 = .ok (.iload_n 1, 1) := by decide +kernel
theorem dX11_change_160 : decode cX11_change 160 = .ok (.iload_n 2, 1) := by decide +kernel
theorem dX11_change_161 : decode cX11_change 161 = .ok (.iconst 3, 1) := by decide +kernel
theorem dX11_change_162 : decode cX11_change 162 = .ok (.if_icmp .eq 12, 3) := by decide +kernel
theorem dX11_change_165 : decode cX11_change 165 = .ok (.aload_n 0, 1) := by decide +kernel
theorem dX11_change_166 : decode cX11_change 166 = .ok (.getfield 113, 3) := by decide +kernel
theorem dX11_change_169 : decode cX11_change 169 = .ok (.iload_n 1, 1) := by decide +kernel
theorem dX11_change_170 : decode cX11_change 170 = .ok (.baload, 1) := by decide +kernel
theorem dX11_change_171 : decode cX11_change 171 = .ok (.ifCond .eq 7, 3) := by decide +kernel
theorem dX11_change_174 : decode cX11_change 174 = .ok (.iconst 1, 1) := by decide +kernel
theorem dX11_change_175 : decode cX11_change 175 = .ok (.goto 4, 3) := by decide +kernel
theorem dX11_change_178 : decode cX11_change 178 = .ok (.iconst 0, 1) := by decide +kernel
theorem dX11_change_179 : decode cX11_change 179 = .ok (.bastore, 1) := by decide +kernel
theorem dX11_change_180 : decode cX11_change 180 = .ok (.iload_n 3, 1) := by decide +kernel
theorem dX11_change_181 : decode cX11_change 181 = .ok (.ireturn, 1) := by decide +kernel
abbrev m_X11_change : am_M := (yX11_change, cX11_change, 4, some .boolean, [])
def f_X11_change_179  (x3 : Int32) (s0 : Int32) (s1 : Int32) (s2 : Option (Nat × Nat)) (h : am_H) : am_R := m_sZ s2 s1 s0 h fun h26 => m_rz h26 x3
theorem t_X11_change_179 (d : Nat) (hd : 1 ≤ d)  (x3 : Int32) (s0 : Int32) (s1 : Int32) (s2 : Option (Nat × Nat)) (h : am_H) : Sim m_X11_change d 179 [none, none, none, some (.inl x3)] [.inl s0, .inl s1, .inr (.inr s2)] h (f_X11_change_179  x3 s0 s1 s2 h) := by
  unfold f_X11_change_179
  refine sim_sZ dX11_change_179 (fun h26 => ?_)
  refine sim_iload_n dX11_change_180 rfl ?_
  exact sim_zret dX11_change_181 rfl
def f_X11_change_174  (x3 : Int32) (s0 : Int32) (s1 : Option (Nat × Nat)) (h : am_H) : am_R := f_X11_change_179 x3 (1 : Int32) s0 s1 h
theorem t_X11_change_174 (d : Nat) (hd : 1 ≤ d)  (x3 : Int32) (s0 : Int32) (s1 : Option (Nat × Nat)) (h : am_H) : Sim m_X11_change d 174 [none, none, none, some (.inl x3)] [.inl s0, .inr (.inr s1)] h (f_X11_change_174  x3 s0 s1 h) := by
  unfold f_X11_change_174
  refine sim_iconst (1) dX11_change_174 (by decide +kernel) ?_
  refine sim_goto 179 dX11_change_175 (by decide) ?_
  exact sim_lv (am_leN (am_leN (am_leN (am_leS am_leT)))) (t_X11_change_179 d (by omega) _ _ _ _ _)
def f_X11_change_154  (a0 : Nat × Nat) (x1 : Int32) (x2 : Int32) (x3 : Int32) (s0 : Int32) (s1 : Int32) (s2 : Option (Nat × Nat)) (h : am_H) : am_R := m_sZ s2 s1 s0 h fun h22 => m_gR (some a0) 11 43 h22 fun o23 => if x2 = (3 : Int32) then (f_X11_change_174 x3 x1 o23 h22) else (m_gR (some a0) 11 43 h22 fun o24 => m_aI o24 1 x1 h22 fun v25 => if v25 = 0 then (f_X11_change_179 x3 (0 : Int32) x1 o23 h22) else (f_X11_change_174 x3 x1 o23 h22))
theorem t_X11_change_154 (d : Nat) (hd : 1 ≤ d)  (a0 : Nat × Nat) (x1 : Int32) (x2 : Int32) (x3 : Int32) (s0 : Int32) (s1 : Int32) (s2 : Option (Nat × Nat)) (h : am_H) : Sim m_X11_change d 154 [some (.inr (.inr (some a0))), some (.inl x1), some (.inl x2), some (.inl x3)] [.inl s0, .inl s1, .inr (.inr s2)] h (f_X11_change_154  a0 x1 x2 x3 s0 s1 s2 h) := by
  unfold f_X11_change_154
  refine sim_sZ dX11_change_154 (fun h22 => ?_)
  refine sim_aload_n dX11_change_155 rfl ?_
  refine sim_gR 11 43 dX11_change_156 rfl wf_RX11_113 (Nat.le_of_ble_eq_true rfl) rfl (fun o23 => ?_)
  refine sim_iload_n dX11_change_159 rfl ?_
  refine sim_iload_n dX11_change_160 rfl ?_
  refine sim_iconst (3) dX11_change_161 (by decide +kernel) ?_
  refine sim_ic_eq 174 dX11_change_162 (by decide) (fun c => ?_) (fun c => ?_)
  · exact sim_lv (am_leN (am_leN (am_leN (am_leS am_leT)))) (t_X11_change_174 d (by omega) _ _ _ _)
  · refine sim_aload_n dX11_change_165 rfl ?_
    refine sim_gR 11 43 dX11_change_166 rfl wf_RX11_113 (Nat.le_of_ble_eq_true rfl) rfl (fun o24 => ?_)
    refine sim_iload_n dX11_change_169 rfl ?_
    refine sim_aZ dX11_change_170 (fun v25 => ?_)
    refine sim_if_eq 178 dX11_change_171 (by decide) (fun c => ?_) (fun c => ?_)
    · refine sim_iconst (0) dX11_change_178 (by decide +kernel) ?_
      exact sim_lv (am_leN (am_leN (am_leN (am_leS am_leT)))) (t_X11_change_179 d (by omega) _ _ _ _ _)
    · exact sim_lv (am_leN (am_leN (am_leN (am_leS am_leT)))) (t_X11_change_174 d (by omega) _ _ _ _)
def f_X11_change_153  (a0 : Nat × Nat) (x1 : Int32) (x2 : Int32) (x3 : Int32) (s0 : Int32) (s1 : Option (Nat × Nat)) (h : am_H) : am_R := f_X11_change_154 a0 x1 x2 x3 (0 : Int32) s0 s1 h
theorem t_X11_change_153 (d : Nat) (hd : 1 ≤ d)  (a0 : Nat × Nat) (x1 : Int32) (x2 : Int32) (x3 : Int32) (s0 : Int32) (s1 : Option (Nat × Nat)) (h : am_H) : Sim m_X11_change d 153 [some (.inr (.inr (some a0))), some (.inl x1), some (.inl x2), some (.inl x3)] [.inl s0, .inr (.inr s1)] h (f_X11_change_153  a0 x1 x2 x3 s0 s1 h) := by
  unfold f_X11_change_153
  refine sim_iconst (0) dX11_change_153 (by decide +kernel) ?_
  exact sim_lv (am_leS (am_leS (am_leS (am_leS am_leT)))) (t_X11_change_154 d (by omega) _ _ _ _ _ _ _ _)
def f_X11_change_129  (a0 : Nat × Nat) (x1 : Int32) (x2 : Int32) (x3 : Int32) (s0 : Int32) (s1 : Int32) (s2 : Option (Nat × Nat)) (h : am_H) : am_R := m_sZ s2 s1 s0 h fun h18 => m_gR (some a0) 11 42 h18 fun o19 => if x2 = (2 : Int32) then (f_X11_change_153 a0 x1 x2 x3 x1 o19 h18) else (m_gR (some a0) 11 42 h18 fun o20 => m_aI o20 1 x1 h18 fun v21 => if v21 = 0 then (f_X11_change_153 a0 x1 x2 x3 x1 o19 h18) else (f_X11_change_154 a0 x1 x2 x3 (1 : Int32) x1 o19 h18))
theorem t_X11_change_129 (d : Nat) (hd : 1 ≤ d)  (a0 : Nat × Nat) (x1 : Int32) (x2 : Int32) (x3 : Int32) (s0 : Int32) (s1 : Int32) (s2 : Option (Nat × Nat)) (h : am_H) : Sim m_X11_change d 129 [some (.inr (.inr (some a0))), some (.inl x1), some (.inl x2), some (.inl x3)] [.inl s0, .inl s1, .inr (.inr s2)] h (f_X11_change_129  a0 x1 x2 x3 s0 s1 s2 h) := by
  unfold f_X11_change_129
  refine sim_sZ dX11_change_129 (fun h18 => ?_)
  refine sim_aload_n dX11_change_130 rfl ?_
  refine sim_gR 11 42 dX11_change_131 rfl wf_RX11_110 (Nat.le_of_ble_eq_true rfl) rfl (fun o19 => ?_)
  refine sim_iload_n dX11_change_134 rfl ?_
  refine sim_iload_n dX11_change_135 rfl ?_
  refine sim_iconst (2) dX11_change_136 (by decide +kernel) ?_
  refine sim_ic_eq 153 dX11_change_137 (by decide) (fun c => ?_) (fun c => ?_)
  · exact sim_lv (am_leS (am_leS (am_leS (am_leS am_leT)))) (t_X11_change_153 d (by omega) _ _ _ _ _ _ _)
  · refine sim_aload_n dX11_change_140 rfl ?_
    refine sim_gR 11 42 dX11_change_141 rfl wf_RX11_110 (Nat.le_of_ble_eq_true rfl) rfl (fun o20 => ?_)
    refine sim_iload_n dX11_change_144 rfl ?_
    refine sim_aZ dX11_change_145 (fun v21 => ?_)
    refine sim_if_eq 153 dX11_change_146 (by decide) (fun c => ?_) (fun c => ?_)
    · exact sim_lv (am_leS (am_leS (am_leS (am_leS am_leT)))) (t_X11_change_153 d (by omega) _ _ _ _ _ _ _)
    · refine sim_iconst (1) dX11_change_149 (by decide +kernel) ?_
      refine sim_goto 154 dX11_change_150 (by decide) ?_
      exact sim_lv (am_leS (am_leS (am_leS (am_leS am_leT)))) (t_X11_change_154 d (by omega) _ _ _ _ _ _ _ _)
def f_X11_change_128  (a0 : Nat × Nat) (x1 : Int32) (x2 : Int32) (x3 : Int32) (s0 : Int32) (s1 : Option (Nat × Nat)) (h : am_H) : am_R := f_X11_change_129 a0 x1 x2 x3 (0 : Int32) s0 s1 h
theorem t_X11_change_128 (d : Nat) (hd : 1 ≤ d)  (a0 : Nat × Nat) (x1 : Int32) (x2 : Int32) (x3 : Int32) (s0 : Int32) (s1 : Option (Nat × Nat)) (h : am_H) : Sim m_X11_change d 128 [some (.inr (.inr (some a0))), some (.inl x1), some (.inl x2), some (.inl x3)] [.inl s0, .inr (.inr s1)] h (f_X11_change_128  a0 x1 x2 x3 s0 s1 h) := by
  unfold f_X11_change_128
  refine sim_iconst (0) dX11_change_128 (by decide +kernel) ?_
  exact sim_lv (am_leS (am_leS (am_leS (am_leS am_leT)))) (t_X11_change_129 d (by omega) _ _ _ _ _ _ _ _)
def f_X11_change_124  (a0 : Nat × Nat) (x1 : Int32) (x2 : Int32) (x3 : Int32) (s0 : Int32) (s1 : Option (Nat × Nat)) (h : am_H) : am_R := f_X11_change_129 a0 x1 x2 x3 (1 : Int32) s0 s1 h
theorem t_X11_change_124 (d : Nat) (hd : 1 ≤ d)  (a0 : Nat × Nat) (x1 : Int32) (x2 : Int32) (x3 : Int32) (s0 : Int32) (s1 : Option (Nat × Nat)) (h : am_H) : Sim m_X11_change d 124 [some (.inr (.inr (some a0))), some (.inl x1), some (.inl x2), some (.inl x3)] [.inl s0, .inr (.inr s1)] h (f_X11_change_124  a0 x1 x2 x3 s0 s1 h) := by
  unfold f_X11_change_124
  refine sim_iconst (1) dX11_change_124 (by decide +kernel) ?_
  refine sim_goto 129 dX11_change_125 (by decide) ?_
  exact sim_lv (am_leS (am_leS (am_leS (am_leS am_leT)))) (t_X11_change_129 d (by omega) _ _ _ _ _ _ _ _)
def f_X11_change_100  (a0 : Nat × Nat) (x1 : Int32) (x2 : Int32) (s0 : Int32) (h : am_H) : am_R := m_gR (some a0) 11 41 h fun o15 => if x2 = 0 then (f_X11_change_124 a0 x1 x2 s0 x1 o15 h) else (if x2 ≤ (1 : Int32) then (f_X11_change_128 a0 x1 x2 s0 x1 o15 h) else (m_gR (some a0) 11 41 h fun o16 => m_aI o16 1 x1 h fun v17 => if v17 = 0 then (f_X11_change_128 a0 x1 x2 s0 x1 o15 h) else (f_X11_change_124 a0 x1 x2 s0 x1 o15 h)))
theorem t_X11_change_100 (d : Nat) (hd : 1 ≤ d)  (a0 : Nat × Nat) (x1 : Int32) (x2 : Int32) (s0 : Int32) (h : am_H) : Sim m_X11_change d 100 [some (.inr (.inr (some a0))), some (.inl x1), some (.inl x2), none] [.inl s0] h (f_X11_change_100  a0 x1 x2 s0 h) := by
  unfold f_X11_change_100
  refine sim_istore_n dX11_change_100 (Nat.le_of_ble_eq_true rfl) ?_
  refine sim_aload_n dX11_change_101 rfl ?_
  refine sim_gR 11 41 dX11_change_102 rfl wf_RX11_107 (Nat.le_of_ble_eq_true rfl) rfl (fun o15 => ?_)
  refine sim_iload_n dX11_change_105 rfl ?_
  refine sim_iload_n dX11_change_106 rfl ?_
  refine sim_if_eq 124 dX11_change_107 (by decide) (fun c => ?_) (fun c => ?_)
  · exact sim_lv (am_leS (am_leS (am_leS (am_leS am_leT)))) (t_X11_change_124 d (by omega) _ _ _ _ _ _ _)
  · refine sim_iload_n dX11_change_110 rfl ?_
    refine sim_iconst (1) dX11_change_111 (by decide +kernel) ?_
    refine sim_ic_le 128 dX11_change_112 (by decide) (fun c => ?_) (fun c => ?_)
    · exact sim_lv (am_leS (am_leS (am_leS (am_leS am_leT)))) (t_X11_change_128 d (by omega) _ _ _ _ _ _ _)
    · refine sim_aload_n dX11_change_115 rfl ?_
      refine sim_gR 11 41 dX11_change_116 rfl wf_RX11_107 (Nat.le_of_ble_eq_true rfl) rfl (fun o16 => ?_)
      refine sim_iload_n dX11_change_119 rfl ?_
      refine sim_aZ dX11_change_120 (fun v17 => ?_)
      refine sim_if_eq 128 dX11_change_121 (by decide) (fun c => ?_) (fun c => ?_)
      · exact sim_lv (am_leS (am_leS (am_leS (am_leS am_leT)))) (t_X11_change_128 d (by omega) _ _ _ _ _ _ _)
      · exact sim_lv (am_leS (am_leS (am_leS (am_leS am_leT)))) (t_X11_change_124 d (by omega) _ _ _ _ _ _ _)
def f_X11_change_92  (a0 : Nat × Nat) (x1 : Int32) (x2 : Int32) (s0 : Int32) (s1 : Int32) (h : am_H) : am_R := if s1 = s0 then (f_X11_change_100 a0 x1 x2 (0 : Int32) h) else (f_X11_change_100 a0 x1 x2 (1 : Int32) h)
theorem t_X11_change_92 (d : Nat) (hd : 1 ≤ d)  (a0 : Nat × Nat) (x1 : Int32) (x2 : Int32) (s0 : Int32) (s1 : Int32) (h : am_H) : Sim m_X11_change d 92 [some (.inr (.inr (some a0))), some (.inl x1), some (.inl x2), none] [.inl s0, .inl s1] h (f_X11_change_92  a0 x1 x2 s0 s1 h) := by
  unfold f_X11_change_92
  refine sim_ic_eq 99 dX11_change_92 (by decide) (fun c => ?_) (fun c => ?_)
  · refine sim_iconst (0) dX11_change_99 (by decide +kernel) ?_
    exact sim_lv (am_leS (am_leS (am_leS (am_leN am_leT)))) (t_X11_change_100 d (by omega) _ _ _ _ _)
  · refine sim_iconst (1) dX11_change_95 (by decide +kernel) ?_
    refine sim_goto 100 dX11_change_96 (by decide) ?_
    exact sim_lv (am_leS (am_leS (am_leS (am_leN am_leT)))) (t_X11_change_100 d (by omega) _ _ _ _ _)
def f_X11_change_33  (a0 : Nat × Nat) (x1 : Int32) (x2 : Int32) (s0 : Int32) (s1 : Option (Nat × Nat)) (h : am_H) : am_R := m_ao s1 11 fun a8 => m_bI (f_X11_holds a8 s0 h) fun h6 v7 => if v7 = 0 then (m_rz h6 (0 : Int32)) else (if x2 = (2 : Int32) then (m_gR (some a0) 11 42 h6 fun o13 => m_aI o13 1 x1 h6 fun v14 => f_X11_change_100 a0 x1 x2 v14 h6) else (if x2 = (3 : Int32) then (m_gR (some a0) 11 43 h6 fun o11 => m_aI o11 1 x1 h6 fun v12 => if v12 = 0 then (f_X11_change_100 a0 x1 x2 (1 : Int32) h6) else (f_X11_change_100 a0 x1 x2 (0 : Int32) h6)) else (m_gR (some a0) 11 41 h6 fun o9 => m_aI o9 1 x1 h6 fun v10 => if x2 = 0 then (f_X11_change_92 a0 x1 x2 (1 : Int32) v10 h6) else (f_X11_change_92 a0 x1 x2 (0 : Int32) v10 h6))))
theorem t_X11_change_33 (d : Nat) (hd : 1 ≤ d)  (a0 : Nat × Nat) (x1 : Int32) (x2 : Int32) (s0 : Int32) (s1 : Option (Nat × Nat)) (h : am_H) : Sim m_X11_change d 33 [some (.inr (.inr (some a0))), some (.inl x1), some (.inl x2), none] [.inl s0, .inr (.inr s1)] h (f_X11_change_33  a0 x1 x2 s0 s1 h) := by
  unfold f_X11_change_33
  refine sim_ao1 (fun a8 e => ?_)
  refine sim_virt (d - 1) e dX11_change_33 (k_X11_holds (d - 1) (by omega) _ _ _) q_X11_holds rfl rfl wm_RX11_142 rfl rfl (by omega) (Nat.le_of_ble_eq_true rfl) am_nI (am_rI fun h6 v7 => ?_) am_eI
  refine sim_if_ne 41 dX11_change_36 (by decide) (fun c => ?_) (fun c => ?_)
  · refine sim_iload_n dX11_change_41 rfl ?_
    refine sim_iconst (2) dX11_change_42 (by decide +kernel) ?_
    refine sim_ic_ne 55 dX11_change_43 (by decide) (fun c => ?_) (fun c => ?_)
    · refine sim_iload_n dX11_change_55 rfl ?_
      refine sim_iconst (3) dX11_change_56 (by decide +kernel) ?_
      refine sim_ic_ne 77 dX11_change_57 (by decide) (fun c => ?_) (fun c => ?_)
      · refine sim_aload_n dX11_change_77 rfl ?_
        refine sim_gR 11 41 dX11_change_78 rfl wf_RX11_107 (Nat.le_of_ble_eq_true rfl) rfl (fun o9 => ?_)
        refine sim_iload_n dX11_change_81 rfl ?_
        refine sim_aZ dX11_change_82 (fun v10 => ?_)
        refine sim_iload_n dX11_change_83 rfl ?_
        refine sim_if_ne 91 dX11_change_84 (by decide) (fun c => ?_) (fun c => ?_)
        · refine sim_iconst (0) dX11_change_91 (by decide +kernel) ?_
          exact sim_lv (am_leS (am_leS (am_leS (am_leN am_leT)))) (t_X11_change_92 d (by omega) _ _ _ _ _ _)
        · refine sim_iconst (1) dX11_change_87 (by decide +kernel) ?_
          refine sim_goto 92 dX11_change_88 (by decide) ?_
          exact sim_lv (am_leS (am_leS (am_leS (am_leN am_leT)))) (t_X11_change_92 d (by omega) _ _ _ _ _ _)
      · refine sim_aload_n dX11_change_60 rfl ?_
        refine sim_gR 11 43 dX11_change_61 rfl wf_RX11_113 (Nat.le_of_ble_eq_true rfl) rfl (fun o11 => ?_)
        refine sim_iload_n dX11_change_64 rfl ?_
        refine sim_aZ dX11_change_65 (fun v12 => ?_)
        refine sim_if_ne 73 dX11_change_66 (by decide) (fun c => ?_) (fun c => ?_)
        · refine sim_iconst (0) dX11_change_73 (by decide +kernel) ?_
          refine sim_goto 100 dX11_change_74 (by decide) ?_
          exact sim_lv (am_leS (am_leS (am_leS (am_leN am_leT)))) (t_X11_change_100 d (by omega) _ _ _ _ _)
        · refine sim_iconst (1) dX11_change_69 (by decide +kernel) ?_
          refine sim_goto 100 dX11_change_70 (by decide) ?_
          exact sim_lv (am_leS (am_leS (am_leS (am_leN am_leT)))) (t_X11_change_100 d (by omega) _ _ _ _ _)
    · refine sim_aload_n dX11_change_46 rfl ?_
      refine sim_gR 11 42 dX11_change_47 rfl wf_RX11_110 (Nat.le_of_ble_eq_true rfl) rfl (fun o13 => ?_)
      refine sim_iload_n dX11_change_50 rfl ?_
      refine sim_aZ dX11_change_51 (fun v14 => ?_)
      refine sim_goto 100 dX11_change_52 (by decide) ?_
      exact sim_lv (am_leS (am_leS (am_leS (am_leN am_leT)))) (t_X11_change_100 d (by omega) _ _ _ _ _)
  · refine sim_iconst (0) dX11_change_39 (by decide +kernel) ?_
    exact sim_zret dX11_change_40 rfl
def f_X11_change (a0 : Nat × Nat) (x1 : Int32) (x2 : Int32) (h : am_H) : am_R := m_gI (some a0) 11 37 h fun v1 => m_bI (f_X11_in x1 (0 : Int32) (v1 - (1 : Int32)) h) fun h2 v3 => if v3 = 0 then (f_X11_change_33 a0 x1 x2 (1 : Int32) (some a0) h2) else (m_bI (f_X11_in x2 (0 : Int32) (3 : Int32) h2) fun h4 v5 => if v5 = 0 then (f_X11_change_33 a0 x1 x2 (2 : Int32) (some a0) h4) else (f_X11_change_33 a0 x1 x2 (0 : Int32) (some a0) h4))
theorem k_X11_change (d : Nat) (hd : 1 ≤ d) (a0 : Nat × Nat) (x1 : Int32) (x2 : Int32) (h : am_H) : am_Con m_X11_change d [.inr (.inr (some a0)), .inl x1, .inl x2] h (f_X11_change a0 x1 x2 h) := am_con (by decide +kernel) (Nat.le_of_ble_eq_true rfl) (by
  unfold f_X11_change
  refine sim_aload_n dX11_change_0 rfl ?_
  refine sim_iload_n dX11_change_1 rfl ?_
  refine sim_iconst (0) dX11_change_2 (by decide +kernel) ?_
  refine sim_aload_n dX11_change_3 rfl ?_
  refine sim_gI 11 37 dX11_change_4 rfl wf_RX11_248 (Nat.le_of_ble_eq_true rfl) rfl (fun v1 => ?_)
  refine sim_iconst (1) dX11_change_7 (by decide +kernel) ?_
  refine sim_isub dX11_change_8 ?_
  refine sim_static (d - 1) dX11_change_9 (k_X11_in (d - 1) (by omega) _ _ _ _) q_X11_in wm_RX11_129 rfl rfl (by omega) (Nat.le_of_ble_eq_true rfl) am_nI (am_rI fun h2 v3 => ?_) am_eI
  refine sim_if_ne 19 dX11_change_12 (by decide) (fun c => ?_) (fun c => ?_)
  · refine sim_iload_n dX11_change_19 rfl ?_
    refine sim_iconst (0) dX11_change_20 (by decide +kernel) ?_
    refine sim_iconst (3) dX11_change_21 (by decide +kernel) ?_
    refine sim_static (d - 1) dX11_change_22 (k_X11_in (d - 1) (by omega) _ _ _ _) q_X11_in wm_RX11_129 rfl rfl (by omega) (Nat.le_of_ble_eq_true rfl) am_nI (am_rI fun h4 v5 => ?_) am_eI
    refine sim_if_eq 32 dX11_change_25 (by decide) (fun c => ?_) (fun c => ?_)
    · refine sim_iconst (2) dX11_change_32 (by decide +kernel) ?_
      exact sim_lv (am_leS (am_leS (am_leS (am_leN am_leT)))) (t_X11_change_33 d (by omega) _ _ _ _ _ _)
    · refine sim_iconst (0) dX11_change_28 (by decide +kernel) ?_
      refine sim_goto 33 dX11_change_29 (by decide) ?_
      exact sim_lv (am_leS (am_leS (am_leS (am_leN am_leT)))) (t_X11_change_33 d (by omega) _ _ _ _ _ _)
  · refine sim_iconst (1) dX11_change_15 (by decide +kernel) ?_
    refine sim_goto 33 dX11_change_16 (by decide) ?_
    exact sim_lv (am_leS (am_leS (am_leS (am_leN am_leT)))) (t_X11_change_33 d (by omega) _ _ _ _ _ _))
theorem q_X11_change : am_Cal m_X11_change 2 2 := ⟨am_mem 1500 (w := Cond.code yX11_change cX11_change 4 (some .boolean)) (by decide +kernel) rfl, am_mem 64 (w := Cond.initialized RX11) (by decide +kernel) rfl, fun z => absurd z (by decide), fun _ => am_mem 1498 (w := Cond.instanceMethod yX11_change) (by decide +kernel) rfl, fun z => absurd z (by decide), fun _ => am_mem 1499 (w := Cond.selects RX11 yX11_change yX11_change) (by decide +kernel) rfl, by decide +kernel, by decide +kernel, Nat.le_of_ble_eq_true rfl⟩
theorem dX11_isWork_0 : decode cX11_isWork 0 = .ok (.iload_n 1, 1) := by decide +kernel
theorem dX11_isWork_1 : decode cX11_isWork 1 = .ok (.iconst 0, 1) := by decide +kernel
theorem dX11_isWork_2 : decode cX11_isWork 2 = .ok (.aload_n 0, 1) := by decide +kernel
theorem dX11_isWork_3 : decode cX11_isWork 3 = .ok (.getfield 133, 3) := by decide +kernel
theorem dX11_isWork_6 : decode cX11_isWork 6 = .ok (.iconst 1, 1) := by decide +kernel
theorem dX11_isWork_7 : decode cX11_isWork 7 = .ok (.isub, 1) := by decide +kernel
theorem dX11_isWork_8 : decode cX11_isWork 8 = .ok (.invokestatic 129, 3) := by decide +kernel
theorem dX11_isWork_11 : decode cX11_isWork 11 = .ok (.ireturn, 1) := by decide +kernel
abbrev m_X11_isWork : am_M := (yX11_isWork, cX11_isWork, 2, some .boolean, [])
def f_X11_isWork (a0 : Nat × Nat) (x1 : Int32) (h : am_H) : am_R := m_gI (some a0) 11 4 h fun v1 => m_bI (f_X11_in x1 (0 : Int32) (v1 - (1 : Int32)) h) fun h2 v3 => m_rz h2 v3
theorem k_X11_isWork (d : Nat) (hd : 1 ≤ d) (a0 : Nat × Nat) (x1 : Int32) (h : am_H) : am_Con m_X11_isWork d [.inr (.inr (some a0)), .inl x1] h (f_X11_isWork a0 x1 h) := am_con (by decide +kernel) (Nat.le_of_ble_eq_true rfl) (by
  unfold f_X11_isWork
  refine sim_iload_n dX11_isWork_0 rfl ?_
  refine sim_iconst (0) dX11_isWork_1 (by decide +kernel) ?_
  refine sim_aload_n dX11_isWork_2 rfl ?_
  refine sim_gI 11 4 dX11_isWork_3 rfl wf_RX11_133 (Nat.le_of_ble_eq_true rfl) rfl (fun v1 => ?_)
  refine sim_iconst (1) dX11_isWork_6 (by decide +kernel) ?_
  refine sim_isub dX11_isWork_7 ?_
  refine sim_static (d - 1) dX11_isWork_8 (k_X11_in (d - 1) (by omega) _ _ _ _) q_X11_in wm_RX11_129 rfl rfl (by omega) (Nat.le_of_ble_eq_true rfl) am_nI (am_rI fun h2 v3 => ?_) am_eI
  exact sim_zret dX11_isWork_11 rfl)
theorem q_X11_isWork : am_Cal m_X11_isWork 1 2 := ⟨am_mem 1284 (w := Cond.code yX11_isWork cX11_isWork 2 (some .boolean)) (by decide +kernel) rfl, am_mem 64 (w := Cond.initialized RX11) (by decide +kernel) rfl, fun z => absurd z (by decide), fun _ => am_mem 1283 (w := Cond.instanceMethod yX11_isWork) (by decide +kernel) rfl, fun z => absurd z (by decide), fun _ => am_mem 30 (w := Cond.selects RX11 yX11_isWork yX11_isWork) (by decide +kernel) rfl, by decide +kernel, by decide +kernel, Nat.le_of_ble_eq_true rfl⟩
theorem dX11_chapter_0 : decode cX11_chapter 0 = .ok (.aload_n 0, 1) := by decide +kernel
theorem dX11_chapter_1 : decode cX11_chapter 1 = .ok (.iload_n 1, 1) := by decide +kernel
theorem dX11_chapter_2 : decode cX11_chapter 2 = .ok (.invokevirtual 152, 3) := by decide +kernel
theorem dX11_chapter_5 : decode cX11_chapter 5 = .ok (.istore_n 2, 1) := by decide +kernel
theorem dX11_chapter_6 : decode cX11_chapter 6 = .ok (.aload_n 0, 1) := by decide +kernel
theorem dX11_chapter_7 : decode cX11_chapter 7 = .ok (.iload_n 2, 1) := by decide +kernel
theorem dX11_chapter_8 : decode cX11_chapter 8 = .ok (.ifCond .ne 7, 3) := by decide +kernel
theorem dX11_chapter_11 : decode cX11_chapter 11 = .ok (.iconst 1, 1) := by decide +kernel
theorem dX11_chapter_12 : decode cX11_chapter 12 = .ok (.goto 19, 3) := by decide +kernel
theorem dX11_chapter_15 : decode cX11_chapter 15 = .ok (.aload_n 0, 1) := by decide +kernel
theorem dX11_chapter_16 : decode cX11_chapter 16 = .ok (.getfield 23, 3) := by decide +kernel
theorem dX11_chapter_19 : decode cX11_chapter 19 = .ok (.iload_n 1, 1) := by decide +kernel
theorem dX11_chapter_20 : decode cX11_chapter 20 = .ok (.iaload, 1) := by decide +kernel
theorem dX11_chapter_21 : decode cX11_chapter 21 = .ok (.bipush 8, 2) := by decide +kernel
theorem dX11_chapter_23 : decode cX11_chapter 23 = .ok (.if_icmp .ne 7, 3) := by decide +kernel
theorem dX11_chapter_26 : decode cX11_chapter 26 = .ok (.iconst 2, 1) := by decide +kernel
theorem dX11_chapter_27 : decode cX11_chapter 27 = .ok (.goto 4, 3) := by decide +kernel
theorem dX11_chapter_30 : decode cX11_chapter 30 = .ok (.iconst 0, 1) := by decide +kernel
theorem dX11_chapter_31 : decode cX11_chapter 31 = .ok (.invokevirtual 142, 3) := by decide +kernel
theorem dX11_chapter_34 : decode cX11_chapter 34 = .ok (.ifCond .ne 5, 3) := by decide +kernel
theorem dX11_chapter_37 : decode cX11_chapter 37 = .ok (.iconst 0, 1) := by decide +kernel
theorem dX11_chapter_38 : decode cX11_chapter 38 = .ok (.ireturn, 1) := by decide +kernel
theorem dX11_chapter_39 : decode cX11_chapter 39 = .ok (.aload_n 0, 1) := by decide +kernel
theorem dX11_chapter_40 : decode cX11_chapter 40 = .ok (.getfield 26, 3) := by decide +kernel
theorem dX11_chapter_43 : decode cX11_chapter 43 = .ok (.bipush 8, 2) := by decide +kernel
theorem dX11_chapter_45 : decode cX11_chapter 45 = .ok (.iload_n 1, 1) := by decide +kernel
theorem dX11_chapter_46 : decode cX11_chapter 46 = .ok (.imul, 1) := by decide +kernel
theorem dX11_chapter_47 : decode cX11_chapter 47 = .ok (.aload_n 0, 1) := by decide +kernel
theorem dX11_chapter_48 : decode cX11_chapter 48 = .ok (.getfield 23, 3) := by decide +kernel
theorem dX11_chapter_51 : decode cX11_chapter 51 = .ok (.iload_n 1, 1) := by decide +kernel
theorem dX11_chapter_52 : decode cX11_chapter 52 = .ok (.iaload, 1) := by decide +kernel
theorem dX11_chapter_53 : decode cX11_chapter 53 = .ok (.iadd, 1) := by decide +kernel
theorem dX11_chapter_54 : decode cX11_chapter 54 = .ok (.aload_n 0, 1) := by decide +kernel
theorem dX11_chapter_55 : decode cX11_chapter 55 = .ok (.getfield 139, 3) := by decide +kernel
theorem dX11_chapter_58 : decode cX11_chapter 58 = .ok (.iastore, 1) := by decide +kernel
theorem dX11_chapter_59 : decode cX11_chapter 59 = .ok (.aload_n 0, 1) := by decide +kernel
theorem dX11_chapter_60 : decode cX11_chapter 60 = .ok (.getfield 23, 3) := by decide +kernel
theorem dX11_chapter_63 : decode cX11_chapter 63 = .ok (.iload_n 1, 1) := by decide +kernel
theorem dX11_chapter_64 : decode cX11_chapter 64 = .ok (.dup2, 1) := by decide +kernel
theorem dX11_chapter_65 : decode cX11_chapter 65 = .ok (.iaload, 1) := by decide +kernel
theorem dX11_chapter_66 : decode cX11_chapter 66 = .ok (.iconst 1, 1) := by decide +kernel
theorem dX11_chapter_67 : decode cX11_chapter 67 = .ok (.iadd, 1) := by decide +kernel
theorem dX11_chapter_68 : decode cX11_chapter 68 = .ok (.iastore, 1) := by decide +kernel
theorem dX11_chapter_69 : decode cX11_chapter 69 = .ok (.aload_n 0, 1) := by decide +kernel
theorem dX11_chapter_70 : decode cX11_chapter 70 = .ok (.getfield 23, 3) := by decide +kernel
theorem dX11_chapter_73 : decode cX11_chapter 73 = .ok (.iload_n 1, 1) := by decide +kernel
theorem dX11_chapter_74 : decode cX11_chapter 74 = .ok (.iaload, 1) := by decide +kernel
theorem dX11_chapter_75 : decode cX11_chapter 75 = .ok (.iconst 1, 1) := by decide +kernel
theorem dX11_chapter_76 : decode cX11_chapter 76 = .ok (.isub, 1) := by decide +kernel
theorem dX11_chapter_77 : decode cX11_chapter 77 = .ok (.ireturn, 1) := by decide +kernel
abbrev m_X11_chapter : am_M := (yX11_chapter, cX11_chapter, 3, some .int, [])
def f_X11_chapter_31  (a0 : Nat × Nat) (x1 : Int32) (s0 : Int32) (s1 : Option (Nat × Nat)) (h : am_H) : am_R := m_ao s1 11 fun a8 => m_bI (f_X11_holds a8 s0 h) fun h6 v7 => if v7 = 0 then (m_ri h6 (0 : Int32)) else (m_gR (some a0) 11 8 h6 fun o9 => m_gR (some a0) 11 7 h6 fun o10 => m_aI o10 0 x1 h6 fun v11 => m_gI (some a0) 11 1 h6 fun v12 => m_sI o9 (((8 : Int32) * x1) + v11) v12 h6 fun h13 => m_gR (some a0) 11 7 h13 fun o14 => m_aI o14 0 x1 h13 fun v15 => m_sI o14 x1 (v15 + (1 : Int32)) h13 fun h16 => m_gR (some a0) 11 7 h16 fun o17 => m_aI o17 0 x1 h16 fun v18 => m_ri h16 (v18 - (1 : Int32)))
theorem t_X11_chapter_31 (d : Nat) (hd : 2 ≤ d)  (a0 : Nat × Nat) (x1 : Int32) (s0 : Int32) (s1 : Option (Nat × Nat)) (h : am_H) : Sim m_X11_chapter d 31 [some (.inr (.inr (some a0))), some (.inl x1), none] [.inl s0, .inr (.inr s1)] h (f_X11_chapter_31  a0 x1 s0 s1 h) := by
  unfold f_X11_chapter_31
  refine sim_ao1 (fun a8 e => ?_)
  refine sim_virt (d - 1) e dX11_chapter_31 (k_X11_holds (d - 1) (by omega) _ _ _) q_X11_holds rfl rfl wm_RX11_142 rfl rfl (by omega) (Nat.le_of_ble_eq_true rfl) am_nI (am_rI fun h6 v7 => ?_) am_eI
  refine sim_if_ne 39 dX11_chapter_34 (by decide) (fun c => ?_) (fun c => ?_)
  · refine sim_aload_n dX11_chapter_39 rfl ?_
    refine sim_gR 11 8 dX11_chapter_40 rfl wf_RX11_26 (Nat.le_of_ble_eq_true rfl) rfl (fun o9 => ?_)
    refine sim_bipush (8) dX11_chapter_43 (by decide +kernel) ?_
    refine sim_iload_n dX11_chapter_45 rfl ?_
    refine sim_imul dX11_chapter_46 ?_
    refine sim_aload_n dX11_chapter_47 rfl ?_
    refine sim_gR 11 7 dX11_chapter_48 rfl wf_RX11_23 (Nat.le_of_ble_eq_true rfl) rfl (fun o10 => ?_)
    refine sim_iload_n dX11_chapter_51 rfl ?_
    refine sim_aI dX11_chapter_52 (fun v11 => ?_)
    refine sim_iadd dX11_chapter_53 ?_
    refine sim_aload_n dX11_chapter_54 rfl ?_
    refine sim_gI 11 1 dX11_chapter_55 rfl wf_RX11_139 (Nat.le_of_ble_eq_true rfl) rfl (fun v12 => ?_)
    refine sim_sI dX11_chapter_58 (fun h13 => ?_)
    refine sim_aload_n dX11_chapter_59 rfl ?_
    refine sim_gR 11 7 dX11_chapter_60 rfl wf_RX11_23 (Nat.le_of_ble_eq_true rfl) rfl (fun o14 => ?_)
    refine sim_iload_n dX11_chapter_63 rfl ?_
    refine sim_dup2 dX11_chapter_64 ?_
    refine sim_aI dX11_chapter_65 (fun v15 => ?_)
    refine sim_iconst (1) dX11_chapter_66 (by decide +kernel) ?_
    refine sim_iadd dX11_chapter_67 ?_
    refine sim_sI dX11_chapter_68 (fun h16 => ?_)
    refine sim_aload_n dX11_chapter_69 rfl ?_
    refine sim_gR 11 7 dX11_chapter_70 rfl wf_RX11_23 (Nat.le_of_ble_eq_true rfl) rfl (fun o17 => ?_)
    refine sim_iload_n dX11_chapter_73 rfl ?_
    refine sim_aI dX11_chapter_74 (fun v18 => ?_)
    refine sim_iconst (1) dX11_chapter_75 (by decide +kernel) ?_
    refine sim_isub dX11_chapter_76 ?_
    exact sim_iret dX11_chapter_77 rfl
  · refine sim_iconst (0) dX11_chapter_37 (by decide +kernel) ?_
    exact sim_iret dX11_chapter_38 rfl
def f_X11_chapter (a0 : Nat × Nat) (x1 : Int32) (h : am_H) : am_R := m_ao (some a0) 11 fun a3 => m_bI (f_X11_isWork a3 x1 h) fun h1 v2 => if v2 = 0 then (f_X11_chapter_31 a0 x1 (1 : Int32) (some a0) h1) else (m_gR (some a0) 11 7 h1 fun o4 => m_aI o4 0 x1 h1 fun v5 => if v5 = (8 : Int32) then (f_X11_chapter_31 a0 x1 (2 : Int32) (some a0) h1) else (f_X11_chapter_31 a0 x1 (0 : Int32) (some a0) h1))
theorem k_X11_chapter (d : Nat) (hd : 2 ≤ d) (a0 : Nat × Nat) (x1 : Int32) (h : am_H) : am_Con m_X11_chapter d [.inr (.inr (some a0)), .inl x1] h (f_X11_chapter a0 x1 h) := am_con (by decide +kernel) (Nat.le_of_ble_eq_true rfl) (by
  unfold f_X11_chapter
  refine sim_aload_n dX11_chapter_0 rfl ?_
  refine sim_iload_n dX11_chapter_1 rfl ?_
  refine sim_ao1 (fun a3 e => ?_)
  refine sim_virt (d - 1) e dX11_chapter_2 (k_X11_isWork (d - 1) (by omega) _ _ _) q_X11_isWork rfl rfl wm_RX11_152 rfl rfl (by omega) (Nat.le_of_ble_eq_true rfl) am_nI (am_rI fun h1 v2 => ?_) am_eI
  refine sim_istore_n dX11_chapter_5 (Nat.le_of_ble_eq_true rfl) ?_
  refine sim_aload_n dX11_chapter_6 rfl ?_
  refine sim_iload_n dX11_chapter_7 rfl ?_
  refine sim_if_ne 15 dX11_chapter_8 (by decide) (fun c => ?_) (fun c => ?_)
  · refine sim_aload_n dX11_chapter_15 rfl ?_
    refine sim_gR 11 7 dX11_chapter_16 rfl wf_RX11_23 (Nat.le_of_ble_eq_true rfl) rfl (fun o4 => ?_)
    refine sim_iload_n dX11_chapter_19 rfl ?_
    refine sim_aI dX11_chapter_20 (fun v5 => ?_)
    refine sim_bipush (8) dX11_chapter_21 (by decide +kernel) ?_
    refine sim_ic_ne 30 dX11_chapter_23 (by decide) (fun c => ?_) (fun c => ?_)
    · refine sim_iconst (0) dX11_chapter_30 (by decide +kernel) ?_
      exact sim_lv (am_leS (am_leS (am_leN am_leT))) (t_X11_chapter_31 d (by omega) _ _ _ _ _)
    · refine sim_iconst (2) dX11_chapter_26 (by decide +kernel) ?_
      refine sim_goto 31 dX11_chapter_27 (by decide) ?_
      exact sim_lv (am_leS (am_leS (am_leN am_leT))) (t_X11_chapter_31 d (by omega) _ _ _ _ _)
  · refine sim_iconst (1) dX11_chapter_11 (by decide +kernel) ?_
    refine sim_goto 31 dX11_chapter_12 (by decide) ?_
    exact sim_lv (am_leS (am_leS (am_leN am_leT))) (t_X11_chapter_31 d (by omega) _ _ _ _ _))
theorem q_X11_chapter : am_Cal m_X11_chapter 1 2 := ⟨am_mem 1298 (w := Cond.code yX11_chapter cX11_chapter 3 (some .int)) (by decide +kernel) rfl, am_mem 64 (w := Cond.initialized RX11) (by decide +kernel) rfl, fun z => absurd z (by decide), fun _ => am_mem 1296 (w := Cond.instanceMethod yX11_chapter) (by decide +kernel) rfl, fun z => absurd z (by decide), fun _ => am_mem 1297 (w := Cond.selects RX11 yX11_chapter yX11_chapter) (by decide +kernel) rfl, by decide +kernel, by decide +kernel, Nat.le_of_ble_eq_true rfl⟩
theorem dX11_collect_0 : decode cX11_collect 0 = .ok (.aload_n 0, 1) := by decide +kernel
theorem dX11_collect_1 : decode cX11_collect 1 = .ok (.iload_n 1, 1) := by decide +kernel
theorem dX11_collect_2 : decode cX11_collect 2 = .ok (.invokevirtual 152, 3) := by decide +kernel
theorem dX11_collect_5 : decode cX11_collect 5 = .ok (.ifCond .eq 21, 3) := by decide +kernel
theorem dX11_collect_8 : decode cX11_collect 8 = .ok (.iload_n 2, 1) := by decide +kernel
theorem dX11_collect_9 : decode cX11_collect 9 = .ok (.iconst 0, 1) := by decide +kernel
theorem dX11_collect_10 : decode cX11_collect 10 = .ok (.aload_n 0, 1) := by decide +kernel
theorem dX11_collect_11 : decode cX11_collect 11 = .ok (.getfield 163, 3) := by decide +kernel
theorem dX11_collect_14 : decode cX11_collect 14 = .ok (.iconst 1, 1) := by decide +kernel
theorem dX11_collect_15 : decode cX11_collect 15 = .ok (.isub, 1) := by decide +kernel
theorem dX11_collect_16 : decode cX11_collect 16 = .ok (.invokestatic 129, 3) := by decide +kernel
theorem dX11_collect_19 : decode cX11_collect 19 = .ok (.ifCond .eq 7, 3) := by decide +kernel
theorem dX11_collect_22 : decode cX11_collect 22 = .ok (.iconst 1, 1) := by decide +kernel
theorem dX11_collect_23 : decode cX11_collect 23 = .ok (.goto 4, 3) := by decide +kernel
theorem dX11_collect_26 : decode cX11_collect 26 = .ok (.iconst 0, 1) := by decide +kernel
theorem dX11_collect_27 : decode cX11_collect 27 = .ok (.istore_n 3, 1) := by decide +kernel
theorem dX11_collect_28 : decode cX11_collect 28 = .ok (.aload_n 0, 1) := by decide +kernel
theorem dX11_collect_29 : decode cX11_collect 29 = .ok (.iload_n 3, 1) := by decide +kernel
theorem dX11_collect_30 : decode cX11_collect 30 = .ok (.ifCond .ne 7, 3) := by decide +kernel
theorem dX11_collect_33 : decode cX11_collect 33 = .ok (.iconst 1, 1) := by decide +kernel
theorem dX11_collect_34 : decode cX11_collect 34 = .ok (.goto 18, 3) := by decide +kernel
theorem dX11_collect_37 : decode cX11_collect 37 = .ok (.aload_n 0, 1) := by decide +kernel
theorem dX11_collect_38 : decode cX11_collect 38 = .ok (.getfield 35, 3) := by decide +kernel
theorem dX11_collect_41 : decode cX11_collect 41 = .ok (.iload_n 1, 1) := by decide +kernel
theorem dX11_collect_42 : decode cX11_collect 42 = .ok (.iaload, 1) := by decide +kernel
theorem dX11_collect_43 : decode cX11_collect 43 = .ok (.iconst (-1), 1) := by decide +kernel
theorem dX11_collect_44 : decode cX11_collect 44 = .ok (.if_icmp .eq 7, 3) := by decide +kernel
theorem dX11_collect_47 : decode cX11_collect 47 = .ok (.iconst 2, 1) := by decide +kernel
theorem dX11_collect_48 : decode cX11_collect 48 = .ok (.goto 4, 3) := by decide +kernel
theorem dX11_collect_51 : decode cX11_collect 51 = .ok (.iconst 0, 1) := by decide +kernel
theorem dX11_collect_52 : decode cX11_collect 52 = .ok (.invokevirtual 142, 3) := by decide +kernel
theorem dX11_collect_55 : decode cX11_collect 55 = .ok (.ifCond .eq 10, 3) := by decide +kernel
theorem dX11_collect_58 : decode cX11_collect 58 = .ok (.aload_n 0, 1) := by decide +kernel
theorem dX11_collect_59 : decode cX11_collect 59 = .ok (.getfield 35, 3) := by decide +kernel
theorem dX11_collect_62 : decode cX11_collect 62 = .ok (.iload_n 1, 1) := by decide +kernel
theorem dX11_collect_63 : decode cX11_collect 63 = .ok (.iload_n 2, 1) := by decide +kernel
theorem dX11_collect_64 : decode cX11_collect 64 = .ok (.iastore, 1) := by decide +kernel
theorem dX11_collect_65 : decode cX11_collect 65 = .ok (.return_, 1) := by decide +kernel
abbrev m_X11_collect : am_M := (yX11_collect, cX11_collect, 4, none, [])
def f_X11_collect_65   (h : am_H) : am_R := m_rt h none
theorem t_X11_collect_65 (d : Nat) (hd : 2 ≤ d)   (h : am_H) : Sim m_X11_collect d 65 [none, none, none, none] [] h (f_X11_collect_65   h) := by
  unfold f_X11_collect_65
  exact sim_vret dX11_collect_65 rfl
def f_X11_collect_52  (a0 : Nat × Nat) (x1 : Int32) (x2 : Int32) (s0 : Int32) (s1 : Option (Nat × Nat)) (h : am_H) : am_R := m_ao s1 11 fun a11 => m_bI (f_X11_holds a11 s0 h) fun h9 v10 => if v10 = 0 then (f_X11_collect_65 h9) else (m_gR (some a0) 11 11 h9 fun o12 => m_sI o12 x1 x2 h9 fun h13 => f_X11_collect_65 h13)
theorem t_X11_collect_52 (d : Nat) (hd : 2 ≤ d)  (a0 : Nat × Nat) (x1 : Int32) (x2 : Int32) (s0 : Int32) (s1 : Option (Nat × Nat)) (h : am_H) : Sim m_X11_collect d 52 [some (.inr (.inr (some a0))), some (.inl x1), some (.inl x2), none] [.inl s0, .inr (.inr s1)] h (f_X11_collect_52  a0 x1 x2 s0 s1 h) := by
  unfold f_X11_collect_52
  refine sim_ao1 (fun a11 e => ?_)
  refine sim_virt (d - 1) e dX11_collect_52 (k_X11_holds (d - 1) (by omega) _ _ _) q_X11_holds rfl rfl wm_RX11_142 rfl rfl (by omega) (Nat.le_of_ble_eq_true rfl) am_nI (am_rI fun h9 v10 => ?_) am_eI
  refine sim_if_eq 65 dX11_collect_55 (by decide) (fun c => ?_) (fun c => ?_)
  · exact sim_lv (am_leN (am_leN (am_leN (am_leN am_leT)))) (t_X11_collect_65 d (by omega) _)
  · refine sim_aload_n dX11_collect_58 rfl ?_
    refine sim_gR 11 11 dX11_collect_59 rfl wf_RX11_35 (Nat.le_of_ble_eq_true rfl) rfl (fun o12 => ?_)
    refine sim_iload_n dX11_collect_62 rfl ?_
    refine sim_iload_n dX11_collect_63 rfl ?_
    refine sim_sI dX11_collect_64 (fun h13 => ?_)
    exact sim_lv (am_leN (am_leN (am_leN (am_leN am_leT)))) (t_X11_collect_65 d (by omega) _)
def f_X11_collect_27  (a0 : Nat × Nat) (x1 : Int32) (x2 : Int32) (s0 : Int32) (h : am_H) : am_R := if s0 = 0 then (f_X11_collect_52 a0 x1 x2 (1 : Int32) (some a0) h) else (m_gR (some a0) 11 11 h fun o7 => m_aI o7 0 x1 h fun v8 => if v8 = (-1 : Int32) then (f_X11_collect_52 a0 x1 x2 (0 : Int32) (some a0) h) else (f_X11_collect_52 a0 x1 x2 (2 : Int32) (some a0) h))
theorem t_X11_collect_27 (d : Nat) (hd : 2 ≤ d)  (a0 : Nat × Nat) (x1 : Int32) (x2 : Int32) (s0 : Int32) (h : am_H) : Sim m_X11_collect d 27 [some (.inr (.inr (some a0))), some (.inl x1), some (.inl x2), none] [.inl s0] h (f_X11_collect_27  a0 x1 x2 s0 h) := by
  unfold f_X11_collect_27
  refine sim_istore_n dX11_collect_27 (Nat.le_of_ble_eq_true rfl) ?_
  refine sim_aload_n dX11_collect_28 rfl ?_
  refine sim_iload_n dX11_collect_29 rfl ?_
  refine sim_if_ne 37 dX11_collect_30 (by decide) (fun c => ?_) (fun c => ?_)
  · refine sim_aload_n dX11_collect_37 rfl ?_
    refine sim_gR 11 11 dX11_collect_38 rfl wf_RX11_35 (Nat.le_of_ble_eq_true rfl) rfl (fun o7 => ?_)
    refine sim_iload_n dX11_collect_41 rfl ?_
    refine sim_aI dX11_collect_42 (fun v8 => ?_)
    refine sim_iconst (-1) dX11_collect_43 (by decide +kernel) ?_
    refine sim_ic_eq 51 dX11_collect_44 (by decide) (fun c => ?_) (fun c => ?_)
    · refine sim_iconst (0) dX11_collect_51 (by decide +kernel) ?_
      exact sim_lv (am_leS (am_leS (am_leS (am_leN am_leT)))) (t_X11_collect_52 d (by omega) _ _ _ _ _ _)
    · refine sim_iconst (2) dX11_collect_47 (by decide +kernel) ?_
      refine sim_goto 52 dX11_collect_48 (by decide) ?_
      exact sim_lv (am_leS (am_leS (am_leS (am_leN am_leT)))) (t_X11_collect_52 d (by omega) _ _ _ _ _ _)
  · refine sim_iconst (1) dX11_collect_33 (by decide +kernel) ?_
    refine sim_goto 52 dX11_collect_34 (by decide) ?_
    exact sim_lv (am_leS (am_leS (am_leS (am_leN am_leT)))) (t_X11_collect_52 d (by omega) _ _ _ _ _ _)
def f_X11_collect_26  (a0 : Nat × Nat) (x1 : Int32) (x2 : Int32) (h : am_H) : am_R := f_X11_collect_27 a0 x1 x2 (0 : Int32) h
theorem t_X11_collect_26 (d : Nat) (hd : 2 ≤ d)  (a0 : Nat × Nat) (x1 : Int32) (x2 : Int32) (h : am_H) : Sim m_X11_collect d 26 [some (.inr (.inr (some a0))), some (.inl x1), some (.inl x2), none] [] h (f_X11_collect_26  a0 x1 x2 h) := by
  unfold f_X11_collect_26
  refine sim_iconst (0) dX11_collect_26 (by decide +kernel) ?_
  exact sim_lv (am_leS (am_leS (am_leS (am_leN am_leT)))) (t_X11_collect_27 d (by omega) _ _ _ _ _)
def f_X11_collect (a0 : Nat × Nat) (x1 : Int32) (x2 : Int32) (h : am_H) : am_R := m_ao (some a0) 11 fun a3 => m_bI (f_X11_isWork a3 x1 h) fun h1 v2 => if v2 = 0 then (f_X11_collect_26 a0 x1 x2 h1) else (m_gI (some a0) 11 17 h1 fun v4 => m_bI (f_X11_in x2 (0 : Int32) (v4 - (1 : Int32)) h1) fun h5 v6 => if v6 = 0 then (f_X11_collect_26 a0 x1 x2 h5) else (f_X11_collect_27 a0 x1 x2 (1 : Int32) h5))
theorem k_X11_collect (d : Nat) (hd : 2 ≤ d) (a0 : Nat × Nat) (x1 : Int32) (x2 : Int32) (h : am_H) : am_Con m_X11_collect d [.inr (.inr (some a0)), .inl x1, .inl x2] h (f_X11_collect a0 x1 x2 h) := am_con (by decide +kernel) (Nat.le_of_ble_eq_true rfl) (by
  unfold f_X11_collect
  refine sim_aload_n dX11_collect_0 rfl ?_
  refine sim_iload_n dX11_collect_1 rfl ?_
  refine sim_ao1 (fun a3 e => ?_)
  refine sim_virt (d - 1) e dX11_collect_2 (k_X11_isWork (d - 1) (by omega) _ _ _) q_X11_isWork rfl rfl wm_RX11_152 rfl rfl (by omega) (Nat.le_of_ble_eq_true rfl) am_nI (am_rI fun h1 v2 => ?_) am_eI
  refine sim_if_eq 26 dX11_collect_5 (by decide) (fun c => ?_) (fun c => ?_)
  · exact sim_lv (am_leS (am_leS (am_leS (am_leN am_leT)))) (t_X11_collect_26 d (by omega) _ _ _ _)
  · refine sim_iload_n dX11_collect_8 rfl ?_
    refine sim_iconst (0) dX11_collect_9 (by decide +kernel) ?_
    refine sim_aload_n dX11_collect_10 rfl ?_
    refine sim_gI 11 17 dX11_collect_11 rfl wf_RX11_163 (Nat.le_of_ble_eq_true rfl) rfl (fun v4 => ?_)
    refine sim_iconst (1) dX11_collect_14 (by decide +kernel) ?_
    refine sim_isub dX11_collect_15 ?_
    refine sim_static (d - 1) dX11_collect_16 (k_X11_in (d - 1) (by omega) _ _ _ _) q_X11_in wm_RX11_129 rfl rfl (by omega) (Nat.le_of_ble_eq_true rfl) am_nI (am_rI fun h5 v6 => ?_) am_eI
    refine sim_if_eq 26 dX11_collect_19 (by decide) (fun c => ?_) (fun c => ?_)
    · exact sim_lv (am_leS (am_leS (am_leS (am_leN am_leT)))) (t_X11_collect_26 d (by omega) _ _ _ _)
    · refine sim_iconst (1) dX11_collect_22 (by decide +kernel) ?_
      refine sim_goto 27 dX11_collect_23 (by decide) ?_
      exact sim_lv (am_leS (am_leS (am_leS (am_leN am_leT)))) (t_X11_collect_27 d (by omega) _ _ _ _ _))
theorem q_X11_collect : am_Cal m_X11_collect 2 2 := ⟨am_mem 1314 (w := Cond.code yX11_collect cX11_collect 4 none) (by decide +kernel) rfl, am_mem 64 (w := Cond.initialized RX11) (by decide +kernel) rfl, fun z => absurd z (by decide), fun _ => am_mem 1312 (w := Cond.instanceMethod yX11_collect) (by decide +kernel) rfl, fun z => absurd z (by decide), fun _ => am_mem 1313 (w := Cond.selects RX11 yX11_collect yX11_collect) (by decide +kernel) rfl, by decide +kernel, by decide +kernel, Nat.le_of_ble_eq_true rfl⟩
theorem dX11_collection_0 : decode cX11_collection 0 = .ok (.iload_n 1, 1) := by decide +kernel
theorem dX11_collection_1 : decode cX11_collection 1 = .ok (.iconst 0, 1) := by decide +kernel
theorem dX11_collection_2 : decode cX11_collection 2 = .ok (.sipush 2000, 3) := by decide +kernel
theorem dX11_collection_5 : decode cX11_collection 5 = .ok (.invokestatic 129, 3) := by decide +kernel
theorem dX11_collection_8 : decode cX11_collection 8 = .ok (.ifCond .eq 18, 3) := by decide +kernel
theorem dX11_collection_11 : decode cX11_collection 11 = .ok (.iload_n 2, 1) := by decide +kernel
theorem dX11_collection_12 : decode cX11_collection 12 = .ok (.iload_n 1, 1) := by decide +kernel
theorem dX11_collection_13 : decode cX11_collection 13 = .ok (.sipush 2000, 3) := by decide +kernel
theorem dX11_collection_16 : decode cX11_collection 16 = .ok (.invokestatic 129, 3) := by decide +kernel
theorem dX11_collection_19 : decode cX11_collection 19 = .ok (.ifCond .eq 7, 3) := by decide +kernel
theorem dX11_collection_22 : decode cX11_collection 22 = .ok (.iconst 1, 1) := by decide +kernel
theorem dX11_collection_23 : decode cX11_collection 23 = .ok (.goto 4, 3) := by decide +kernel
theorem dX11_collection_26 : decode cX11_collection 26 = .ok (.iconst 0, 1) := by decide +kernel
theorem dX11_collection_27 : decode cX11_collection 27 = .ok (.istore_n 3, 1) := by decide +kernel
theorem dX11_collection_28 : decode cX11_collection 28 = .ok (.aload_n 0, 1) := by decide +kernel
theorem dX11_collection_29 : decode cX11_collection 29 = .ok (.iload_n 3, 1) := by decide +kernel
theorem dX11_collection_30 : decode cX11_collection 30 = .ok (.ifCond .ne 7, 3) := by decide +kernel
theorem dX11_collection_33 : decode cX11_collection 33 = .ok (.iconst 1, 1) := by decide +kernel
theorem dX11_collection_34 : decode cX11_collection 34 = .ok (.goto 17, 3) := by decide +kernel
theorem dX11_collection_37 : decode cX11_collection 37 = .ok (.aload_n 0, 1) := by decide +kernel
theorem dX11_collection_38 : decode cX11_collection 38 = .ok (.getfield 163, 3) := by decide +kernel
theorem dX11_collection_41 : decode cX11_collection 41 = .ok (.bipush 6, 2) := by decide +kernel
theorem dX11_collection_43 : decode cX11_collection 43 = .ok (.if_icmp .ne 7, 3) := by decide +kernel
theorem dX11_collection_46 : decode cX11_collection 46 = .ok (.iconst 2, 1) := by decide +kernel
theorem dX11_collection_47 : decode cX11_collection 47 = .ok (.goto 4, 3) := by decide +kernel
theorem dX11_collection_50 : decode cX11_collection 50 = .ok (.iconst 0, 1) := by decide +kernel
theorem dX11_collection_51 : decode cX11_collection 51 = .ok (.invokevirtual 142, 3) := by decide +kernel
theorem dX11_collection_54 : decode cX11_collection 54 = .ok (.ifCond .ne 5, 3) := by decide +kernel
theorem dX11_collection_57 : decode cX11_collection 57 = .ok (.iconst 0, 1) := by decide +kernel
theorem dX11_collection_58 : decode cX11_collection 58 = .ok (.ireturn, 1) := by decide +kernel
theorem dX11_collection_59 : decode cX11_collection 59 = .ok (.aload_n 0, 1) := by decide +kernel
theorem dX11_collection_60 : decode cX11_collection 60 = .ok (.getfield 53, 3) := by decide +kernel
theorem dX11_collection_63 : decode cX11_collection 63 = .ok (.aload_n 0, 1) := by decide +kernel
theorem dX11_collection_64 : decode cX11_collection 64 = .ok (.getfield 163, 3) := by decide +kernel
theorem dX11_collection_67 : decode cX11_collection 67 = .ok (.iload_n 1, 1) := by decide +kernel
theorem dX11_collection_68 : decode cX11_collection 68 = .ok (.iastore, 1) := by decide +kernel
theorem dX11_collection_69 : decode cX11_collection 69 = .ok (.aload_n 0, 1) := by decide +kernel
theorem dX11_collection_70 : decode cX11_collection 70 = .ok (.getfield 56, 3) := by decide +kernel
theorem dX11_collection_73 : decode cX11_collection 73 = .ok (.aload_n 0, 1) := by decide +kernel
theorem dX11_collection_74 : decode cX11_collection 74 = .ok (.getfield 163, 3) := by decide +kernel
theorem dX11_collection_77 : decode cX11_collection 77 = .ok (.iload_n 2, 1) := by decide +kernel
theorem dX11_collection_78 : decode cX11_collection 78 = .ok (.iastore, 1) := by decide +kernel
theorem dX11_collection_79 : decode cX11_collection 79 = .ok (.aload_n 0, 1) := by decide +kernel
theorem dX11_collection_80 : decode cX11_collection 80 = .ok (.dup, 1) := by decide +kernel
theorem dX11_collection_81 : decode cX11_collection 81 = .ok (.getfield 163, 3) := by decide +kernel
theorem dX11_collection_84 : decode cX11_collection 84 = .ok (.iconst 1, 1) := by decide +kernel
theorem dX11_collection_85 : decode cX11_collection 85 = .ok (.iadd, 1) := by decide +kernel
theorem dX11_collection_86 : decode cX11_collection 86 = .ok (.putfield 163, 3) := by decide +kernel
theorem dX11_collection_89 : decode cX11_collection 89 = .ok (.aload_n 0, 1) := by decide +kernel
theorem dX11_collection_90 : decode cX11_collection 90 = .ok (.getfield 163, 3) := by decide +kernel
theorem dX11_collection_93 : decode cX11_collection 93 = .ok (.iconst 1, 1) := by decide +kernel
theorem dX11_collection_94 : decode cX11_collection 94 = .ok (.isub, 1) := by decide +kernel
theorem dX11_collection_95 : decode cX11_collection 95 = .ok (.ireturn, 1) := by decide +kernel
abbrev m_X11_collection : am_M := (yX11_collection, cX11_collection, 4, some .int, [])
def f_X11_collection_51  (a0 : Nat × Nat) (x1 : Int32) (x2 : Int32) (s0 : Int32) (s1 : Option (Nat × Nat)) (h : am_H) : am_R := m_ao s1 11 fun a8 => m_bI (f_X11_holds a8 s0 h) fun h6 v7 => if v7 = 0 then (m_ri h6 (0 : Int32)) else (m_gR (some a0) 11 18 h6 fun o9 => m_gI (some a0) 11 17 h6 fun v10 => m_sI o9 v10 x1 h6 fun h11 => m_gR (some a0) 11 19 h11 fun o12 => m_gI (some a0) 11 17 h11 fun v13 => m_sI o12 v13 x2 h11 fun h14 => m_gI (some a0) 11 17 h14 fun v15 => m_pI (some a0) 11 17 (v15 + (1 : Int32)) h14 fun h16 => m_gI (some a0) 11 17 h16 fun v17 => m_ri h16 (v17 - (1 : Int32)))
theorem t_X11_collection_51 (d : Nat) (hd : 1 ≤ d)  (a0 : Nat × Nat) (x1 : Int32) (x2 : Int32) (s0 : Int32) (s1 : Option (Nat × Nat)) (h : am_H) : Sim m_X11_collection d 51 [some (.inr (.inr (some a0))), some (.inl x1), some (.inl x2), none] [.inl s0, .inr (.inr s1)] h (f_X11_collection_51  a0 x1 x2 s0 s1 h) := by
  unfold f_X11_collection_51
  refine sim_ao1 (fun a8 e => ?_)
  refine sim_virt (d - 1) e dX11_collection_51 (k_X11_holds (d - 1) (by omega) _ _ _) q_X11_holds rfl rfl wm_RX11_142 rfl rfl (by omega) (Nat.le_of_ble_eq_true rfl) am_nI (am_rI fun h6 v7 => ?_) am_eI
  refine sim_if_ne 59 dX11_collection_54 (by decide) (fun c => ?_) (fun c => ?_)
  · refine sim_aload_n dX11_collection_59 rfl ?_
    refine sim_gR 11 18 dX11_collection_60 rfl wf_RX11_53 (Nat.le_of_ble_eq_true rfl) rfl (fun o9 => ?_)
    refine sim_aload_n dX11_collection_63 rfl ?_
    refine sim_gI 11 17 dX11_collection_64 rfl wf_RX11_163 (Nat.le_of_ble_eq_true rfl) rfl (fun v10 => ?_)
    refine sim_iload_n dX11_collection_67 rfl ?_
    refine sim_sI dX11_collection_68 (fun h11 => ?_)
    refine sim_aload_n dX11_collection_69 rfl ?_
    refine sim_gR 11 19 dX11_collection_70 rfl wf_RX11_56 (Nat.le_of_ble_eq_true rfl) rfl (fun o12 => ?_)
    refine sim_aload_n dX11_collection_73 rfl ?_
    refine sim_gI 11 17 dX11_collection_74 rfl wf_RX11_163 (Nat.le_of_ble_eq_true rfl) rfl (fun v13 => ?_)
    refine sim_iload_n dX11_collection_77 rfl ?_
    refine sim_sI dX11_collection_78 (fun h14 => ?_)
    refine sim_aload_n dX11_collection_79 rfl ?_
    refine sim_dup_r dX11_collection_80 ?_
    refine sim_gI 11 17 dX11_collection_81 rfl wf_RX11_163 (Nat.le_of_ble_eq_true rfl) rfl (fun v15 => ?_)
    refine sim_iconst (1) dX11_collection_84 (by decide +kernel) ?_
    refine sim_iadd dX11_collection_85 ?_
    refine sim_pI 11 17 dX11_collection_86 rfl wf_RX11_163 (Nat.le_of_ble_eq_true rfl) rfl (Or.inl rfl) rfl (fun h16 => ?_)
    refine sim_aload_n dX11_collection_89 rfl ?_
    refine sim_gI 11 17 dX11_collection_90 rfl wf_RX11_163 (Nat.le_of_ble_eq_true rfl) rfl (fun v17 => ?_)
    refine sim_iconst (1) dX11_collection_93 (by decide +kernel) ?_
    refine sim_isub dX11_collection_94 ?_
    exact sim_iret dX11_collection_95 rfl
  · refine sim_iconst (0) dX11_collection_57 (by decide +kernel) ?_
    exact sim_iret dX11_collection_58 rfl
def f_X11_collection_27  (a0 : Nat × Nat) (x1 : Int32) (x2 : Int32) (s0 : Int32) (h : am_H) : am_R := if s0 = 0 then (f_X11_collection_51 a0 x1 x2 (1 : Int32) (some a0) h) else (m_gI (some a0) 11 17 h fun v5 => if v5 = (6 : Int32) then (f_X11_collection_51 a0 x1 x2 (2 : Int32) (some a0) h) else (f_X11_collection_51 a0 x1 x2 (0 : Int32) (some a0) h))
theorem t_X11_collection_27 (d : Nat) (hd : 1 ≤ d)  (a0 : Nat × Nat) (x1 : Int32) (x2 : Int32) (s0 : Int32) (h : am_H) : Sim m_X11_collection d 27 [some (.inr (.inr (some a0))), some (.inl x1), some (.inl x2), none] [.inl s0] h (f_X11_collection_27  a0 x1 x2 s0 h) := by
  unfold f_X11_collection_27
  refine sim_istore_n dX11_collection_27 (Nat.le_of_ble_eq_true rfl) ?_
  refine sim_aload_n dX11_collection_28 rfl ?_
  refine sim_iload_n dX11_collection_29 rfl ?_
  refine sim_if_ne 37 dX11_collection_30 (by decide) (fun c => ?_) (fun c => ?_)
  · refine sim_aload_n dX11_collection_37 rfl ?_
    refine sim_gI 11 17 dX11_collection_38 rfl wf_RX11_163 (Nat.le_of_ble_eq_true rfl) rfl (fun v5 => ?_)
    refine sim_bipush (6) dX11_collection_41 (by decide +kernel) ?_
    refine sim_ic_ne 50 dX11_collection_43 (by decide) (fun c => ?_) (fun c => ?_)
    · refine sim_iconst (0) dX11_collection_50 (by decide +kernel) ?_
      exact sim_lv (am_leS (am_leS (am_leS (am_leN am_leT)))) (t_X11_collection_51 d (by omega) _ _ _ _ _ _)
    · refine sim_iconst (2) dX11_collection_46 (by decide +kernel) ?_
      refine sim_goto 51 dX11_collection_47 (by decide) ?_
      exact sim_lv (am_leS (am_leS (am_leS (am_leN am_leT)))) (t_X11_collection_51 d (by omega) _ _ _ _ _ _)
  · refine sim_iconst (1) dX11_collection_33 (by decide +kernel) ?_
    refine sim_goto 51 dX11_collection_34 (by decide) ?_
    exact sim_lv (am_leS (am_leS (am_leS (am_leN am_leT)))) (t_X11_collection_51 d (by omega) _ _ _ _ _ _)
def f_X11_collection_26  (a0 : Nat × Nat) (x1 : Int32) (x2 : Int32) (h : am_H) : am_R := f_X11_collection_27 a0 x1 x2 (0 : Int32) h
theorem t_X11_collection_26 (d : Nat) (hd : 1 ≤ d)  (a0 : Nat × Nat) (x1 : Int32) (x2 : Int32) (h : am_H) : Sim m_X11_collection d 26 [some (.inr (.inr (some a0))), some (.inl x1), some (.inl x2), none] [] h (f_X11_collection_26  a0 x1 x2 h) := by
  unfold f_X11_collection_26
  refine sim_iconst (0) dX11_collection_26 (by decide +kernel) ?_
  exact sim_lv (am_leS (am_leS (am_leS (am_leN am_leT)))) (t_X11_collection_27 d (by omega) _ _ _ _ _)
def f_X11_collection (a0 : Nat × Nat) (x1 : Int32) (x2 : Int32) (h : am_H) : am_R := m_bI (f_X11_in x1 (0 : Int32) (2000 : Int32) h) fun h1 v2 => if v2 = 0 then (f_X11_collection_26 a0 x1 x2 h1) else (m_bI (f_X11_in x2 x1 (2000 : Int32) h1) fun h3 v4 => if v4 = 0 then (f_X11_collection_26 a0 x1 x2 h3) else (f_X11_collection_27 a0 x1 x2 (1 : Int32) h3))
theorem k_X11_collection (d : Nat) (hd : 1 ≤ d) (a0 : Nat × Nat) (x1 : Int32) (x2 : Int32) (h : am_H) : am_Con m_X11_collection d [.inr (.inr (some a0)), .inl x1, .inl x2] h (f_X11_collection a0 x1 x2 h) := am_con (by decide +kernel) (Nat.le_of_ble_eq_true rfl) (by
  unfold f_X11_collection
  refine sim_iload_n dX11_collection_0 rfl ?_
  refine sim_iconst (0) dX11_collection_1 (by decide +kernel) ?_
  refine sim_sipush (2000) dX11_collection_2 (by decide +kernel) ?_
  refine sim_static (d - 1) dX11_collection_5 (k_X11_in (d - 1) (by omega) _ _ _ _) q_X11_in wm_RX11_129 rfl rfl (by omega) (Nat.le_of_ble_eq_true rfl) am_nI (am_rI fun h1 v2 => ?_) am_eI
  refine sim_if_eq 26 dX11_collection_8 (by decide) (fun c => ?_) (fun c => ?_)
  · exact sim_lv (am_leS (am_leS (am_leS (am_leN am_leT)))) (t_X11_collection_26 d (by omega) _ _ _ _)
  · refine sim_iload_n dX11_collection_11 rfl ?_
    refine sim_iload_n dX11_collection_12 rfl ?_
    refine sim_sipush (2000) dX11_collection_13 (by decide +kernel) ?_
    refine sim_static (d - 1) dX11_collection_16 (k_X11_in (d - 1) (by omega) _ _ _ _) q_X11_in wm_RX11_129 rfl rfl (by omega) (Nat.le_of_ble_eq_true rfl) am_nI (am_rI fun h3 v4 => ?_) am_eI
    refine sim_if_eq 26 dX11_collection_19 (by decide) (fun c => ?_) (fun c => ?_)
    · exact sim_lv (am_leS (am_leS (am_leS (am_leN am_leT)))) (t_X11_collection_26 d (by omega) _ _ _ _)
    · refine sim_iconst (1) dX11_collection_22 (by decide +kernel) ?_
      refine sim_goto 27 dX11_collection_23 (by decide) ?_
      exact sim_lv (am_leS (am_leS (am_leS (am_leN am_leT)))) (t_X11_collection_27 d (by omega) _ _ _ _ _))
theorem q_X11_collection : am_Cal m_X11_collection 2 2 := ⟨am_mem 1310 (w := Cond.code yX11_collection cX11_collection 4 (some .int)) (by decide +kernel) rfl, am_mem 64 (w := Cond.initialized RX11) (by decide +kernel) rfl, fun z => absurd z (by decide), fun _ => am_mem 1308 (w := Cond.instanceMethod yX11_collection) (by decide +kernel) rfl, fun z => absurd z (by decide), fun _ => am_mem 1309 (w := Cond.selects RX11 yX11_collection yX11_collection) (by decide +kernel) rfl, by decide +kernel, by decide +kernel, Nat.le_of_ble_eq_true rfl⟩
theorem dX11_has_0 : decode cX11_has 0 = .ok (.iload_n 0, 1) := by decide +kernel
theorem dX11_has_1 : decode cX11_has 1 = .ok (.iload_n 1, 1) := by decide +kernel
theorem dX11_has_2 : decode cX11_has 2 = .ok (.ishr, 1) := by decide +kernel
theorem dX11_has_3 : decode cX11_has 3 = .ok (.iconst 1, 1) := by decide +kernel
theorem dX11_has_4 : decode cX11_has 4 = .ok (.iand, 1) := by decide +kernel
theorem dX11_has_5 : decode cX11_has 5 = .ok (.iconst 1, 1) := by decide +kernel
theorem dX11_has_6 : decode cX11_has 6 = .ok (.if_icmp .ne 7, 3) := by decide +kernel
theorem dX11_has_9 : decode cX11_has 9 = .ok (.iconst 1, 1) := by decide +kernel
theorem dX11_has_10 : decode cX11_has 10 = .ok (.goto 4, 3) := by decide +kernel
theorem dX11_has_13 : decode cX11_has 13 = .ok (.iconst 0, 1) := by decide +kernel
theorem dX11_has_14 : decode cX11_has 14 = .ok (.ireturn, 1) := by decide +kernel
abbrev m_X11_has : am_M := (yX11_has, cX11_has, 2, some .boolean, [])
def f_X11_has_14  (s0 : Int32) (h : am_H) : am_R := m_rz h s0
theorem t_X11_has_14 (d : Nat) (hd : 0 ≤ d)  (s0 : Int32) (h : am_H) : Sim m_X11_has d 14 [none, none] [.inl s0] h (f_X11_has_14  s0 h) := by
  unfold f_X11_has_14
  exact sim_zret dX11_has_14 rfl
def f_X11_has (x0 : Int32) (x1 : Int32) (h : am_H) : am_R := if ((x0 >>> (x1 &&& 31)) &&& (1 : Int32)) = (1 : Int32) then (f_X11_has_14 (1 : Int32) h) else (f_X11_has_14 (0 : Int32) h)
theorem k_X11_has (d : Nat) (hd : 0 ≤ d) (x0 : Int32) (x1 : Int32) (h : am_H) : am_Con m_X11_has d [.inl x0, .inl x1] h (f_X11_has x0 x1 h) := am_con (by decide +kernel) (Nat.le_of_ble_eq_true rfl) (by
  unfold f_X11_has
  refine sim_iload_n dX11_has_0 rfl ?_
  refine sim_iload_n dX11_has_1 rfl ?_
  refine sim_ishr dX11_has_2 ?_
  refine sim_iconst (1) dX11_has_3 (by decide +kernel) ?_
  refine sim_iand dX11_has_4 ?_
  refine sim_iconst (1) dX11_has_5 (by decide +kernel) ?_
  refine sim_ic_ne 13 dX11_has_6 (by decide) (fun c => ?_) (fun c => ?_)
  · refine sim_iconst (0) dX11_has_13 (by decide +kernel) ?_
    exact sim_lv (am_leN (am_leN am_leT)) (t_X11_has_14 d (by omega) _ _)
  · refine sim_iconst (1) dX11_has_9 (by decide +kernel) ?_
    refine sim_goto 14 dX11_has_10 (by decide) ?_
    exact sim_lv (am_leN (am_leN am_leT)) (t_X11_has_14 d (by omega) _ _))
theorem q_X11_has : am_Cal m_X11_has 2 0 := ⟨am_mem 1287 (w := Cond.code yX11_has cX11_has 2 (some .boolean)) (by decide +kernel) rfl, am_mem 64 (w := Cond.initialized RX11) (by decide +kernel) rfl, fun _ => am_mem 1286 (w := Cond.static yX11_has) (by decide +kernel) rfl, fun z => absurd rfl z, fun z => absurd z (by decide), fun z => absurd z (by decide), by decide +kernel, by decide +kernel, Nat.le_of_ble_eq_true rfl⟩
theorem dX11_isBlocked_0 : decode cX11_isBlocked 0 = .ok (.iload_n 1, 1) := by decide +kernel
theorem dX11_isBlocked_1 : decode cX11_isBlocked 1 = .ok (.bipush 12, 2) := by decide +kernel
theorem dX11_isBlocked_3 : decode cX11_isBlocked 3 = .ok (.if_icmp .ge 27, 3) := by decide +kernel
theorem dX11_isBlocked_6 : decode cX11_isBlocked 6 = .ok (.iload_n 2, 1) := by decide +kernel
theorem dX11_isBlocked_7 : decode cX11_isBlocked 7 = .ok (.bipush 12, 2) := by decide +kernel
theorem dX11_isBlocked_9 : decode cX11_isBlocked 9 = .ok (.if_icmp .ge 21, 3) := by decide +kernel
theorem dX11_isBlocked_12 : decode cX11_isBlocked 12 = .ok (.aload_n 0, 1) := by decide +kernel
theorem dX11_isBlocked_13 : decode cX11_isBlocked 13 = .ok (.getfield 7, 3) := by decide +kernel
theorem dX11_isBlocked_16 : decode cX11_isBlocked 16 = .ok (.bipush 12, 2) := by decide +kernel
theorem dX11_isBlocked_18 : decode cX11_isBlocked 18 = .ok (.iload_n 1, 1) := by decide +kernel
theorem dX11_isBlocked_19 : decode cX11_isBlocked 19 = .ok (.imul, 1) := by decide +kernel
theorem dX11_isBlocked_20 : decode cX11_isBlocked 20 = .ok (.iload_n 2, 1) := by decide +kernel
theorem dX11_isBlocked_21 : decode cX11_isBlocked 21 = .ok (.iadd, 1) := by decide +kernel
theorem dX11_isBlocked_22 : decode cX11_isBlocked 22 = .ok (.baload, 1) := by decide +kernel
theorem dX11_isBlocked_23 : decode cX11_isBlocked 23 = .ok (.ifCond .eq 7, 3) := by decide +kernel
theorem dX11_isBlocked_26 : decode cX11_isBlocked 26 = .ok (.iconst 1, 1) := by decide +kernel
theorem dX11_isBlocked_27 : decode cX11_isBlocked 27 = .ok (.goto 4, 3) := by decide +kernel
theorem dX11_isBlocked_30 : decode cX11_isBlocked 30 = .ok (.iconst 0, 1) := by decide +kernel
theorem dX11_isBlocked_31 : decode cX11_isBlocked 31 = .ok (.ireturn, 1) := by decide +kernel
abbrev m_X11_isBlocked : am_M := (yX11_isBlocked, cX11_isBlocked, 3, some .boolean, [])
def f_X11_isBlocked_31  (s0 : Int32) (h : am_H) : am_R := m_rz h s0
theorem t_X11_isBlocked_31 (d : Nat) (hd : 0 ≤ d)  (s0 : Int32) (h : am_H) : Sim m_X11_isBlocked d 31 [none, none, none] [.inl s0] h (f_X11_isBlocked_31  s0 h) := by
  unfold f_X11_isBlocked_31
  exact sim_zret dX11_isBlocked_31 rfl
def f_X11_isBlocked_30   (h : am_H) : am_R := f_X11_isBlocked_31 (0 : Int32) h
theorem t_X11_isBlocked_30 (d : Nat) (hd : 0 ≤ d)   (h : am_H) : Sim m_X11_isBlocked d 30 [none, none, none] [] h (f_X11_isBlocked_30   h) := by
  unfold f_X11_isBlocked_30
  refine sim_iconst (0) dX11_isBlocked_30 (by decide +kernel) ?_
  exact sim_lv (am_leN (am_leN (am_leN am_leT))) (t_X11_isBlocked_31 d (by omega) _ _)
def f_X11_isBlocked (a0 : Nat × Nat) (x1 : Int32) (x2 : Int32) (h : am_H) : am_R := if (12 : Int32) ≤ x1 then (f_X11_isBlocked_30 h) else (if (12 : Int32) ≤ x2 then (f_X11_isBlocked_30 h) else (m_gR (some a0) 11 2 h fun o1 => m_aI o1 1 (((12 : Int32) * x1) + x2) h fun v2 => if v2 = 0 then (f_X11_isBlocked_30 h) else (f_X11_isBlocked_31 (1 : Int32) h)))
theorem k_X11_isBlocked (d : Nat) (hd : 0 ≤ d) (a0 : Nat × Nat) (x1 : Int32) (x2 : Int32) (h : am_H) : am_Con m_X11_isBlocked d [.inr (.inr (some a0)), .inl x1, .inl x2] h (f_X11_isBlocked a0 x1 x2 h) := am_con (by decide +kernel) (Nat.le_of_ble_eq_true rfl) (by
  unfold f_X11_isBlocked
  refine sim_iload_n dX11_isBlocked_0 rfl ?_
  refine sim_bipush (12) dX11_isBlocked_1 (by decide +kernel) ?_
  refine sim_ic_ge 30 dX11_isBlocked_3 (by decide) (fun c => ?_) (fun c => ?_)
  · exact sim_lv (am_leN (am_leN (am_leN am_leT))) (t_X11_isBlocked_30 d (by omega) _)
  · refine sim_iload_n dX11_isBlocked_6 rfl ?_
    refine sim_bipush (12) dX11_isBlocked_7 (by decide +kernel) ?_
    refine sim_ic_ge 30 dX11_isBlocked_9 (by decide) (fun c => ?_) (fun c => ?_)
    · exact sim_lv (am_leN (am_leN (am_leN am_leT))) (t_X11_isBlocked_30 d (by omega) _)
    · refine sim_aload_n dX11_isBlocked_12 rfl ?_
      refine sim_gR 11 2 dX11_isBlocked_13 rfl wf_RX11_7 (Nat.le_of_ble_eq_true rfl) rfl (fun o1 => ?_)
      refine sim_bipush (12) dX11_isBlocked_16 (by decide +kernel) ?_
      refine sim_iload_n dX11_isBlocked_18 rfl ?_
      refine sim_imul dX11_isBlocked_19 ?_
      refine sim_iload_n dX11_isBlocked_20 rfl ?_
      refine sim_iadd dX11_isBlocked_21 ?_
      refine sim_aZ dX11_isBlocked_22 (fun v2 => ?_)
      refine sim_if_eq 30 dX11_isBlocked_23 (by decide) (fun c => ?_) (fun c => ?_)
      · exact sim_lv (am_leN (am_leN (am_leN am_leT))) (t_X11_isBlocked_30 d (by omega) _)
      · refine sim_iconst (1) dX11_isBlocked_26 (by decide +kernel) ?_
        refine sim_goto 31 dX11_isBlocked_27 (by decide) ?_
        exact sim_lv (am_leN (am_leN (am_leN am_leT))) (t_X11_isBlocked_31 d (by omega) _ _))
theorem q_X11_isBlocked : am_Cal m_X11_isBlocked 2 2 := ⟨am_mem 1492 (w := Cond.code yX11_isBlocked cX11_isBlocked 3 (some .boolean)) (by decide +kernel) rfl, am_mem 64 (w := Cond.initialized RX11) (by decide +kernel) rfl, fun z => absurd z (by decide), fun _ => am_mem 1491 (w := Cond.instanceMethod yX11_isBlocked) (by decide +kernel) rfl, fun z => absurd z (by decide), fun _ => am_mem 51 (w := Cond.selects RX11 yX11_isBlocked yX11_isBlocked) (by decide +kernel) rfl, by decide +kernel, by decide +kernel, Nat.le_of_ble_eq_true rfl⟩
theorem dX11_isOwner_0 : decode cX11_isOwner 0 = .ok (.iload_n 1, 1) := by decide +kernel
theorem dX11_isOwner_1 : decode cX11_isOwner 1 = .ok (.bipush 12, 2) := by decide +kernel
theorem dX11_isOwner_3 : decode cX11_isOwner 3 = .ok (.if_icmp .ge 20, 3) := by decide +kernel
theorem dX11_isOwner_6 : decode cX11_isOwner 6 = .ok (.aload_n 0, 1) := by decide +kernel
theorem dX11_isOwner_7 : decode cX11_isOwner 7 = .ok (.getfield 20, 3) := by decide +kernel
theorem dX11_isOwner_10 : decode cX11_isOwner 10 = .ok (.iload_n 2, 1) := by decide +kernel
theorem dX11_isOwner_11 : decode cX11_isOwner 11 = .ok (.iaload, 1) := by decide +kernel
theorem dX11_isOwner_12 : decode cX11_isOwner 12 = .ok (.iload_n 1, 1) := by decide +kernel
theorem dX11_isOwner_13 : decode cX11_isOwner 13 = .ok (.invokestatic 155, 3) := by decide +kernel
theorem dX11_isOwner_16 : decode cX11_isOwner 16 = .ok (.ifCond .eq 7, 3) := by decide +kernel
theorem dX11_isOwner_19 : decode cX11_isOwner 19 = .ok (.iconst 1, 1) := by decide +kernel
theorem dX11_isOwner_20 : decode cX11_isOwner 20 = .ok (.goto 4, 3) := by decide +kernel
theorem dX11_isOwner_23 : decode cX11_isOwner 23 = .ok (.iconst 0, 1) := by decide +kernel
theorem dX11_isOwner_24 : decode cX11_isOwner 24 = .ok (.ireturn, 1) := by decide +kernel
abbrev m_X11_isOwner : am_M := (yX11_isOwner, cX11_isOwner, 3, some .boolean, [])
def f_X11_isOwner_24  (s0 : Int32) (h : am_H) : am_R := m_rz h s0
theorem t_X11_isOwner_24 (d : Nat) (hd : 1 ≤ d)  (s0 : Int32) (h : am_H) : Sim m_X11_isOwner d 24 [none, none, none] [.inl s0] h (f_X11_isOwner_24  s0 h) := by
  unfold f_X11_isOwner_24
  exact sim_zret dX11_isOwner_24 rfl
def f_X11_isOwner_23   (h : am_H) : am_R := f_X11_isOwner_24 (0 : Int32) h
theorem t_X11_isOwner_23 (d : Nat) (hd : 1 ≤ d)   (h : am_H) : Sim m_X11_isOwner d 23 [none, none, none] [] h (f_X11_isOwner_23   h) := by
  unfold f_X11_isOwner_23
  refine sim_iconst (0) dX11_isOwner_23 (by decide +kernel) ?_
  exact sim_lv (am_leN (am_leN (am_leN am_leT))) (t_X11_isOwner_24 d (by omega) _ _)
def f_X11_isOwner (a0 : Nat × Nat) (x1 : Int32) (x2 : Int32) (h : am_H) : am_R := if (12 : Int32) ≤ x1 then (f_X11_isOwner_23 h) else (m_gR (some a0) 11 6 h fun o1 => m_aI o1 0 x2 h fun v2 => m_bI (f_X11_has v2 x1 h) fun h3 v4 => if v4 = 0 then (f_X11_isOwner_23 h3) else (f_X11_isOwner_24 (1 : Int32) h3))
theorem k_X11_isOwner (d : Nat) (hd : 1 ≤ d) (a0 : Nat × Nat) (x1 : Int32) (x2 : Int32) (h : am_H) : am_Con m_X11_isOwner d [.inr (.inr (some a0)), .inl x1, .inl x2] h (f_X11_isOwner a0 x1 x2 h) := am_con (by decide +kernel) (Nat.le_of_ble_eq_true rfl) (by
  unfold f_X11_isOwner
  refine sim_iload_n dX11_isOwner_0 rfl ?_
  refine sim_bipush (12) dX11_isOwner_1 (by decide +kernel) ?_
  refine sim_ic_ge 23 dX11_isOwner_3 (by decide) (fun c => ?_) (fun c => ?_)
  · exact sim_lv (am_leN (am_leN (am_leN am_leT))) (t_X11_isOwner_23 d (by omega) _)
  · refine sim_aload_n dX11_isOwner_6 rfl ?_
    refine sim_gR 11 6 dX11_isOwner_7 rfl wf_RX11_20 (Nat.le_of_ble_eq_true rfl) rfl (fun o1 => ?_)
    refine sim_iload_n dX11_isOwner_10 rfl ?_
    refine sim_aI dX11_isOwner_11 (fun v2 => ?_)
    refine sim_iload_n dX11_isOwner_12 rfl ?_
    refine sim_static (d - 1) dX11_isOwner_13 (k_X11_has (d - 1) (by omega) _ _ _) q_X11_has wm_RX11_155 rfl rfl (by omega) (Nat.le_of_ble_eq_true rfl) am_nI (am_rI fun h3 v4 => ?_) am_eI
    refine sim_if_eq 23 dX11_isOwner_16 (by decide) (fun c => ?_) (fun c => ?_)
    · exact sim_lv (am_leN (am_leN (am_leN am_leT))) (t_X11_isOwner_23 d (by omega) _)
    · refine sim_iconst (1) dX11_isOwner_19 (by decide +kernel) ?_
      refine sim_goto 24 dX11_isOwner_20 (by decide) ?_
      exact sim_lv (am_leN (am_leN (am_leN am_leT))) (t_X11_isOwner_24 d (by omega) _ _))
theorem q_X11_isOwner : am_Cal m_X11_isOwner 2 2 := ⟨am_mem 1326 (w := Cond.code yX11_isOwner cX11_isOwner 3 (some .boolean)) (by decide +kernel) rfl, am_mem 64 (w := Cond.initialized RX11) (by decide +kernel) rfl, fun z => absurd z (by decide), fun _ => am_mem 1325 (w := Cond.instanceMethod yX11_isOwner) (by decide +kernel) rfl, fun z => absurd z (by decide), fun _ => am_mem 32 (w := Cond.selects RX11 yX11_isOwner yX11_isOwner) (by decide +kernel) rfl, by decide +kernel, by decide +kernel, Nat.le_of_ble_eq_true rfl⟩
