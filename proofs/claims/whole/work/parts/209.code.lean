abbrev m_X10_waiting : am_M := (yX10_waiting, cX10_waiting, 3, some .int, [])
def f_X10_waiting_4  : Nat → Nat × Nat → Int32 → Int32 → am_H → am_R
  | 0, _, _, _, _ => none
  | n + 1, a0, x1, x2, h => m_gI (some a0) 10 4 h fun v1 => if v1 ≤ x2 then (m_ri h x1) else (m_gR (some a0) 10 3 h fun o2 => m_aR o2 5 x2 h fun o3 => m_gI o3 9 9 h fun v4 => m_bI (f_X10_with x1 x2 v4 h) fun h5 v6 => (f_X10_waiting_4  n) a0 v6 (x2 + 1) h5)
theorem t_X10_waiting_4 (d : Nat) (hd : 1 ≤ d)  : ∀ (n : Nat) (a0 : Nat × Nat) (x1 : Int32) (x2 : Int32) (h : am_H), Sim m_X10_waiting d 4 [some (.inr (.inr (some a0))), some (.inl x1), some (.inl x2)] [] h (f_X10_waiting_4  n a0 x1 x2 h) := by
  intro n
  induction n with
  | zero => intros; exact sim_none
  | succ n hrc4 =>
    intro a0 x1 x2 h
    rw [f_X10_waiting_4]
    refine sim_iload_n dX10_waiting_4 rfl ?_
    refine sim_aload_n dX10_waiting_5 rfl ?_
    refine sim_gI 10 4 dX10_waiting_6 rfl wf_RX10_104 (Nat.le_of_ble_eq_true rfl) rfl (fun v1 => ?_)
    refine sim_ic_ge 33 dX10_waiting_9 (by decide) (fun c => ?_) (fun c => ?_)
    · refine sim_iload_n dX10_waiting_33 rfl ?_
      exact sim_iret dX10_waiting_34 rfl
    · refine sim_iload_n dX10_waiting_12 rfl ?_
      refine sim_iload_n dX10_waiting_13 rfl ?_
      refine sim_aload_n dX10_waiting_14 rfl ?_
      refine sim_gR 10 3 dX10_waiting_15 rfl wf_RX10_21 (Nat.le_of_ble_eq_true rfl) rfl (fun o2 => ?_)
      refine sim_iload_n dX10_waiting_18 rfl ?_
      refine sim_aR 5 rfl dX10_waiting_19 (fun o3 => ?_)
      refine sim_gI 9 9 dX10_waiting_20 rfl wf_RX10_244 (Nat.le_of_ble_eq_true rfl) rfl (fun v4 => ?_)
      refine sim_static (d - 1) dX10_waiting_23 (k_X10_with (d - 1) (by omega) _ _ _ _) q_X10_with wm_RX10_95 rfl rfl (by omega) (Nat.le_of_ble_eq_true rfl) am_nI (am_rI fun h5 v6 => ?_) am_eI
      refine sim_istore_n dX10_waiting_26 (Nat.le_of_ble_eq_true rfl) ?_
      refine sim_iinc (1) dX10_waiting_27 rfl (by decide +kernel) (Nat.le_of_ble_eq_true rfl) ?_
      refine sim_goto 4 dX10_waiting_30 (by decide) ?_
      exact sim_lv (am_leS (am_leS (am_leS am_leT))) (hrc4 _ _ _ _)
def f_X10_waiting (a0 : Nat × Nat) (h : am_H) : am_R := f_X10_waiting_4 5000 a0 (0 : Int32) (0 : Int32) h
theorem k_X10_waiting (d : Nat) (hd : 1 ≤ d) (a0 : Nat × Nat) (h : am_H) : am_Con m_X10_waiting d [.inr (.inr (some a0))] h (f_X10_waiting a0 h) := am_con (by decide +kernel) (Nat.le_of_ble_eq_true rfl) (by
  unfold f_X10_waiting
  refine sim_iconst (0) dX10_waiting_0 (by decide +kernel) ?_
  refine sim_istore_n dX10_waiting_1 (Nat.le_of_ble_eq_true rfl) ?_
  refine sim_iconst (0) dX10_waiting_2 (by decide +kernel) ?_
  refine sim_istore_n dX10_waiting_3 (Nat.le_of_ble_eq_true rfl) ?_
  exact sim_lv (am_leS (am_leS (am_leS am_leT))) (t_X10_waiting_4 d (by omega) _ _ _ _ _))
theorem q_X10_waiting : am_Cal m_X10_waiting 0 2 := ⟨am_mem 268 (w := Cond.code yX10_waiting cX10_waiting 3 (some .int)) (by decide +kernel) rfl, am_mem 56 (w := Cond.initialized RX10) (by decide +kernel) rfl, fun z => absurd z (by decide), fun _ => am_mem 266 (w := Cond.instanceMethod yX10_waiting) (by decide +kernel) rfl, fun z => absurd z (by decide), fun _ => am_mem 267 (w := Cond.selects RX10 yX10_waiting yX10_waiting) (by decide +kernel) rfl, by decide +kernel, by decide +kernel, Nat.le_of_ble_eq_true rfl⟩
abbrev m_X10_wipe : am_M := (yX10_wipe, cX10_wipe, 2, some .int, [])
def f_X10_wipe (a0 : Nat × Nat) (h : am_H) : am_R := m_gR (some a0) 10 8 h fun o1 => m_gI o1 8 1 h fun v2 => m_gR (some a0) 10 8 h fun o3 => m_pI o3 8 1 (0 : Int32) h fun h4 => m_ri h4 v2
theorem k_X10_wipe (d : Nat) (hd : 0 ≤ d) (a0 : Nat × Nat) (h : am_H) : am_Con m_X10_wipe d [.inr (.inr (some a0))] h (f_X10_wipe a0 h) := am_con (by decide +kernel) (Nat.le_of_ble_eq_true rfl) (by
  unfold f_X10_wipe
  refine sim_aload_n dX10_wipe_0 rfl ?_
  refine sim_gR 10 8 dX10_wipe_1 rfl wf_RX10_41 (Nat.le_of_ble_eq_true rfl) rfl (fun o1 => ?_)
  refine sim_gI 8 1 dX10_wipe_4 rfl wf_RX10_263 (Nat.le_of_ble_eq_true rfl) rfl (fun v2 => ?_)
  refine sim_istore_n dX10_wipe_7 (Nat.le_of_ble_eq_true rfl) ?_
  refine sim_aload_n dX10_wipe_8 rfl ?_
  refine sim_gR 10 8 dX10_wipe_9 rfl wf_RX10_41 (Nat.le_of_ble_eq_true rfl) rfl (fun o3 => ?_)
  refine sim_iconst (0) dX10_wipe_12 (by decide +kernel) ?_
  refine sim_pI 8 1 dX10_wipe_13 rfl wf_RX10_263 (Nat.le_of_ble_eq_true rfl) rfl (Or.inl rfl) rfl (fun h4 => ?_)
  refine sim_iload_n dX10_wipe_16 rfl ?_
  exact sim_iret dX10_wipe_17 rfl)
theorem q_X10_wipe : am_Cal m_X10_wipe 0 2 := ⟨am_mem 275 (w := Cond.code yX10_wipe cX10_wipe 2 (some .int)) (by decide +kernel) rfl, am_mem 56 (w := Cond.initialized RX10) (by decide +kernel) rfl, fun z => absurd z (by decide), fun _ => am_mem 273 (w := Cond.instanceMethod yX10_wipe) (by decide +kernel) rfl, fun z => absurd z (by decide), fun _ => am_mem 274 (w := Cond.selects RX10 yX10_wipe yX10_wipe) (by decide +kernel) rfl, by decide +kernel, by decide +kernel, Nat.le_of_ble_eq_true rfl⟩
abbrev m_X11_holds : am_M := (yX11_holds, cX11_holds, 2, some .boolean, [])
def f_X11_holds_14  (s0 : Int32) (h : am_H) : am_R := m_rz h s0
theorem t_X11_holds_14 (d : Nat) (hd : 0 ≤ d)  (s0 : Int32) (h : am_H) : Sim m_X11_holds d 14 [none, none] [.inl s0] h (f_X11_holds_14  s0 h) := by
  unfold f_X11_holds_14
  exact sim_zret dX11_holds_14 rfl
def f_X11_holds (a0 : Nat × Nat) (x1 : Int32) (h : am_H) : am_R := m_pI (some a0) 11 0 x1 h fun h1 => if x1 = 0 then (f_X11_holds_14 (1 : Int32) h1) else (f_X11_holds_14 (0 : Int32) h1)
theorem k_X11_holds (d : Nat) (hd : 0 ≤ d) (a0 : Nat × Nat) (x1 : Int32) (h : am_H) : am_Con m_X11_holds d [.inr (.inr (some a0)), .inl x1] h (f_X11_holds a0 x1 h) := am_con (by decide +kernel) (Nat.le_of_ble_eq_true rfl) (by
  unfold f_X11_holds
  refine sim_aload_n dX11_holds_0 rfl ?_
  refine sim_iload_n dX11_holds_1 rfl ?_
  refine sim_pI 11 0 dX11_holds_2 rfl wf_RX11_125 (Nat.le_of_ble_eq_true rfl) rfl (Or.inl rfl) rfl (fun h1 => ?_)
  refine sim_iload_n dX11_holds_5 rfl ?_
  refine sim_if_ne 13 dX11_holds_6 (by decide) (fun c => ?_) (fun c => ?_)
  · refine sim_iconst (0) dX11_holds_13 (by decide +kernel) ?_
    exact sim_lv (am_leN (am_leN am_leT)) (t_X11_holds_14 d (by omega) _ _)
  · refine sim_iconst (1) dX11_holds_9 (by decide +kernel) ?_
    refine sim_goto 14 dX11_holds_10 (by decide) ?_
    exact sim_lv (am_leN (am_leN am_leT)) (t_X11_holds_14 d (by omega) _ _))
theorem q_X11_holds : am_Cal m_X11_holds 1 2 := ⟨am_mem 1258 (w := Cond.code yX11_holds cX11_holds 2 (some .boolean)) (by decide +kernel) rfl, am_mem 64 (w := Cond.initialized RX11) (by decide +kernel) rfl, fun z => absurd z (by decide), fun _ => am_mem 1257 (w := Cond.instanceMethod yX11_holds) (by decide +kernel) rfl, fun z => absurd z (by decide), fun _ => am_mem 29 (w := Cond.selects RX11 yX11_holds yX11_holds) (by decide +kernel) rfl, by decide +kernel, by decide +kernel, Nat.le_of_ble_eq_true rfl⟩
abbrev m_X11_in : am_M := (yX11_in, cX11_in, 3, some .boolean, [])
def f_X11_in_15  (s0 : Int32) (h : am_H) : am_R := m_rz h s0
theorem t_X11_in_15 (d : Nat) (hd : 0 ≤ d)  (s0 : Int32) (h : am_H) : Sim m_X11_in d 15 [none, none, none] [.inl s0] h (f_X11_in_15  s0 h) := by
  unfold f_X11_in_15
  exact sim_zret dX11_in_15 rfl
def f_X11_in_14   (h : am_H) : am_R := f_X11_in_15 (0 : Int32) h
theorem t_X11_in_14 (d : Nat) (hd : 0 ≤ d)   (h : am_H) : Sim m_X11_in d 14 [none, none, none] [] h (f_X11_in_14   h) := by
  unfold f_X11_in_14
  refine sim_iconst (0) dX11_in_14 (by decide +kernel) ?_
  exact sim_lv (am_leN (am_leN (am_leN am_leT))) (t_X11_in_15 d (by omega) _ _)
def f_X11_in (x0 : Int32) (x1 : Int32) (x2 : Int32) (h : am_H) : am_R := if x0 < x1 then (f_X11_in_14 h) else (if x2 < x0 then (f_X11_in_14 h) else (f_X11_in_15 (1 : Int32) h))
theorem k_X11_in (d : Nat) (hd : 0 ≤ d) (x0 : Int32) (x1 : Int32) (x2 : Int32) (h : am_H) : am_Con m_X11_in d [.inl x0, .inl x1, .inl x2] h (f_X11_in x0 x1 x2 h) := am_con (by decide +kernel) (Nat.le_of_ble_eq_true rfl) (by
  unfold f_X11_in
  refine sim_iload_n dX11_in_0 rfl ?_
  refine sim_iload_n dX11_in_1 rfl ?_
  refine sim_ic_lt 14 dX11_in_2 (by decide) (fun c => ?_) (fun c => ?_)
  · exact sim_lv (am_leN (am_leN (am_leN am_leT))) (t_X11_in_14 d (by omega) _)
  · refine sim_iload_n dX11_in_5 rfl ?_
    refine sim_iload_n dX11_in_6 rfl ?_
    refine sim_ic_gt 14 dX11_in_7 (by decide) (fun c => ?_) (fun c => ?_)
    · exact sim_lv (am_leN (am_leN (am_leN am_leT))) (t_X11_in_14 d (by omega) _)
    · refine sim_iconst (1) dX11_in_10 (by decide +kernel) ?_
      refine sim_goto 15 dX11_in_11 (by decide) ?_
      exact sim_lv (am_leN (am_leN (am_leN am_leT))) (t_X11_in_15 d (by omega) _ _))
theorem q_X11_in : am_Cal m_X11_in 3 0 := ⟨am_mem 1254 (w := Cond.code yX11_in cX11_in 3 (some .boolean)) (by decide +kernel) rfl, am_mem 64 (w := Cond.initialized RX11) (by decide +kernel) rfl, fun _ => am_mem 1253 (w := Cond.static yX11_in) (by decide +kernel) rfl, fun z => absurd rfl z, fun z => absurd z (by decide), fun z => absurd z (by decide), by decide +kernel, by decide +kernel, Nat.le_of_ble_eq_true rfl⟩
abbrev m_X11_isPerson : am_M := (yX11_isPerson, cX11_isPerson, 1, some .boolean, [])
def f_X11_isPerson (x0 : Int32) (h : am_H) : am_R := m_bI (f_X11_in x0 (0 : Int32) (11 : Int32) h) fun h1 v2 => m_rz h1 v2
theorem k_X11_isPerson (d : Nat) (hd : 1 ≤ d) (x0 : Int32) (h : am_H) : am_Con m_X11_isPerson d [.inl x0] h (f_X11_isPerson x0 h) := am_con (by decide +kernel) (Nat.le_of_ble_eq_true rfl) (by
  unfold f_X11_isPerson
  refine sim_iload_n dX11_isPerson_0 rfl ?_
  refine sim_iconst (0) dX11_isPerson_1 (by decide +kernel) ?_
  refine sim_bipush (11) dX11_isPerson_2 (by decide +kernel) ?_
  refine sim_static (d - 1) dX11_isPerson_4 (k_X11_in (d - 1) (by omega) _ _ _ _) q_X11_in wm_RX11_129 rfl rfl (by omega) (Nat.le_of_ble_eq_true rfl) am_nI (am_rI fun h1 v2 => ?_) am_eI
  exact sim_zret dX11_isPerson_7 rfl)
theorem q_X11_isPerson : am_Cal m_X11_isPerson 1 0 := ⟨am_mem 1265 (w := Cond.code yX11_isPerson cX11_isPerson 1 (some .boolean)) (by decide +kernel) rfl, am_mem 64 (w := Cond.initialized RX11) (by decide +kernel) rfl, fun _ => am_mem 1264 (w := Cond.static yX11_isPerson) (by decide +kernel) rfl, fun z => absurd rfl z, fun z => absurd z (by decide), fun z => absurd z (by decide), by decide +kernel, by decide +kernel, Nat.le_of_ble_eq_true rfl⟩
abbrev m_X11_block : am_M := (yX11_block, cX11_block, 5, some .boolean, [])
def f_X11_block_29  (a0 : Nat × Nat) (x1 : Int32) (x2 : Int32) (x3 : Int32) (s0 : Int32) (s1 : Option (Nat × Nat)) (h : am_H) : am_R := m_ao s1 11 fun a7 => m_bI (f_X11_holds a7 s0 h) fun h5 v6 => if v6 = 0 then (m_rz h5 (0 : Int32)) else (m_gR (some a0) 11 2 h5 fun o8 => m_aI o8 1 (((12 : Int32) * x1) + x2) h5 fun v9 => m_gR (some a0) 11 2 h5 fun o10 => m_sZ o10 (((12 : Int32) * x1) + x2) x3 h5 fun h11 => m_rz h11 v9)
theorem t_X11_block_29 (d : Nat) (hd : 2 ≤ d)  (a0 : Nat × Nat) (x1 : Int32) (x2 : Int32) (x3 : Int32) (s0 : Int32) (s1 : Option (Nat × Nat)) (h : am_H) : Sim m_X11_block d 29 [some (.inr (.inr (some a0))), some (.inl x1), some (.inl x2), some (.inl x3), none] [.inl s0, .inr (.inr s1)] h (f_X11_block_29  a0 x1 x2 x3 s0 s1 h) := by
  unfold f_X11_block_29
  refine sim_ao1 (fun a7 e => ?_)
  refine sim_virt (d - 1) e dX11_block_29 (k_X11_holds (d - 1) (by omega) _ _ _) q_X11_holds rfl rfl wm_RX11_142 rfl rfl (by omega) (Nat.le_of_ble_eq_true rfl) am_nI (am_rI fun h5 v6 => ?_) am_eI
  refine sim_if_ne 37 dX11_block_32 (by decide) (fun c => ?_) (fun c => ?_)
  · refine sim_aload_n dX11_block_37 rfl ?_
    refine sim_gR 11 2 dX11_block_38 rfl wf_RX11_7 (Nat.le_of_ble_eq_true rfl) rfl (fun o8 => ?_)
    refine sim_bipush (12) dX11_block_41 (by decide +kernel) ?_
    refine sim_iload_n dX11_block_43 rfl ?_
    refine sim_imul dX11_block_44 ?_
    refine sim_iload_n dX11_block_45 rfl ?_
    refine sim_iadd dX11_block_46 ?_
    refine sim_aZ dX11_block_47 (fun v9 => ?_)
    refine sim_istore dX11_block_48 (Nat.le_of_ble_eq_true rfl) ?_
    refine sim_aload_n dX11_block_50 rfl ?_
    refine sim_gR 11 2 dX11_block_51 rfl wf_RX11_7 (Nat.le_of_ble_eq_true rfl) rfl (fun o10 => ?_)
    refine sim_bipush (12) dX11_block_54 (by decide +kernel) ?_
    refine sim_iload_n dX11_block_56 rfl ?_
    refine sim_imul dX11_block_57 ?_
    refine sim_iload_n dX11_block_58 rfl ?_
    refine sim_iadd dX11_block_59 ?_
    refine sim_iload_n dX11_block_60 rfl ?_
    refine sim_sZ dX11_block_61 (fun h11 => ?_)
    refine sim_iload dX11_block_62 rfl ?_
    exact sim_zret dX11_block_64 rfl
  · refine sim_iconst (0) dX11_block_35 (by decide +kernel) ?_
    exact sim_zret dX11_block_36 rfl
def f_X11_block_15  (a0 : Nat × Nat) (x1 : Int32) (x2 : Int32) (x3 : Int32) (s0 : Option (Nat × Nat)) (h : am_H) : am_R := f_X11_block_29 a0 x1 x2 x3 (1 : Int32) s0 h
theorem t_X11_block_15 (d : Nat) (hd : 2 ≤ d)  (a0 : Nat × Nat) (x1 : Int32) (x2 : Int32) (x3 : Int32) (s0 : Option (Nat × Nat)) (h : am_H) : Sim m_X11_block d 15 [some (.inr (.inr (some a0))), some (.inl x1), some (.inl x2), some (.inl x3), none] [.inr (.inr s0)] h (f_X11_block_15  a0 x1 x2 x3 s0 h) := by
  unfold f_X11_block_15
  refine sim_iconst (1) dX11_block_15 (by decide +kernel) ?_
  refine sim_goto 29 dX11_block_16 (by decide) ?_
  exact sim_lv (am_leS (am_leS (am_leS (am_leS (am_leN am_leT))))) (t_X11_block_29 d (by omega) _ _ _ _ _ _ _)
def f_X11_block (a0 : Nat × Nat) (x1 : Int32) (x2 : Int32) (x3 : Int32) (h : am_H) : am_R := m_bI (f_X11_isPerson x1 h) fun h1 v2 => if v2 = 0 then (f_X11_block_15 a0 x1 x2 x3 (some a0) h1) else (m_bI (f_X11_isPerson x2 h1) fun h3 v4 => if v4 = 0 then (f_X11_block_15 a0 x1 x2 x3 (some a0) h3) else (if x1 = x2 then (f_X11_block_29 a0 x1 x2 x3 (2 : Int32) (some a0) h3) else (f_X11_block_29 a0 x1 x2 x3 (0 : Int32) (some a0) h3)))
theorem k_X11_block (d : Nat) (hd : 2 ≤ d) (a0 : Nat × Nat) (x1 : Int32) (x2 : Int32) (x3 : Int32) (h : am_H) : am_Con m_X11_block d [.inr (.inr (some a0)), .inl x1, .inl x2, .inl x3] h (f_X11_block a0 x1 x2 x3 h) := am_con (by decide +kernel) (Nat.le_of_ble_eq_true rfl) (by
  unfold f_X11_block
  refine sim_aload_n dX11_block_0 rfl ?_
  refine sim_iload_n dX11_block_1 rfl ?_
  refine sim_static (d - 1) dX11_block_2 (k_X11_isPerson (d - 1) (by omega) _ _) q_X11_isPerson wm_RX11_146 rfl rfl (by omega) (Nat.le_of_ble_eq_true rfl) am_nI (am_rI fun h1 v2 => ?_) am_eI
  refine sim_if_eq 15 dX11_block_5 (by decide) (fun c => ?_) (fun c => ?_)
  · exact sim_lv (am_leS (am_leS (am_leS (am_leS (am_leN am_leT))))) (t_X11_block_15 d (by omega) _ _ _ _ _ _)
  · refine sim_iload_n dX11_block_8 rfl ?_
    refine sim_static (d - 1) dX11_block_9 (k_X11_isPerson (d - 1) (by omega) _ _) q_X11_isPerson wm_RX11_146 rfl rfl (by omega) (Nat.le_of_ble_eq_true rfl) am_nI (am_rI fun h3 v4 => ?_) am_eI
    refine sim_if_ne 19 dX11_block_12 (by decide) (fun c => ?_) (fun c => ?_)
    · refine sim_iload_n dX11_block_19 rfl ?_
      refine sim_iload_n dX11_block_20 rfl ?_
      refine sim_ic_ne 28 dX11_block_21 (by decide) (fun c => ?_) (fun c => ?_)
      · refine sim_iconst (0) dX11_block_28 (by decide +kernel) ?_
        exact sim_lv (am_leS (am_leS (am_leS (am_leS (am_leN am_leT))))) (t_X11_block_29 d (by omega) _ _ _ _ _ _ _)
      · refine sim_iconst (2) dX11_block_24 (by decide +kernel) ?_
        refine sim_goto 29 dX11_block_25 (by decide) ?_
        exact sim_lv (am_leS (am_leS (am_leS (am_leS (am_leN am_leT))))) (t_X11_block_29 d (by omega) _ _ _ _ _ _ _)
    · exact sim_lv (am_leS (am_leS (am_leS (am_leS (am_leN am_leT))))) (t_X11_block_15 d (by omega) _ _ _ _ _ _))
theorem q_X11_block : am_Cal m_X11_block 3 2 := ⟨am_mem 1262 (w := Cond.code yX11_block cX11_block 5 (some .boolean)) (by decide +kernel) rfl, am_mem 64 (w := Cond.initialized RX11) (by decide +kernel) rfl, fun z => absurd z (by decide), fun _ => am_mem 1260 (w := Cond.instanceMethod yX11_block) (by decide +kernel) rfl, fun z => absurd z (by decide), fun _ => am_mem 1261 (w := Cond.selects RX11 yX11_block yX11_block) (by decide +kernel) rfl, by decide +kernel, by decide +kernel, Nat.le_of_ble_eq_true rfl⟩
abbrev m_X11_change : am_M := (yX11_change, cX11_change, 4, some .boolean, [])
def f_X11_change_179  (x3 : Int32) (s0 : Int32) (s1 : Int32) (s2 : Option (Nat × Nat)) (h : am_H) : am_R := m_sZ s2 s1 s0 h fun h26 => m_rz h26 x3
theorem t_X11_change_179 (d : Nat) (hd : 1 ≤ d)  (x3 : Int32) (s0 : Int32) (s1 : Int32) (s2 : Option (Nat × Nat)) (h : am_H) : Sim m_X11_change d 179 [none, none, none, some (.inl x3)] [.inl s0, .inl s1, .inr (.inr s2)] h (f_X11_change_179  x3 s0 s1 s2 h) := by
  unfold f_X11_change_179
  refine sim_sZ dX11_change_179 (fun h26 => ?_)
  refine sim_iload_n dX11_change_180 rfl ?_
  exact sim_zret dX11_change_181 rfl
def f_X11_change_174  (x3 : Int32) (s0 : Int32) (s1 : Option (Nat × Nat)) (h : am_H) : am_R := f_X11_change_179 x3 (1 : Int32) s0 s1 h
theorem t_X11_change_174 (d : Nat) (hd : 1 ≤ d)  (x3 : Int32) (s0 : Int32) (s1 : Option (Nat × Nat)) (h : am_H) : Sim m_X11_change d 174 [none, none, none, some (.inl x3)] [.inl s0, .inr (.inr s1)] h (f_X11_change_174  x3 s0 s1 h) := by
  unfold f_X11_change_174
  refine sim_iconst (1) dX11_change_174 (by decide +kernel) ?_
  refine sim_goto 179 dX11_change_175 (by decide) ?_
  exact sim_lv (am_leN (am_leN (am_leN (am_leS am_leT)))) (t_X11_change_179 d (by omega) _ _ _ _ _)
def f_X11_change_154  (a0 : Nat × Nat) (x1 : Int32) (x2 : Int32) (x3 : Int32) (s0 : Int32) (s1 : Int32) (s2 : Option (Nat × Nat)) (h : am_H) : am_R := m_sZ s2 s1 s0 h fun h22 => m_gR (some a0) 11 43 h22 fun o23 => if x2 = (3 : Int32) then (f_X11_change_174 x3 x1 o23 h22) else (m_gR (some a0) 11 43 h22 fun o24 => m_aI o24 1 x1 h22 fun v25 => if v25 = 0 then (f_X11_change_179 x3 (0 : Int32) x1 o23 h22) else (f_X11_change_174 x3 x1 o23 h22))
theorem t_X11_change_154 (d : Nat) (hd : 1 ≤ d)  (a0 : Nat × Nat) (x1 : Int32) (x2 : Int32) (x3 : Int32) (s0 : Int32) (s1 : Int32) (s2 : Option (Nat × Nat)) (h : am_H) : Sim m_X11_change d 154 [some (.inr (.inr (some a0))), some (.inl x1), some (.inl x2), some (.inl x3)] [.inl s0, .inl s1, .inr (.inr s2)] h (f_X11_change_154  a0 x1 x2 x3 s0 s1 s2 h) := by
  unfold f_X11_change_154
  refine sim_sZ dX11_change_154 (fun h22 => ?_)
  refine sim_aload_n dX11_change_155 rfl ?_
  refine sim_gR 11 43 dX11_change_156 rfl wf_RX11_113 (Nat.le_of_ble_eq_true rfl) rfl (fun o23 => ?_)
  refine sim_iload_n dX11_change_159 rfl ?_
  refine sim_iload_n dX11_change_160 rfl ?_
  refine sim_iconst (3) dX11_change_161 (by decide +kernel) ?_
  refine sim_ic_eq 174 dX11_change_162 (by decide) (fun c => ?_) (fun c => ?_)
  · exact sim_lv (am_leN (am_leN (am_leN (am_leS am_leT)))) (t_X11_change_174 d (by omega) _ _ _ _)
  · refine sim_aload_n dX11_change_165 rfl ?_
    refine sim_gR 11 43 dX11_change_166 rfl wf_RX11_113 (Nat.le_of_ble_eq_true rfl) rfl (fun o24 => ?_)
    refine sim_iload_n dX11_change_169 rfl ?_
    refine sim_aZ dX11_change_170 (fun v25 => ?_)
    refine sim_if_eq 178 dX11_change_171 (by decide) (fun c => ?_) (fun c => ?_)
    · refine sim_iconst (0) dX11_change_178 (by decide +kernel) ?_
      exact sim_lv (am_leN (am_leN (am_leN (am_leS am_leT)))) (t_X11_change_179 d (by omega) _ _ _ _ _)
    · exact sim_lv (am_leN (am_leN (am_leN (am_leS am_leT)))) (t_X11_change_174 d (by omega) _ _ _ _)
def f_X11_change_153  (a0 : Nat × Nat) (x1 : Int32) (x2 : Int32) (x3 : Int32) (s0 : Int32) (s1 : Option (Nat × Nat)) (h : am_H) : am_R := f_X11_change_154 a0 x1 x2 x3 (0 : Int32) s0 s1 h
theorem t_X11_change_153 (d : Nat) (hd : 1 ≤ d)  (a0 : Nat × Nat) (x1 : Int32) (x2 : Int32) (x3 : Int32) (s0 : Int32) (s1 : Option (Nat × Nat)) (h : am_H) : Sim m_X11_change d 153 [some (.inr (.inr (some a0))), some (.inl x1), some (.inl x2), some (.inl x3)] [.inl s0, .inr (.inr s1)] h (f_X11_change_153  a0 x1 x2 x3 s0 s1 h) := by
  unfold f_X11_change_153
  refine sim_iconst (0) dX11_change_153 (by decide +kernel) ?_
  exact sim_lv (am_leS (am_leS (am_leS (am_leS am_leT)))) (t_X11_change_154 d (by omega) _ _ _ _ _ _ _ _)
def f_X11_change_129  (a0 : Nat × Nat) (x1 : Int32) (x2 : Int32) (x3 : Int32) (s0 : Int32) (s1 : Int32) (s2 : Option (Nat × Nat)) (h : am_H) : am_R := m_sZ s2 s1 s0 h fun h18 => m_gR (some a0) 11 42 h18 fun o19 => if x2 = (2 : Int32) then (f_X11_change_153 a0 x1 x2 x3 x1 o19 h18) else (m_gR (some a0) 11 42 h18 fun o20 => m_aI o20 1 x1 h18 fun v21 => if v21 = 0 then (f_X11_change_153 a0 x1 x2 x3 x1 o19 h18) else (f_X11_change_154 a0 x1 x2 x3 (1 : Int32) x1 o19 h18))
theorem t_X11_change_129 (d : Nat) (hd : 1 ≤ d)  (a0 : Nat × Nat) (x1 : Int32) (x2 : Int32) (x3 : Int32) (s0 : Int32) (s1 : Int32) (s2 : Option (Nat × Nat)) (h : am_H) : Sim m_X11_change d 129 [some (.inr (.inr (some a0))), some (.inl x1), some (.inl x2), some (.inl x3)] [.inl s0, .inl s1, .inr (.inr s2)] h (f_X11_change_129  a0 x1 x2 x3 s0 s1 s2 h) := by
  unfold f_X11_change_129
  refine sim_sZ dX11_change_129 (fun h18 => ?_)
  refine sim_aload_n dX11_change_130 rfl ?_
  refine sim_gR 11 42 dX11_change_131 rfl wf_RX11_110 (Nat.le_of_ble_eq_true rfl) rfl (fun o19 => ?_)
  refine sim_iload_n dX11_change_134 rfl ?_
  refine sim_iload_n dX11_change_135 rfl ?_
  refine sim_iconst (2) dX11_change_136 (by decide +kernel) ?_
  refine sim_ic_eq 153 dX11_change_137 (by decide) (fun c => ?_) (fun c => ?_)
  · exact sim_lv (am_leS (am_leS (am_leS (am_leS am_leT)))) (t_X11_change_153 d (by omega) _ _ _ _ _ _ _)
  · refine sim_aload_n dX11_change_140 rfl ?_
    refine sim_gR 11 42 dX11_change_141 rfl wf_RX11_110 (Nat.le_of_ble_eq_true rfl) rfl (fun o20 => ?_)
    refine sim_iload_n dX11_change_144 rfl ?_
    refine sim_aZ dX11_change_145 (fun v21 => ?_)
    refine sim_if_eq 153 dX11_change_146 (by decide) (fun c => ?_) (fun c => ?_)
    · exact sim_lv (am_leS (am_leS (am_leS (am_leS am_leT)))) (t_X11_change_153 d (by omega) _ _ _ _ _ _ _)
    · refine sim_iconst (1) dX11_change_149 (by decide +kernel) ?_
      refine sim_goto 154 dX11_change_150 (by decide) ?_
      exact sim_lv (am_leS (am_leS (am_leS (am_leS am_leT)))) (t_X11_change_154 d (by omega) _ _ _ _ _ _ _ _)
def f_X11_change_128  (a0 : Nat × Nat) (x1 : Int32) (x2 : Int32) (x3 : Int32) (s0 : Int32) (s1 : Option (Nat × Nat)) (h : am_H) : am_R := f_X11_change_129 a0 x1 x2 x3 (0 : Int32) s0 s1 h
theorem t_X11_change_128 (d : Nat) (hd : 1 ≤ d)  (a0 : Nat × Nat) (x1 : Int32) (x2 : Int32) (x3 : Int32) (s0 : Int32) (s1 : Option (Nat × Nat)) (h : am_H) : Sim m_X11_change d 128 [some (.inr (.inr (some a0))), some (.inl x1), some (.inl x2), some (.inl x3)] [.inl s0, .inr (.inr s1)] h (f_X11_change_128  a0 x1 x2 x3 s0 s1 h) := by
  unfold f_X11_change_128
  refine sim_iconst (0) dX11_change_128 (by decide +kernel) ?_
  exact sim_lv (am_leS (am_leS (am_leS (am_leS am_leT)))) (t_X11_change_129 d (by omega) _ _ _ _ _ _ _ _)
def f_X11_change_124  (a0 : Nat × Nat) (x1 : Int32) (x2 : Int32) (x3 : Int32) (s0 : Int32) (s1 : Option (Nat × Nat)) (h : am_H) : am_R := f_X11_change_129 a0 x1 x2 x3 (1 : Int32) s0 s1 h
theorem t_X11_change_124 (d : Nat) (hd : 1 ≤ d)  (a0 : Nat × Nat) (x1 : Int32) (x2 : Int32) (x3 : Int32) (s0 : Int32) (s1 : Option (Nat × Nat)) (h : am_H) : Sim m_X11_change d 124 [some (.inr (.inr (some a0))), some (.inl x1), some (.inl x2), some (.inl x3)] [.inl s0, .inr (.inr s1)] h (f_X11_change_124  a0 x1 x2 x3 s0 s1 h) := by
  unfold f_X11_change_124
  refine sim_iconst (1) dX11_change_124 (by decide +kernel) ?_
  refine sim_goto 129 dX11_change_125 (by decide) ?_
  exact sim_lv (am_leS (am_leS (am_leS (am_leS am_leT)))) (t_X11_change_129 d (by omega) _ _ _ _ _ _ _ _)
def f_X11_change_100  (a0 : Nat × Nat) (x1 : Int32) (x2 : Int32) (s0 : Int32) (h : am_H) : am_R := m_gR (some a0) 11 41 h fun o15 => if x2 = 0 then (f_X11_change_124 a0 x1 x2 s0 x1 o15 h) else (if x2 ≤ (1 : Int32) then (f_X11_change_128 a0 x1 x2 s0 x1 o15 h) else (m_gR (some a0) 11 41 h fun o16 => m_aI o16 1 x1 h fun v17 => if v17 = 0 then (f_X11_change_128 a0 x1 x2 s0 x1 o15 h) else (f_X11_change_124 a0 x1 x2 s0 x1 o15 h)))
theorem t_X11_change_100 (d : Nat) (hd : 1 ≤ d)  (a0 : Nat × Nat) (x1 : Int32) (x2 : Int32) (s0 : Int32) (h : am_H) : Sim m_X11_change d 100 [some (.inr (.inr (some a0))), some (.inl x1), some (.inl x2), none] [.inl s0] h (f_X11_change_100  a0 x1 x2 s0 h) := by
  unfold f_X11_change_100
  refine sim_istore_n dX11_change_100 (Nat.le_of_ble_eq_true rfl) ?_
  refine sim_aload_n dX11_change_101 rfl ?_
  refine sim_gR 11 41 dX11_change_102 rfl wf_RX11_107 (Nat.le_of_ble_eq_true rfl) rfl (fun o15 => ?_)
  refine sim_iload_n dX11_change_105 rfl ?_
  refine sim_iload_n dX11_change_106 rfl ?_
  refine sim_if_eq 124 dX11_change_107 (by decide) (fun c => ?_) (fun c => ?_)
  · exact sim_lv (am_leS (am_leS (am_leS (am_leS am_leT)))) (t_X11_change_124 d (by omega) _ _ _ _ _ _ _)
  · refine sim_iload_n dX11_change_110 rfl ?_
    refine sim_iconst (1) dX11_change_111 (by decide +kernel) ?_
    refine sim_ic_le 128 dX11_change_112 (by decide) (fun c => ?_) (fun c => ?_)
    · exact sim_lv (am_leS (am_leS (am_leS (am_leS am_leT)))) (t_X11_change_128 d (by omega) _ _ _ _ _ _ _)
    · refine sim_aload_n dX11_change_115 rfl ?_
      refine sim_gR 11 41 dX11_change_116 rfl wf_RX11_107 (Nat.le_of_ble_eq_true rfl) rfl (fun o16 => ?_)
      refine sim_iload_n dX11_change_119 rfl ?_
      refine sim_aZ dX11_change_120 (fun v17 => ?_)
      refine sim_if_eq 128 dX11_change_121 (by decide) (fun c => ?_) (fun c => ?_)
      · exact sim_lv (am_leS (am_leS (am_leS (am_leS am_leT)))) (t_X11_change_128 d (by omega) _ _ _ _ _ _ _)
      · exact sim_lv (am_leS (am_leS (am_leS (am_leS am_leT)))) (t_X11_change_124 d (by omega) _ _ _ _ _ _ _)
def f_X11_change_92  (a0 : Nat × Nat) (x1 : Int32) (x2 : Int32) (s0 : Int32) (s1 : Int32) (h : am_H) : am_R := if s1 = s0 then (f_X11_change_100 a0 x1 x2 (0 : Int32) h) else (f_X11_change_100 a0 x1 x2 (1 : Int32) h)
theorem t_X11_change_92 (d : Nat) (hd : 1 ≤ d)  (a0 : Nat × Nat) (x1 : Int32) (x2 : Int32) (s0 : Int32) (s1 : Int32) (h : am_H) : Sim m_X11_change d 92 [some (.inr (.inr (some a0))), some (.inl x1), some (.inl x2), none] [.inl s0, .inl s1] h (f_X11_change_92  a0 x1 x2 s0 s1 h) := by
  unfold f_X11_change_92
  refine sim_ic_eq 99 dX11_change_92 (by decide) (fun c => ?_) (fun c => ?_)
  · refine sim_iconst (0) dX11_change_99 (by decide +kernel) ?_
    exact sim_lv (am_leS (am_leS (am_leS (am_leN am_leT)))) (t_X11_change_100 d (by omega) _ _ _ _ _)
  · refine sim_iconst (1) dX11_change_95 (by decide +kernel) ?_
    refine sim_goto 100 dX11_change_96 (by decide) ?_
    exact sim_lv (am_leS (am_leS (am_leS (am_leN am_leT)))) (t_X11_change_100 d (by omega) _ _ _ _ _)
def f_X11_change_33  (a0 : Nat × Nat) (x1 : Int32) (x2 : Int32) (s0 : Int32) (s1 : Option (Nat × Nat)) (h : am_H) : am_R := m_ao s1 11 fun a8 => m_bI (f_X11_holds a8 s0 h) fun h6 v7 => if v7 = 0 then (m_rz h6 (0 : Int32)) else (if x2 = (2 : Int32) then (m_gR (some a0) 11 42 h6 fun o13 => m_aI o13 1 x1 h6 fun v14 => f_X11_change_100 a0 x1 x2 v14 h6) else (if x2 = (3 : Int32) then (m_gR (some a0) 11 43 h6 fun o11 => m_aI o11 1 x1 h6 fun v12 => if v12 = 0 then (f_X11_change_100 a0 x1 x2 (1 : Int32) h6) else (f_X11_change_100 a0 x1 x2 (0 : Int32) h6)) else (m_gR (some a0) 11 41 h6 fun o9 => m_aI o9 1 x1 h6 fun v10 => if x2 = 0 then (f_X11_change_92 a0 x1 x2 (1 : Int32) v10 h6) else (f_X11_change_92 a0 x1 x2 (0 : Int32) v10 h6))))
theorem t_X11_change_33 (d : Nat) (hd : 1 ≤ d)  (a0 : Nat × Nat) (x1 : Int32) (x2 : Int32) (s0 : Int32) (s1 : Option (Nat × Nat)) (h : am_H) : Sim m_X11_change d 33 [some (.inr (.inr (some a0))), some (.inl x1), some (.inl x2), none] [.inl s0, .inr (.inr s1)] h (f_X11_change_33  a0 x1 x2 s0 s1 h) := by
  unfold f_X11_change_33
  refine sim_ao1 (fun a8 e => ?_)
  refine sim_virt (d - 1) e dX11_change_33 (k_X11_holds (d - 1) (by omega) _ _ _) q_X11_holds rfl rfl wm_RX11_142 rfl rfl (by omega) (Nat.le_of_ble_eq_true rfl) am_nI (am_rI fun h6 v7 => ?_) am_eI
  refine sim_if_ne 41 dX11_change_36 (by decide) (fun c => ?_) (fun c => ?_)
  · refine sim_iload_n dX11_change_41 rfl ?_
    refine sim_iconst (2) dX11_change_42 (by decide +kernel) ?_
    refine sim_ic_ne 55 dX11_change_43 (by decide) (fun c => ?_) (fun c => ?_)
    · refine sim_iload_n dX11_change_55 rfl ?_
      refine sim_iconst (3) dX11_change_56 (by decide +kernel) ?_
      refine sim_ic_ne 77 dX11_change_57 (by decide) (fun c => ?_) (fun c => ?_)
      · refine sim_aload_n dX11_change_77 rfl ?_
        refine sim_gR 11 41 dX11_change_78 rfl wf_RX11_107 (Nat.le_of_ble_eq_true rfl) rfl (fun o9 => ?_)
        refine sim_iload_n dX11_change_81 rfl ?_
        refine sim_aZ dX11_change_82 (fun v10 => ?_)
        refine sim_iload_n dX11_change_83 rfl ?_
        refine sim_if_ne 91 dX11_change_84 (by decide) (fun c => ?_) (fun c => ?_)
        · refine sim_iconst (0) dX11_change_91 (by decide +kernel) ?_
          exact sim_lv (am_leS (am_leS (am_leS (am_leN am_leT)))) (t_X11_change_92 d (by omega) _ _ _ _ _ _)
        · refine sim_iconst (1) dX11_change_87 (by decide +kernel) ?_
          refine sim_goto 92 dX11_change_88 (by decide) ?_
          exact sim_lv (am_leS (am_leS (am_leS (am_leN am_leT)))) (t_X11_change_92 d (by omega) _ _ _ _ _ _)
      · refine sim_aload_n dX11_change_60 rfl ?_
        refine sim_gR 11 43 dX11_change_61 rfl wf_RX11_113 (Nat.le_of_ble_eq_true rfl) rfl (fun o11 => ?_)
        refine sim_iload_n dX11_change_64 rfl ?_
        refine sim_aZ dX11_change_65 (fun v12 => ?_)
        refine sim_if_ne 73 dX11_change_66 (by decide) (fun c => ?_) (fun c => ?_)
        · refine sim_iconst (0) dX11_change_73 (by decide +kernel) ?_
          refine sim_goto 100 dX11_change_74 (by decide) ?_
          exact sim_lv (am_leS (am_leS (am_leS (am_leN am_leT)))) (t_X11_change_100 d (by omega) _ _ _ _ _)
        · refine sim_iconst (1) dX11_change_69 (by decide +kernel) ?_
          refine sim_goto 100 dX11_change_70 (by decide) ?_
          exact sim_lv (am_leS (am_leS (am_leS (am_leN am_leT)))) (t_X11_change_100 d (by omega) _ _ _ _ _)
    · refine sim_aload_n dX11_change_46 rfl ?_
      refine sim_gR 11 42 dX11_change_47 rfl wf_RX11_110 (Nat.le_of_ble_eq_true rfl) rfl (fun o13 => ?_)
      refine sim_iload_n dX11_change_50 rfl ?_
      refine sim_aZ dX11_change_51 (fun v14 => ?_)
      refine sim_goto 100 dX11_change_52 (by decide) ?_
      exact sim_lv (am_leS (am_leS (am_leS (am_leN am_leT)))) (t_X11_change_100 d (by omega) _ _ _ _ _)
  · refine sim_iconst (0) dX11_change_39 (by decide +kernel) ?_
    exact sim_zret dX11_change_40 rfl
def f_X11_change (a0 : Nat × Nat) (x1 : Int32) (x2 : Int32) (h : am_H) : am_R := m_gI (some a0) 11 37 h fun v1 => m_bI (f_X11_in x1 (0 : Int32) (v1 - (1 : Int32)) h) fun h2 v3 => if v3 = 0 then (f_X11_change_33 a0 x1 x2 (1 : Int32) (some a0) h2) else (m_bI (f_X11_in x2 (0 : Int32) (3 : Int32) h2) fun h4 v5 => if v5 = 0 then (f_X11_change_33 a0 x1 x2 (2 : Int32) (some a0) h4) else (f_X11_change_33 a0 x1 x2 (0 : Int32) (some a0) h4))
theorem k_X11_change (d : Nat) (hd : 1 ≤ d) (a0 : Nat × Nat) (x1 : Int32) (x2 : Int32) (h : am_H) : am_Con m_X11_change d [.inr (.inr (some a0)), .inl x1, .inl x2] h (f_X11_change a0 x1 x2 h) := am_con (by decide +kernel) (Nat.le_of_ble_eq_true rfl) (by
  unfold f_X11_change
  refine sim_aload_n dX11_change_0 rfl ?_
  refine sim_iload_n dX11_change_1 rfl ?_
  refine sim_iconst (0) dX11_change_2 (by decide +kernel) ?_
  refine sim_aload_n dX11_change_3 rfl ?_
  refine sim_gI 11 37 dX11_change_4 rfl wf_RX11_248 (Nat.le_of_ble_eq_true rfl) rfl (fun v1 => ?_)
  refine sim_iconst (1) dX11_change_7 (by decide +kernel) ?_
  refine sim_isub dX11_change_8 ?_
  refine sim_static (d - 1) dX11_change_9 (k_X11_in (d - 1) (by omega) _ _ _ _) q_X11_in wm_RX11_129 rfl rfl (by omega) (Nat.le_of_ble_eq_true rfl) am_nI (am_rI fun h2 v3 => ?_) am_eI
  refine sim_if_ne 19 dX11_change_12 (by decide) (fun c => ?_) (fun c => ?_)
  · refine sim_iload_n dX11_change_19 rfl ?_
    refine sim_iconst (0) dX11_change_20 (by decide +kernel) ?_
    refine sim_iconst (3) dX11_change_21 (by decide +kernel) ?_
    refine sim_static (d - 1) dX11_change_22 (k_X11_in (d - 1) (by omega) _ _ _ _) q_X11_in wm_RX11_129 rfl rfl (by omega) (Nat.le_of_ble_eq_true rfl) am_nI (am_rI fun h4 v5 => ?_) am_eI
    refine sim_if_eq 32 dX11_change_25 (by decide) (fun c => ?_) (fun c => ?_)
    · refine sim_iconst (2) dX11_change_32 (by decide +kernel) ?_
      exact sim_lv (am_leS (am_leS (am_leS (am_leN am_leT)))) (t_X11_change_33 d (by omega) _ _ _ _ _ _)
    · refine sim_iconst (0) dX11_change_28 (by decide +kernel) ?_
      refine sim_goto 33 dX11_change_29 (by decide) ?_
      exact sim_lv (am_leS (am_leS (am_leS (am_leN am_leT)))) (t_X11_change_33 d (by omega) _ _ _ _ _ _)
  · refine sim_iconst (1) dX11_change_15 (by decide +kernel) ?_
    refine sim_goto 33 dX11_change_16 (by decide) ?_
    exact sim_lv (am_leS (am_leS (am_leS (am_leN am_leT)))) (t_X11_change_33 d (by omega) _ _ _ _ _ _))
theorem q_X11_change : am_Cal m_X11_change 2 2 := ⟨am_mem 1500 (w := Cond.code yX11_change cX11_change 4 (some .boolean)) (by decide +kernel) rfl, am_mem 64 (w := Cond.initialized RX11) (by decide +kernel) rfl, fun z => absurd z (by decide), fun _ => am_mem 1498 (w := Cond.instanceMethod yX11_change) (by decide +kernel) rfl, fun z => absurd z (by decide), fun _ => am_mem 1499 (w := Cond.selects RX11 yX11_change yX11_change) (by decide +kernel) rfl, by decide +kernel, by decide +kernel, Nat.le_of_ble_eq_true rfl⟩
abbrev m_X11_isWork : am_M := (yX11_isWork, cX11_isWork, 2, some .boolean, [])
def f_X11_isWork (a0 : Nat × Nat) (x1 : Int32) (h : am_H) : am_R := m_gI (some a0) 11 4 h fun v1 => m_bI (f_X11_in x1 (0 : Int32) (v1 - (1 : Int32)) h) fun h2 v3 => m_rz h2 v3
theorem k_X11_isWork (d : Nat) (hd : 1 ≤ d) (a0 : Nat × Nat) (x1 : Int32) (h : am_H) : am_Con m_X11_isWork d [.inr (.inr (some a0)), .inl x1] h (f_X11_isWork a0 x1 h) := am_con (by decide +kernel) (Nat.le_of_ble_eq_true rfl) (by
  unfold f_X11_isWork
  refine sim_iload_n dX11_isWork_0 rfl ?_
  refine sim_iconst (0) dX11_isWork_1 (by decide +kernel) ?_
  refine sim_aload_n dX11_isWork_2 rfl ?_
  refine sim_gI 11 4 dX11_isWork_3 rfl wf_RX11_133 (Nat.le_of_ble_eq_true rfl) rfl (fun v1 => ?_)
  refine sim_iconst (1) dX11_isWork_6 (by decide +kernel) ?_
  refine sim_isub dX11_isWork_7 ?_
  refine sim_static (d - 1) dX11_isWork_8 (k_X11_in (d - 1) (by omega) _ _ _ _) q_X11_in wm_RX11_129 rfl rfl (by omega) (Nat.le_of_ble_eq_true rfl) am_nI (am_rI fun h2 v3 => ?_) am_eI
  exact sim_zret dX11_isWork_11 rfl)
theorem q_X11_isWork : am_Cal m_X11_isWork 1 2 := ⟨am_mem 1284 (w := Cond.code yX11_isWork cX11_isWork 2 (some .boolean)) (by decide +kernel) rfl, am_mem 64 (w := Cond.initialized RX11) (by decide +kernel) rfl, fun z => absurd z (by decide), fun _ => am_mem 1283 (w := Cond.instanceMethod yX11_isWork) (by decide +kernel) rfl, fun z => absurd z (by decide), fun _ => am_mem 30 (w := Cond.selects RX11 yX11_isWork yX11_isWork) (by decide +kernel) rfl, by decide +kernel, by decide +kernel, Nat.le_of_ble_eq_true rfl⟩
abbrev m_X11_chapter : am_M := (yX11_chapter, cX11_chapter, 3, some .int, [])
def f_X11_chapter_31  (a0 : Nat × Nat) (x1 : Int32) (s0 : Int32) (s1 : Option (Nat × Nat)) (h : am_H) : am_R := m_ao s1 11 fun a8 => m_bI (f_X11_holds a8 s0 h) fun h6 v7 => if v7 = 0 then (m_ri h6 (0 : Int32)) else (m_gR (some a0) 11 8 h6 fun o9 => m_gR (some a0) 11 7 h6 fun o10 => m_aI o10 0 x1 h6 fun v11 => m_gI (some a0) 11 1 h6 fun v12 => m_sI o9 (((8 : Int32) * x1) + v11) v12 h6 fun h13 => m_gR (some a0) 11 7 h13 fun o14 => m_aI o14 0 x1 h13 fun v15 => m_sI o14 x1 (v15 + (1 : Int32)) h13 fun h16 => m_gR (some a0) 11 7 h16 fun o17 => m_aI o17 0 x1 h16 fun v18 => m_ri h16 (v18 - (1 : Int32)))
theorem t_X11_chapter_31 (d : Nat) (hd : 2 ≤ d)  (a0 : Nat × Nat) (x1 : Int32) (s0 : Int32) (s1 : Option (Nat × Nat)) (h : am_H) : Sim m_X11_chapter d 31 [some (.inr (.inr (some a0))), some (.inl x1), none] [.inl s0, .inr (.inr s1)] h (f_X11_chapter_31  a0 x1 s0 s1 h) := by
  unfold f_X11_chapter_31
  refine sim_ao1 (fun a8 e => ?_)
  refine sim_virt (d - 1) e dX11_chapter_31 (k_X11_holds (d - 1) (by omega) _ _ _) q_X11_holds rfl rfl wm_RX11_142 rfl rfl (by omega) (Nat.le_of_ble_eq_true rfl) am_nI (am_rI fun h6 v7 => ?_) am_eI
  refine sim_if_ne 39 dX11_chapter_34 (by decide) (fun c => ?_) (fun c => ?_)
  · refine sim_aload_n dX11_chapter_39 rfl ?_
    refine sim_gR 11 8 dX11_chapter_40 rfl wf_RX11_26 (Nat.le_of_ble_eq_true rfl) rfl (fun o9 => ?_)
    refine sim_bipush (8) dX11_chapter_43 (by decide +kernel) ?_
    refine sim_iload_n dX11_chapter_45 rfl ?_
    refine sim_imul dX11_chapter_46 ?_
    refine sim_aload_n dX11_chapter_47 rfl ?_
    refine sim_gR 11 7 dX11_chapter_48 rfl wf_RX11_23 (Nat.le_of_ble_eq_true rfl) rfl (fun o10 => ?_)
    refine sim_iload_n dX11_chapter_51 rfl ?_
    refine sim_aI dX11_chapter_52 (fun v11 => ?_)
    refine sim_iadd dX11_chapter_53 ?_
    refine sim_aload_n dX11_chapter_54 rfl ?_
    refine sim_gI 11 1 dX11_chapter_55 rfl wf_RX11_139 (Nat.le_of_ble_eq_true rfl) rfl (fun v12 => ?_)
    refine sim_sI dX11_chapter_58 (fun h13 => ?_)
    refine sim_aload_n dX11_chapter_59 rfl ?_
    refine sim_gR 11 7 dX11_chapter_60 rfl wf_RX11_23 (Nat.le_of_ble_eq_true rfl) rfl (fun o14 => ?_)
    refine sim_iload_n dX11_chapter_63 rfl ?_
    refine sim_dup2 dX11_chapter_64 ?_
    refine sim_aI dX11_chapter_65 (fun v15 => ?_)
    refine sim_iconst (1) dX11_chapter_66 (by decide +kernel) ?_
    refine sim_iadd dX11_chapter_67 ?_
    refine sim_sI dX11_chapter_68 (fun h16 => ?_)
    refine sim_aload_n dX11_chapter_69 rfl ?_
    refine sim_gR 11 7 dX11_chapter_70 rfl wf_RX11_23 (Nat.le_of_ble_eq_true rfl) rfl (fun o17 => ?_)
    refine sim_iload_n dX11_chapter_73 rfl ?_
    refine sim_aI dX11_chapter_74 (fun v18 => ?_)
    refine sim_iconst (1) dX11_chapter_75 (by decide +kernel) ?_
    refine sim_isub dX11_chapter_76 ?_
    exact sim_iret dX11_chapter_77 rfl
  · refine sim_iconst (0) dX11_chapter_37 (by decide +kernel) ?_
    exact sim_iret dX11_chapter_38 rfl
def f_X11_chapter (a0 : Nat × Nat) (x1 : Int32) (h : am_H) : am_R := m_ao (some a0) 11 fun a3 => m_bI (f_X11_isWork a3 x1 h) fun h1 v2 => if v2 = 0 then (f_X11_chapter_31 a0 x1 (1 : Int32) (some a0) h1) else (m_gR (some a0) 11 7 h1 fun o4 => m_aI o4 0 x1 h1 fun v5 => if v5 = (8 : Int32) then (f_X11_chapter_31 a0 x1 (2 : Int32) (some a0) h1) else (f_X11_chapter_31 a0 x1 (0 : Int32) (some a0) h1))
theorem k_X11_chapter (d : Nat) (hd : 2 ≤ d) (a0 : Nat × Nat) (x1 : Int32) (h : am_H) : am_Con m_X11_chapter d [.inr (.inr (some a0)), .inl x1] h (f_X11_chapter a0 x1 h) := am_con (by decide +kernel) (Nat.le_of_ble_eq_true rfl) (by
  unfold f_X11_chapter
  refine sim_aload_n dX11_chapter_0 rfl ?_
  refine sim_iload_n dX11_chapter_1 rfl ?_
  refine sim_ao1 (fun a3 e => ?_)
  refine sim_virt (d - 1) e dX11_chapter_2 (k_X11_isWork (d - 1) (by omega) _ _ _) q_X11_isWork rfl rfl wm_RX11_152 rfl rfl (by omega) (Nat.le_of_ble_eq_true rfl) am_nI (am_rI fun h1 v2 => ?_) am_eI
  refine sim_istore_n dX11_chapter_5 (Nat.le_of_ble_eq_true rfl) ?_
  refine sim_aload_n dX11_chapter_6 rfl ?_
  refine sim_iload_n dX11_chapter_7 rfl ?_
  refine sim_if_ne 15 dX11_chapter_8 (by decide) (fun c => ?_) (fun c => ?_)
  · refine sim_aload_n dX11_chapter_15 rfl ?_
    refine sim_gR 11 7 dX11_chapter_16 rfl wf_RX11_23 (Nat.le_of_ble_eq_true rfl) rfl (fun o4 => ?_)
    refine sim_iload_n dX11_chapter_19 rfl ?_
    refine sim_aI dX11_chapter_20 (fun v5 => ?_)
    refine sim_bipush (8) dX11_chapter_21 (by decide +kernel) ?_
    refine sim_ic_ne 30 dX11_chapter_23 (by decide) (fun c => ?_) (fun c => ?_)
    · refine sim_iconst (0) dX11_chapter_30 (by decide +kernel) ?_
      exact sim_lv (am_leS (am_leS (am_leN am_leT))) (t_X11_chapter_31 d (by omega) _ _ _ _ _)
    · refine sim_iconst (2) dX11_chapter_26 (by decide +kernel) ?_
      refine sim_goto 31 dX11_chapter_27 (by decide) ?_
      exact sim_lv (am_leS (am_leS (am_leN am_leT))) (t_X11_chapter_31 d (by omega) _ _ _ _ _)
  · refine sim_iconst (1) dX11_chapter_11 (by decide +kernel) ?_
    refine sim_goto 31 dX11_chapter_12 (by decide) ?_
    exact sim_lv (am_leS (am_leS (am_leN am_leT))) (t_X11_chapter_31 d (by omega) _ _ _ _ _))
theorem q_X11_chapter : am_Cal m_X11_chapter 1 2 := ⟨am_mem 1298 (w := Cond.code yX11_chapter cX11_chapter 3 (some .int)) (by decide +kernel) rfl, am_mem 64 (w := Cond.initialized RX11) (by decide +kernel) rfl, fun z => absurd z (by decide), fun _ => am_mem 1296 (w := Cond.instanceMethod yX11_chapter) (by decide +kernel) rfl, fun z => absurd z (by decide), fun _ => am_mem 1297 (w := Cond.selects RX11 yX11_chapter yX11_chapter) (by decide +kernel) rfl, by decide +kernel, by decide +kernel, Nat.le_of_ble_eq_true rfl⟩
abbrev m_X11_collect : am_M := (yX11_collect, cX11_collect, 4, none, [])
def f_X11_collect_65   (h : am_H) : am_R := m_rt h none
theorem t_X11_collect_65 (d : Nat) (hd : 2 ≤ d)   (h : am_H) : Sim m_X11_collect d 65 [none, none, none, none] [] h (f_X11_collect_65   h) := by
  unfold f_X11_collect_65
  exact sim_vret dX11_collect_65 rfl
def f_X11_collect_52  (a0 : Nat × Nat) (x1 : Int32) (x2 : Int32) (s0 : Int32) (s1 : Option (Nat × Nat)) (h : am_H) : am_R := m_ao s1 11 fun a11 => m_bI (f_X11_holds a11 s0 h) fun h9 v10 => if v10 = 0 then (f_X11_collect_65 h9) else (m_gR (some a0) 11 11 h9 fun o12 => m_sI o12 x1 x2 h9 fun h13 => f_X11_collect_65 h13)
theorem t_X11_collect_52 (d : Nat) (hd : 2 ≤ d)  (a0 : Nat × Nat) (x1 : Int32) (x2 : Int32) (s0 : Int32) (s1 : Option (Nat × Nat)) (h : am_H) : Sim m_X11_collect d 52 [some (.inr (.inr (some a0))), some (.inl x1), some (.inl x2), none] [.inl s0, .inr (.inr s1)] h (f_X11_collect_52  a0 x1 x2 s0 s1 h) := by
  unfold f_X11_collect_52
  refine sim_ao1 (fun a11 e => ?_)
  refine sim_virt (d - 1) e dX11_collect_52 (k_X11_holds (d - 1) (by omega) _ _ _) q_X11_holds rfl rfl wm_RX11_142 rfl rfl (by omega) (Nat.le_of_ble_eq_true rfl) am_nI (am_rI fun h9 v10 => ?_) am_eI
  refine sim_if_eq 65 dX11_collect_55 (by decide) (fun c => ?_) (fun c => ?_)
  · exact sim_lv (am_leN (am_leN (am_leN (am_leN am_leT)))) (t_X11_collect_65 d (by omega) _)
  · refine sim_aload_n dX11_collect_58 rfl ?_
    refine sim_gR 11 11 dX11_collect_59 rfl wf_RX11_35 (Nat.le_of_ble_eq_true rfl) rfl (fun o12 => ?_)
    refine sim_iload_n dX11_collect_62 rfl ?_
    refine sim_iload_n dX11_collect_63 rfl ?_
    refine sim_sI dX11_collect_64 (fun h13 => ?_)
    exact sim_lv (am_leN (am_leN (am_leN (am_leN am_leT)))) (t_X11_collect_65 d (by omega) _)
def f_X11_collect_27  (a0 : Nat × Nat) (x1 : Int32) (x2 : Int32) (s0 : Int32) (h : am_H) : am_R := if s0 = 0 then (f_X11_collect_52 a0 x1 x2 (1 : Int32) (some a0) h) else (m_gR (some a0) 11 11 h fun o7 => m_aI o7 0 x1 h fun v8 => if v8 = (-1 : Int32) then (f_X11_collect_52 a0 x1 x2 (0 : Int32) (some a0) h) else (f_X11_collect_52 a0 x1 x2 (2 : Int32) (some a0) h))
theorem t_X11_collect_27 (d : Nat) (hd : 2 ≤ d)  (a0 : Nat × Nat) (x1 : Int32) (x2 : Int32) (s0 : Int32) (h : am_H) : Sim m_X11_collect d 27 [some (.inr (.inr (some a0))), some (.inl x1), some (.inl x2), none] [.inl s0] h (f_X11_collect_27  a0 x1 x2 s0 h) := by
  unfold f_X11_collect_27
  refine sim_istore_n dX11_collect_27 (Nat.le_of_ble_eq_true rfl) ?_
  refine sim_aload_n dX11_collect_28 rfl ?_
  refine sim_iload_n dX11_collect_29 rfl ?_
  refine sim_if_ne 37 dX11_collect_30 (by decide) (fun c => ?_) (fun c => ?_)
  · refine sim_aload_n dX11_collect_37 rfl ?_
    refine sim_gR 11 11 dX11_collect_38 rfl wf_RX11_35 (Nat.le_of_ble_eq_true rfl) rfl (fun o7 => ?_)
    refine sim_iload_n dX11_collect_41 rfl ?_
    refine sim_aI dX11_collect_42 (fun v8 => ?_)
    refine sim_iconst (-1) dX11_collect_43 (by decide +kernel) ?_
    refine sim_ic_eq 51 dX11_collect_44 (by decide) (fun c => ?_) (fun c => ?_)
    · refine sim_iconst (0) dX11_collect_51 (by decide +kernel) ?_
      exact sim_lv (am_leS (am_leS (am_leS (am_leN am_leT)))) (t_X11_collect_52 d (by omega) _ _ _ _ _ _)
    · refine sim_iconst (2) dX11_collect_47 (by decide +kernel) ?_
      refine sim_goto 52 dX11_collect_48 (by decide) ?_
      exact sim_lv (am_leS (am_leS (am_leS (am_leN am_leT)))) (t_X11_collect_52 d (by omega) _ _ _ _ _ _)
  · refine sim_iconst (1) dX11_collect_33 (by decide +kernel) ?_
    refine sim_goto 52 dX11_collect_34 (by decide) ?_
    exact sim_lv (am_leS (am_leS (am_leS (am_leN am_leT)))) (t_X11_collect_52 d (by omega) _ _ _ _ _ _)
def f_X11_collect_26  (a0 : Nat × Nat) (x1 : Int32) (x2 : Int32) (h : am_H) : am_R := f_X11_collect_27 a0 x1 x2 (0 : Int32) h
theorem t_X11_collect_26 (d : Nat) (hd : 2 ≤ d)  (a0 : Nat × Nat) (x1 : Int32) (x2 : Int32) (h : am_H) : Sim m_X11_collect d 26 [some (.inr (.inr (some a0))), some (.inl x1), some (.inl x2), none] [] h (f_X11_collect_26  a0 x1 x2 h) := by
  unfold f_X11_collect_26
  refine sim_iconst (0) dX11_collect_26 (by decide +kernel) ?_
  exact sim_lv (am_leS (am_leS (am_leS (am_leN am_leT)))) (t_X11_collect_27 d (by omega) _ _ _ _ _)
def f_X11_collect (a0 : Nat × Nat) (x1 : Int32) (x2 : Int32) (h : am_H) : am_R := m_ao (some a0) 11 fun a3 => m_bI (f_X11_isWork a3 x1 h) fun h1 v2 => if v2 = 0 then (f_X11_collect_26 a0 x1 x2 h1) else (m_gI (some a0) 11 17 h1 fun v4 => m_bI (f_X11_in x2 (0 : Int32) (v4 - (1 : Int32)) h1) fun h5 v6 => if v6 = 0 then (f_X11_collect_26 a0 x1 x2 h5) else (f_X11_collect_27 a0 x1 x2 (1 : Int32) h5))
theorem k_X11_collect (d : Nat) (hd : 2 ≤ d) (a0 : Nat × Nat) (x1 : Int32) (x2 : Int32) (h : am_H) : am_Con m_X11_collect d [.inr (.inr (some a0)), .inl x1, .inl x2] h (f_X11_collect a0 x1 x2 h) := am_con (by decide +kernel) (Nat.le_of_ble_eq_true rfl) (by
  unfold f_X11_collect
  refine sim_aload_n dX11_collect_0 rfl ?_
  refine sim_iload_n dX11_collect_1 rfl ?_
  refine sim_ao1 (fun a3 e => ?_)
  refine sim_virt (d - 1) e dX11_collect_2 (k_X11_isWork (d - 1) (by omega) _ _ _) q_X11_isWork rfl rfl wm_RX11_152 rfl rfl (by omega) (Nat.le_of_ble_eq_true rfl) am_nI (am_rI fun h1 v2 => ?_) am_eI
  refine sim_if_eq 26 dX11_collect_5 (by decide) (fun c => ?_) (fun c => ?_)
  · exact sim_lv (am_leS (am_leS (am_leS (am_leN am_leT)))) (t_X11_collect_26 d (by omega) _ _ _ _)
  · refine sim_iload_n dX11_collect_8 rfl ?_
    refine sim_iconst (0) dX11_collect_9 (by decide +kernel) ?_
    refine sim_aload_n dX11_collect_10 rfl ?_
    refine sim_gI 11 17 dX11_collect_11 rfl wf_RX11_163 (Nat.le_of_ble_eq_true rfl) rfl (fun v4 => ?_)
    refine sim_iconst (1) dX11_collect_14 (by decide +kernel) ?_
    refine sim_isub dX11_collect_15 ?_
    refine sim_static (d - 1) dX11_collect_16 (k_X11_in (d - 1) (by omega) _ _ _ _) q_X11_in wm_RX11_129 rfl rfl (by omega) (Nat.le_of_ble_eq_true rfl) am_nI (am_rI fun h5 v6 => ?_) am_eI
    refine sim_if_eq 26 dX11_collect_19 (by decide) (fun c => ?_) (fun c => ?_)
    · exact sim_lv (am_leS (am_leS (am_leS (am_leN am_leT)))) (t_X11_collect_26 d (by omega) _ _ _ _)
    · refine sim_iconst (1) dX11_collect_22 (by decide +kernel) ?_
      refine sim_goto 27 dX11_collect_23 (by decide) ?_
      exact sim_lv (am_leS (am_leS (am_leS (am_leN am_leT)))) (t_X11_collect_27 d (by omega) _ _ _ _ _))
theorem q_X11_collect : am_Cal m_X11_collect 2 2 := ⟨am_mem 1314 (w := Cond.code yX11_collect cX11_collect 4 none) (by decide +kernel) rfl, am_mem 64 (w := Cond.initialized RX11) (by decide +kernel) rfl, fun z => absurd z (by decide), fun _ => am_mem 1312 (w := Cond.instanceMethod yX11_collect) (by decide +kernel) rfl, fun z => absurd z (by decide), fun _ => am_mem 1313 (w := Cond.selects RX11 yX11_collect yX11_collect) (by decide +kernel) rfl, by decide +kernel, by decide +kernel, Nat.le_of_ble_eq_true rfl⟩
abbrev m_X11_collection : am_M := (yX11_collection, cX11_collection, 4, some .int, [])
def f_X11_collection_51  (a0 : Nat × Nat) (x1 : Int32) (x2 : Int32) (s0 : Int32) (s1 : Option (Nat × Nat)) (h : am_H) : am_R := m_ao s1 11 fun a8 => m_bI (f_X11_holds a8 s0 h) fun h6 v7 => if v7 = 0 then (m_ri h6 (0 : Int32)) else (m_gR (some a0) 11 18 h6 fun o9 => m_gI (some a0) 11 17 h6 fun v10 => m_sI o9 v10 x1 h6 fun h11 => m_gR (some a0) 11 19 h11 fun o12 => m_gI (some a0) 11 17 h11 fun v13 => m_sI o12 v13 x2 h11 fun h14 => m_gI (some a0) 11 17 h14 fun v15 => m_pI (some a0) 11 17 (v15 + (1 : Int32)) h14 fun h16 => m_gI (some a0) 11 17 h16 fun v17 => m_ri h16 (v17 - (1 : Int32)))
theorem t_X11_collection_51 (d : Nat) (hd : 1 ≤ d)  (a0 : Nat × Nat) (x1 : Int32) (x2 : Int32) (s0 : Int32) (s1 : Option (Nat × Nat)) (h : am_H) : Sim m_X11_collection d 51 [some (.inr (.inr (some a0))), some (.inl x1), some (.inl x2), none] [.inl s0, .inr (.inr s1)] h (f_X11_collection_51  a0 x1 x2 s0 s1 h) := by
  unfold f_X11_collection_51
  refine sim_ao1 (fun a8 e => ?_)
  refine sim_virt (d - 1) e dX11_collection_51 (k_X11_holds (d - 1) (by omega) _ _ _) q_X11_holds rfl rfl wm_RX11_142 rfl rfl (by omega) (Nat.le_of_ble_eq_true rfl) am_nI (am_rI fun h6 v7 => ?_) am_eI
  refine sim_if_ne 59 dX11_collection_54 (by decide) (fun c => ?_) (fun c => ?_)
  · refine sim_aload_n dX11_collection_59 rfl ?_
    refine sim_gR 11 18 dX11_collection_60 rfl wf_RX11_53 (Nat.le_of_ble_eq_true rfl) rfl (fun o9 => ?_)
    refine sim_aload_n dX11_collection_63 rfl ?_
    refine sim_gI 11 17 dX11_collection_64 rfl wf_RX11_163 (Nat.le_of_ble_eq_true rfl) rfl (fun v10 => ?_)
    refine sim_iload_n dX11_collection_67 rfl ?_
    refine sim_sI dX11_collection_68 (fun h11 => ?_)
    refine sim_aload_n dX11_collection_69 rfl ?_
    refine sim_gR 11 19 dX11_collection_70 rfl wf_RX11_56 (Nat.le_of_ble_eq_true rfl) rfl (fun o12 => ?_)
    refine sim_aload_n dX11_collection_73 rfl ?_
    refine sim_gI 11 17 dX11_collection_74 rfl wf_RX11_163 (Nat.le_of_ble_eq_true rfl) rfl (fun v13 => ?_)
    refine sim_iload_n dX11_collection_77 rfl ?_
    refine sim_sI dX11_collection_78 (fun h14 => ?_)
    refine sim_aload_n dX11_collection_79 rfl ?_
    refine sim_dup_r dX11_collection_80 ?_
    refine sim_gI 11 17 dX11_collection_81 rfl wf_RX11_163 (Nat.le_of_ble_eq_true rfl) rfl (fun v15 => ?_)
    refine sim_iconst (1) dX11_collection_84 (by decide +kernel) ?_
    refine sim_iadd dX11_collection_85 ?_
    refine sim_pI 11 17 dX11_collection_86 rfl wf_RX11_163 (Nat.le_of_ble_eq_true rfl) rfl (Or.inl rfl) rfl (fun h16 => ?_)
    refine sim_aload_n dX11_collection_89 rfl ?_
    refine sim_gI 11 17 dX11_collection_90 rfl wf_RX11_163 (Nat.le_of_ble_eq_true rfl) rfl (fun v17 => ?_)
    refine sim_iconst (1) dX11_collection_93 (by decide +kernel) ?_
    refine sim_isub dX11_collection_94 ?_
    exact sim_iret dX11_collection_95 rfl
  · refine sim_iconst (0) dX11_collection_57 (by decide +kernel) ?_
    exact sim_iret dX11_collection_58 rfl
def f_X11_collection_27  (a0 : Nat × Nat) (x1 : Int32) (x2 : Int32) (s0 : Int32) (h : am_H) : am_R := if s0 = 0 then (f_X11_collection_51 a0 x1 x2 (1 : Int32) (some a0) h) else (m_gI (some a0) 11 17 h fun v5 => if v5 = (6 : Int32) then (f_X11_collection_51 a0 x1 x2 (2 : Int32) (some a0) h) else (f_X11_collection_51 a0 x1 x2 (0 : Int32) (some a0) h))
theorem t_X11_collection_27 (d : Nat) (hd : 1 ≤ d)  (a0 : Nat × Nat) (x1 : Int32) (x2 : Int32) (s0 : Int32) (h : am_H) : Sim m_X11_collection d 27 [some (.inr (.inr (some a0))), some (.inl x1), some (.inl x2), none] [.inl s0] h (f_X11_collection_27  a0 x1 x2 s0 h) := by
  unfold f_X11_collection_27
  refine sim_istore_n dX11_collection_27 (Nat.le_of_ble_eq_true rfl) ?_
  refine sim_aload_n dX11_collection_28 rfl ?_
  refine sim_iload_n dX11_collection_29 rfl ?_
  refine sim_if_ne 37 dX11_collection_30 (by decide) (fun c => ?_) (fun c => ?_)
  · refine sim_aload_n dX11_collection_37 rfl ?_
    refine sim_gI 11 17 dX11_collection_38 rfl wf_RX11_163 (Nat.le_of_ble_eq_true rfl) rfl (fun v5 => ?_)
    refine sim_bipush (6) dX11_collection_41 (by decide +kernel) ?_
    refine sim_ic_ne 50 dX11_collection_43 (by decide) (fun c => ?_) (fun c => ?_)
    · refine sim_iconst (0) dX11_collection_50 (by decide +kernel) ?_
      exact sim_lv (am_leS (am_leS (am_leS (am_leN am_leT)))) (t_X11_collection_51 d (by omega) _ _ _ _ _ _)
    · refine sim_iconst (2) dX11_collection_46 (by decide +kernel) ?_
      refine sim_goto 51 dX11_collection_47 (by decide) ?_
      exact sim_lv (am_leS (am_leS (am_leS (am_leN am_leT)))) (t_X11_collection_51 d (by omega) _ _ _ _ _ _)
  · refine sim_iconst (1) dX11_collection_33 (by decide +kernel) ?_
    refine sim_goto 51 dX11_collection_34 (by decide) ?_
    exact sim_lv (am_leS (am_leS (am_leS (am_leN am_leT)))) (t_X11_collection_51 d (by omega) _ _ _ _ _ _)
def f_X11_collection_26  (a0 : Nat × Nat) (x1 : Int32) (x2 : Int32) (h : am_H) : am_R := f_X11_collection_27 a0 x1 x2 (0 : Int32) h
theorem t_X11_collection_26 (d : Nat) (hd : 1 ≤ d)  (a0 : Nat × Nat) (x1 : Int32) (x2 : Int32) (h : am_H) : Sim m_X11_collection d 26 [some (.inr (.inr (some a0))), some (.inl x1), some (.inl x2), none] [] h (f_X11_collection_26  a0 x1 x2 h) := by
  unfold f_X11_collection_26
  refine sim_iconst (0) dX11_collection_26 (by decide +kernel) ?_
  exact sim_lv (am_leS (am_leS (am_leS (am_leN am_leT)))) (t_X11_collection_27 d (by omega) _ _ _ _ _)
def f_X11_collection (a0 : Nat × Nat) (x1 : Int32) (x2 : Int32) (h : am_H) : am_R := m_bI (f_X11_in x1 (0 : Int32) (2000 : Int32) h) fun h1 v2 => if v2 = 0 then (f_X11_collection_26 a0 x1 x2 h1) else (m_bI (f_X11_in x2 x1 (2000 : Int32) h1) fun h3 v4 => if v4 = 0 then (f_X11_collection_26 a0 x1 x2 h3) else (f_X11_collection_27 a0 x1 x2 (1 : Int32) h3))
theorem k_X11_collection (d : Nat) (hd : 1 ≤ d) (a0 : Nat × Nat) (x1 : Int32) (x2 : Int32) (h : am_H) : am_Con m_X11_collection d [.inr (.inr (some a0)), .inl x1, .inl x2] h (f_X11_collection a0 x1 x2 h) := am_con (by decide +kernel) (Nat.le_of_ble_eq_true rfl) (by
  unfold f_X11_collection
  refine sim_iload_n dX11_collection_0 rfl ?_
  refine sim_iconst (0) dX11_collection_1 (by decide +kernel) ?_
  refine sim_sipush (2000) dX11_collection_2 (by decide +kernel) ?_
  refine sim_static (d - 1) dX11_collection_5 (k_X11_in (d - 1) (by omega) _ _ _ _) q_X11_in wm_RX11_129 rfl rfl (by omega) (Nat.le_of_ble_eq_true rfl) am_nI (am_rI fun h1 v2 => ?_) am_eI
  refine sim_if_eq 26 dX11_collection_8 (by decide) (fun c => ?_) (fun c => ?_)
  · exact sim_lv (am_leS (am_leS (am_leS (am_leN am_leT)))) (t_X11_collection_26 d (by omega) _ _ _ _)
  · refine sim_iload_n dX11_collection_11 rfl ?_
    refine sim_iload_n dX11_collection_12 rfl ?_
    refine sim_sipush (2000) dX11_collection_13 (by decide +kernel) ?_
    refine sim_static (d - 1) dX11_collection_16 (k_X11_in (d - 1) (by omega) _ _ _ _) q_X11_in wm_RX11_129 rfl rfl (by omega) (Nat.le_of_ble_eq_true rfl) am_nI (am_rI fun h3 v4 => ?_) am_eI
    refine sim_if_eq 26 dX11_collection_19 (by decide) (fun c => ?_) (fun c => ?_)
    · exact sim_lv (am_leS (am_leS (am_leS (am_leN am_leT)))) (t_X11_collection_26 d (by omega) _ _ _ _)
    · refine sim_iconst (1) dX11_collection_22 (by decide +kernel) ?_
      refine sim_goto 27 dX11_collection_23 (by decide) ?_
      exact sim_lv (am_leS (am_leS (am_leS (am_leN am_leT)))) (t_X11_collection_27 d (by omega) _ _ _ _ _))
theorem q_X11_collection : am_Cal m_X11_collection 2 2 := ⟨am_mem 1310 (w := Cond.code yX11_collection cX11_collection 4 (some .int)) (by decide +kernel) rfl, am_mem 64 (w := Cond.initialized RX11) (by decide +kernel) rfl, fun z => absurd z (by decide), fun _ => am_mem 1308 (w := Cond.instanceMethod yX11_collection) (by decide +kernel) rfl, fun z => absurd z (by decide), fun _ => am_mem 1309 (w := Cond.selects RX11 yX11_collection yX11_collection) (by decide +kernel) rfl, by decide +kernel, by decide +kernel, Nat.le_of_ble_eq_true rfl⟩
abbrev m_X11_has : am_M := (yX11_has, cX11_has, 2, some .boolean, [])
def f_X11_has_14  (s0 : Int32) (h : am_H) : am_R := m_rz h s0
theorem t_X11_has_14 (d : Nat) (hd : 0 ≤ d)  (s0 : Int32) (h : am_H) : Sim m_X11_has d 14 [none, none] [.inl s0] h (f_X11_has_14  s0 h) := by
  unfold f_X11_has_14
  exact sim_zret dX11_has_14 rfl
def f_X11_has (x0 : Int32) (x1 : Int32) (h : am_H) : am_R := if ((x0 >>> (x1 &&& 31)) &&& (1 : Int32)) = (1 : Int32) then (f_X11_has_14 (1 : Int32) h) else (f_X11_has_14 (0 : Int32) h)
theorem k_X11_has (d : Nat) (hd : 0 ≤ d) (x0 : Int32) (x1 : Int32) (h : am_H) : am_Con m_X11_has d [.inl x0, .inl x1] h (f_X11_has x0 x1 h) := am_con (by decide +kernel) (Nat.le_of_ble_eq_true rfl) (by
  unfold f_X11_has
  refine sim_iload_n dX11_has_0 rfl ?_
  refine sim_iload_n dX11_has_1 rfl ?_
  refine sim_ishr dX11_has_2 ?_
  refine sim_iconst (1) dX11_has_3 (by decide +kernel) ?_
  refine sim_iand dX11_has_4 ?_
  refine sim_iconst (1) dX11_has_5 (by decide +kernel) ?_
  refine sim_ic_ne 13 dX11_has_6 (by decide) (fun c => ?_) (fun c => ?_)
  · refine sim_iconst (0) dX11_has_13 (by decide +kernel) ?_
    exact sim_lv (am_leN (am_leN am_leT)) (t_X11_has_14 d (by omega) _ _)
  · refine sim_iconst (1) dX11_has_9 (by decide +kernel) ?_
    refine sim_goto 14 dX11_has_10 (by decide) ?_
    exact sim_lv (am_leN (am_leN am_leT)) (t_X11_has_14 d (by omega) _ _))
theorem q_X11_has : am_Cal m_X11_has 2 0 := ⟨am_mem 1287 (w := Cond.code yX11_has cX11_has 2 (some .boolean)) (by decide +kernel) rfl, am_mem 64 (w := Cond.initialized RX11) (by decide +kernel) rfl, fun _ => am_mem 1286 (w := Cond.static yX11_has) (by decide +kernel) rfl, fun z => absurd rfl z, fun z => absurd z (by decide), fun z => absurd z (by decide), by decide +kernel, by decide +kernel, Nat.le_of_ble_eq_true rfl⟩
abbrev m_X11_isBlocked : am_M := (yX11_isBlocked, cX11_isBlocked, 3, some .boolean, [])
def f_X11_isBlocked_31  (s0 : Int32) (h : am_H) : am_R := m_rz h s0
theorem t_X11_isBlocked_31 (d : Nat) (hd : 0 ≤ d)  (s0 : Int32) (h : am_H) : Sim m_X11_isBlocked d 31 [none, none, none] [.inl s0] h (f_X11_isBlocked_31  s0 h) := by
  unfold f_X11_isBlocked_31
  exact sim_zret dX11_isBlocked_31 rfl
def f_X11_isBlocked_30   (h : am_H) : am_R := f_X11_isBlocked_31 (0 : Int32) h
theorem t_X11_isBlocked_30 (d : Nat) (hd : 0 ≤ d)   (h : am_H) : Sim m_X11_isBlocked d 30 [none, none, none] [] h (f_X11_isBlocked_30   h) := by
  unfold f_X11_isBlocked_30
  refine sim_iconst (0) dX11_isBlocked_30 (by decide +kernel) ?_
  exact sim_lv (am_leN (am_leN (am_leN am_leT))) (t_X11_isBlocked_31 d (by omega) _ _)
def f_X11_isBlocked (a0 : Nat × Nat) (x1 : Int32) (x2 : Int32) (h : am_H) : am_R := if (12 : Int32) ≤ x1 then (f_X11_isBlocked_30 h) else (if (12 : Int32) ≤ x2 then (f_X11_isBlocked_30 h) else (m_gR (some a0) 11 2 h fun o1 => m_aI o1 1 (((12 : Int32) * x1) + x2) h fun v2 => if v2 = 0 then (f_X11_isBlocked_30 h) else (f_X11_isBlocked_31 (1 : Int32) h)))
theorem k_X11_isBlocked (d : Nat) (hd : 0 ≤ d) (a0 : Nat × Nat) (x1 : Int32) (x2 : Int32) (h : am_H) : am_Con m_X11_isBlocked d [.inr (.inr (some a0)), .inl x1, .inl x2] h (f_X11_isBlocked a0 x1 x2 h) := am_con (by decide +kernel) (Nat.le_of_ble_eq_true rfl) (by
  unfold f_X11_isBlocked
  refine sim_iload_n dX11_isBlocked_0 rfl ?_
  refine sim_bipush (12) dX11_isBlocked_1 (by decide +kernel) ?_
  refine sim_ic_ge 30 dX11_isBlocked_3 (by decide) (fun c => ?_) (fun c => ?_)
  · exact sim_lv (am_leN (am_leN (am_leN am_leT))) (t_X11_isBlocked_30 d (by omega) _)
  · refine sim_iload_n dX11_isBlocked_6 rfl ?_
    refine sim_bipush (12) dX11_isBlocked_7 (by decide +kernel) ?_
    refine sim_ic_ge 30 dX11_isBlocked_9 (by decide) (fun c => ?_) (fun c => ?_)
    · exact sim_lv (am_leN (am_leN (am_leN am_leT))) (t_X11_isBlocked_30 d (by omega) _)
    · refine sim_aload_n dX11_isBlocked_12 rfl ?_
      refine sim_gR 11 2 dX11_isBlocked_13 rfl wf_RX11_7 (Nat.le_of_ble_eq_true rfl) rfl (fun o1 => ?_)
      refine sim_bipush (12) dX11_isBlocked_16 (by decide +kernel) ?_
      refine sim_iload_n dX11_isBlocked_18 rfl ?_
      refine sim_imul dX11_isBlocked_19 ?_
      refine sim_iload_n dX11_isBlocked_20 rfl ?_
      refine sim_iadd dX11_isBlocked_21 ?_
      refine sim_aZ dX11_isBlocked_22 (fun v2 => ?_)
      refine sim_if_eq 30 dX11_isBlocked_23 (by decide) (fun c => ?_) (fun c => ?_)
      · exact sim_lv (am_leN (am_leN (am_leN am_leT))) (t_X11_isBlocked_30 d (by omega) _)
      · refine sim_iconst (1) dX11_isBlocked_26 (by decide +kernel) ?_
        refine sim_goto 31 dX11_isBlocked_27 (by decide) ?_
        exact sim_lv (am_leN (am_leN (am_leN am_leT))) (t_X11_isBlocked_31 d (by omega) _ _))
theorem q_X11_isBlocked : am_Cal m_X11_isBlocked 2 2 := ⟨am_mem 1492 (w := Cond.code yX11_isBlocked cX11_isBlocked 3 (some .boolean)) (by decide +kernel) rfl, am_mem 64 (w := Cond.initialized RX11) (by decide +kernel) rfl, fun z => absurd z (by decide), fun _ => am_mem 1491 (w := Cond.instanceMethod yX11_isBlocked) (by decide +kernel) rfl, fun z => absurd z (by decide), fun _ => am_mem 51 (w := Cond.selects RX11 yX11_isBlocked yX11_isBlocked) (by decide +kernel) rfl, by decide +kernel, by decide +kernel, Nat.le_of_ble_eq_true rfl⟩
abbrev m_X11_isOwner : am_M := (yX11_isOwner, cX11_isOwner, 3, some .boolean, [])
def f_X11_isOwner_24  (s0 : Int32) (h : am_H) : am_R := m_rz h s0
theorem t_X11_isOwner_24 (d : Nat) (hd : 1 ≤ d)  (s0 : Int32) (h : am_H) : Sim m_X11_isOwner d 24 [none, none, none] [.inl s0] h (f_X11_isOwner_24  s0 h) := by
  unfold f_X11_isOwner_24
  exact sim_zret dX11_isOwner_24 rfl
def f_X11_isOwner_23   (h : am_H) : am_R := f_X11_isOwner_24 (0 : Int32) h
theorem t_X11_isOwner_23 (d : Nat) (hd : 1 ≤ d)   (h : am_H) : Sim m_X11_isOwner d 23 [none, none, none] [] h (f_X11_isOwner_23   h) := by
  unfold f_X11_isOwner_23
  refine sim_iconst (0) dX11_isOwner_23 (by decide +kernel) ?_
  exact sim_lv (am_leN (am_leN (am_leN am_leT))) (t_X11_isOwner_24 d (by omega) _ _)
def f_X11_isOwner (a0 : Nat × Nat) (x1 : Int32) (x2 : Int32) (h : am_H) : am_R := if (12 : Int32) ≤ x1 then (f_X11_isOwner_23 h) else (m_gR (some a0) 11 6 h fun o1 => m_aI o1 0 x2 h fun v2 => m_bI (f_X11_has v2 x1 h) fun h3 v4 => if v4 = 0 then (f_X11_isOwner_23 h3) else (f_X11_isOwner_24 (1 : Int32) h3))
theorem k_X11_isOwner (d : Nat) (hd : 1 ≤ d) (a0 : Nat × Nat) (x1 : Int32) (x2 : Int32) (h : am_H) : am_Con m_X11_isOwner d [.inr (.inr (some a0)), .inl x1, .inl x2] h (f_X11_isOwner a0 x1 x2 h) := am_con (by decide +kernel) (Nat.le_of_ble_eq_true rfl) (by
  unfold f_X11_isOwner
  refine sim_iload_n dX11_isOwner_0 rfl ?_
  refine sim_bipush (12) dX11_isOwner_1 (by decide +kernel) ?_
  refine sim_ic_ge 23 dX11_isOwner_3 (by decide) (fun c => ?_) (fun c => ?_)
  · exact sim_lv (am_leN (am_leN (am_leN am_leT))) (t_X11_isOwner_23 d (by omega) _)
  · refine sim_aload_n dX11_isOwner_6 rfl ?_
    refine sim_gR 11 6 dX11_isOwner_7 rfl wf_RX11_20 (Nat.le_of_ble_eq_true rfl) rfl (fun o1 => ?_)
    refine sim_iload_n dX11_isOwner_10 rfl ?_
    refine sim_aI dX11_isOwner_11 (fun v2 => ?_)
    refine sim_iload_n dX11_isOwner_12 rfl ?_
    refine sim_static (d - 1) dX11_isOwner_13 (k_X11_has (d - 1) (by omega) _ _ _) q_X11_has wm_RX11_155 rfl rfl (by omega) (Nat.le_of_ble_eq_true rfl) am_nI (am_rI fun h3 v4 => ?_) am_eI
    refine sim_if_eq 23 dX11_isOwner_16 (by decide) (fun c => ?_) (fun c => ?_)
    · exact sim_lv (am_leN (am_leN (am_leN am_leT))) (t_X11_isOwner_23 d (by omega) _)
    · refine sim_iconst (1) dX11_isOwner_19 (by decide +kernel) ?_
      refine sim_goto 24 dX11_isOwner_20 (by decide) ?_
      exact sim_lv (am_leN (am_leN (am_leN am_leT))) (t_X11_isOwner_24 d (by omega) _ _))
theorem q_X11_isOwner : am_Cal m_X11_isOwner 2 2 := ⟨am_mem 1326 (w := Cond.code yX11_isOwner cX11_isOwner 3 (some .boolean)) (by decide +kernel) rfl, am_mem 64 (w := Cond.initialized RX11) (by decide +kernel) rfl, fun z => absurd z (by decide), fun _ => am_mem 1325 (w := Cond.instanceMethod yX11_isOwner) (by decide +kernel) rfl, fun z => absurd z (by decide), fun _ => am_mem 32 (w := Cond.selects RX11 yX11_isOwner yX11_isOwner) (by decide +kernel) rfl, by decide +kernel, by decide +kernel, Nat.le_of_ble_eq_true rfl⟩
