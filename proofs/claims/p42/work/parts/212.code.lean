abbrev m_X7_init : am_M := (yX7_init, cX7_init, 1, none, [])
def f_X7_init (a0 : Nat × Nat) (h : am_H) : am_R := m_new 11 30 h fun a1 h2 => m_pR (some a0) 7 1 (some a1) h2 fun h3 => m_new 12 30 h3 fun a4 h5 => m_pR (some a0) 7 2 (some a4) h5 fun h6 => m_new 13 30 h6 fun a7 h8 => m_pR (some a0) 7 3 (some a7) h8 fun h9 => m_rt h9 none
theorem k_X7_init (d : Nat) (hd : 1 ≤ d) (a0 : Nat × Nat) (h : am_H) : am_Con m_X7_init d [.inr (.inr (some a0))] h (f_X7_init a0 h) := am_con (by decide +kernel) (Nat.le_of_ble_eq_true rfl) (by
  unfold f_X7_init
  refine sim_aload_n dX7_init_0 rfl ?_
  refine sim_obj dX7_init_1 wm_RX7_3 wobj_i wobj_c (by omega) (Nat.le_of_ble_eq_true rfl) ?_
  refine sim_aload_n dX7_init_4 rfl ?_
  refine sim_bipush (30) dX7_init_5 (by decide +kernel) ?_
  refine sim_nwI 11 0 30 dX7_init_7 rfl rfl rfl (by decide +kernel) (Nat.le_of_ble_eq_true rfl) (fun _ => rfl) rfl (Nat.le_of_ble_eq_true rfl) wa_int (fun a1 h2 => ?_)
  refine sim_pR 7 1 dX7_init_9 rfl wf_RX7_9 (Nat.le_of_ble_eq_true rfl) rfl (Or.inr ⟨rfl, rfl, rfl⟩) (fun h3 => ?_)
  refine sim_aload_n dX7_init_12 rfl ?_
  refine sim_bipush (30) dX7_init_13 (by decide +kernel) ?_
  refine sim_nwI 12 0 30 dX7_init_15 rfl rfl rfl (by decide +kernel) (Nat.le_of_ble_eq_true rfl) (fun _ => rfl) rfl (Nat.le_of_ble_eq_true rfl) wa_int (fun a4 h5 => ?_)
  refine sim_pR 7 2 dX7_init_17 rfl wf_RX7_15 (Nat.le_of_ble_eq_true rfl) rfl (Or.inr ⟨rfl, rfl, rfl⟩) (fun h6 => ?_)
  refine sim_aload_n dX7_init_20 rfl ?_
  refine sim_bipush (30) dX7_init_21 (by decide +kernel) ?_
  refine sim_nwI 13 0 30 dX7_init_23 rfl rfl rfl (by decide +kernel) (Nat.le_of_ble_eq_true rfl) (fun _ => rfl) rfl (Nat.le_of_ble_eq_true rfl) wa_int (fun a7 h8 => ?_)
  refine sim_pR 7 3 dX7_init_25 rfl wf_RX7_18 (Nat.le_of_ble_eq_true rfl) rfl (Or.inr ⟨rfl, rfl, rfl⟩) (fun h9 => ?_)
  exact sim_vret dX7_init_28 rfl)
theorem q_X7_init : am_Cal m_X7_init 0 1 := ⟨am_mem 69 (w := Cond.code yX7_init cX7_init 1 none) (by decide +kernel) rfl, am_mem 31 (w := Cond.initialized RX7) (by decide +kernel) rfl, fun z => absurd z (by decide), fun _ => am_mem 68 (w := Cond.instanceMethod yX7_init) (by decide +kernel) rfl, fun _ => rfl, fun z => absurd z (by decide), by decide +kernel, by decide +kernel, Nat.le_of_ble_eq_true rfl⟩
abbrev m_X4_init : am_M := (yX4_init, cX4_init, 1, none, [])
def f_X4_init (a0 : Nat × Nat) (h : am_H) : am_R := m_rt h none
theorem k_X4_init (d : Nat) (hd : 1 ≤ d) (a0 : Nat × Nat) (h : am_H) : am_Con m_X4_init d [.inr (.inr (some a0))] h (f_X4_init a0 h) := am_con (by decide +kernel) (Nat.le_of_ble_eq_true rfl) (by
  unfold f_X4_init
  refine sim_aload_n dX4_init_0 rfl ?_
  refine sim_obj dX4_init_1 wm_RX4_3 wobj_i wobj_c (by omega) (Nat.le_of_ble_eq_true rfl) ?_
  exact sim_vret dX4_init_4 rfl)
theorem q_X4_init : am_Cal m_X4_init 0 1 := ⟨am_mem 96 (w := Cond.code yX4_init cX4_init 1 none) (by decide +kernel) rfl, am_mem 33 (w := Cond.initialized RX4) (by decide +kernel) rfl, fun z => absurd z (by decide), fun _ => am_mem 95 (w := Cond.instanceMethod yX4_init) (by decide +kernel) rfl, fun _ => rfl, fun z => absurd z (by decide), by decide +kernel, by decide +kernel, Nat.le_of_ble_eq_true rfl⟩
abbrev m_X8_init : am_M := (yX8_init, cX8_init, 1, none, [])
def f_X8_init (a0 : Nat × Nat) (h : am_H) : am_R := m_new 14 60 h fun a1 h2 => m_pR (some a0) 8 0 (some a1) h2 fun h3 => m_new 15 5 h3 fun a4 h5 => m_bW (f_X4_init a4 h5) fun h6 => m_pR (some a0) 8 2 (some a4) h6 fun h8 => m_rt h8 none
theorem k_X8_init (d : Nat) (hd : 2 ≤ d) (a0 : Nat × Nat) (h : am_H) : am_Con m_X8_init d [.inr (.inr (some a0))] h (f_X8_init a0 h) := am_con (by decide +kernel) (Nat.le_of_ble_eq_true rfl) (by
  unfold f_X8_init
  refine sim_aload_n dX8_init_0 rfl ?_
  refine sim_obj dX8_init_1 wm_RX8_3 wobj_i wobj_c (by omega) (Nat.le_of_ble_eq_true rfl) ?_
  refine sim_aload_n dX8_init_4 rfl ?_
  refine sim_bipush (60) dX8_init_5 (by decide +kernel) ?_
  refine sim_nwI 14 2 60 dX8_init_7 rfl rfl rfl (by decide +kernel) (Nat.le_of_ble_eq_true rfl) (fun _ => rfl) rfl (Nat.le_of_ble_eq_true rfl) wa_char (fun a1 h2 => ?_)
  refine sim_pR 8 0 dX8_init_9 rfl wf_RX8_9 (Nat.le_of_ble_eq_true rfl) rfl (Or.inr ⟨rfl, rfl, rfl⟩) (fun h3 => ?_)
  refine sim_aload_n dX8_init_12 rfl ?_
  refine sim_nw 15 4 5 dX8_init_13 rfl rfl wc_RX8_15 wi_RX4 wz_RX4 (fun a4 h5 => ?_)
  refine sim_dup_r dX8_init_16 ?_
  refine sim_ctorN (d - 1) dX8_init_17 (k_X4_init (d - 1) (by omega) _  _) q_X4_init wn_RX8_17 rfl rfl (by omega) (Nat.le_of_ble_eq_true rfl) am_nW am_xW (am_rW fun h6 => ?_)
  refine sim_pR 8 2 dX8_init_20 rfl wf_RX8_18 (Nat.le_of_ble_eq_true rfl) rfl (Or.inr ⟨rfl, rfl, rfl⟩) (fun h8 => ?_)
  exact sim_vret dX8_init_23 rfl)
theorem q_X8_init : am_Cal m_X8_init 0 1 := ⟨am_mem 90 (w := Cond.code yX8_init cX8_init 1 none) (by decide +kernel) rfl, am_mem 32 (w := Cond.initialized RX8) (by decide +kernel) rfl, fun z => absurd z (by decide), fun _ => am_mem 89 (w := Cond.instanceMethod yX8_init) (by decide +kernel) rfl, fun _ => rfl, fun z => absurd z (by decide), by decide +kernel, by decide +kernel, Nat.le_of_ble_eq_true rfl⟩
abbrev m_X10_init : am_M := (yX10_init, cX10_init, 2, none, [])
def f_X10_init_117  : Nat → Nat × Nat → Int32 → am_H → am_R
  | 0, _, _, _ => none
  | n + 1, a0, x1, h => if (12 : Int32) ≤ x1 then (m_rt h none) else (m_gR (some a0) 10 2 h fun o38 => m_new 26 4 h fun a39 h40 => m_bW (f_X3_init a39 h40) fun h41 => m_sR o38 4 3 x1 (some a39) h41 fun h43 => (f_X10_init_117  n) a0 (x1 + 1) h43)
theorem t_X10_init_117 (d : Nat) (hd : 3 ≤ d)  : ∀ (n : Nat) (a0 : Nat × Nat) (x1 : Int32) (h : am_H), Sim m_X10_init d 117 [some (.inr (.inr (some a0))), some (.inl x1)] [] h (f_X10_init_117  n a0 x1 h) := by
  intro n
  induction n with
  | zero => intros; exact sim_none
  | succ n hrc117 =>
    intro a0 x1 h
    rw [f_X10_init_117]
    refine sim_iload_n dX10_init_117 rfl ?_
    refine sim_bipush (12) dX10_init_118 (by decide +kernel) ?_
    refine sim_ic_ge 142 dX10_init_120 (by decide) (fun c => ?_) (fun c => ?_)
    · exact sim_vret dX10_init_142 rfl
    · refine sim_aload_n dX10_init_123 rfl ?_
      refine sim_gR 10 2 dX10_init_124 rfl wf_RX10_15 (Nat.le_of_ble_eq_true rfl) rfl (fun o38 => ?_)
      refine sim_iload_n dX10_init_127 rfl ?_
      refine sim_nw 26 3 4 dX10_init_128 rfl rfl wc_RX10_13 wi_RX3 wz_RX3 (fun a39 h40 => ?_)
      refine sim_dup_r dX10_init_131 ?_
      refine sim_ctor (d - 1) dX10_init_132 (k_X3_init (d - 1) (by omega) _  _) q_X3_init wm_RX10_65 rfl rfl (by omega) (Nat.le_of_ble_eq_true rfl) am_nW am_xW (am_rW fun h41 => ?_)
      refine sim_sR 4 rfl dX10_init_135 (fun h43 => ?_)
      refine sim_iinc (1) dX10_init_136 rfl (by decide +kernel) (Nat.le_of_ble_eq_true rfl) ?_
      refine sim_goto 117 dX10_init_139 (by decide) ?_
      exact sim_lv (am_leS (am_leS am_leT)) (hrc117 _ _ _)
def f_X10_init_94  : Nat → Nat × Nat → Int32 → am_H → am_R
  | 0, _, _, _ => none
  | n + 1, a0, x1, h => if (32 : Int32) ≤ x1 then (f_X10_init_117 5000 a0 (0 : Int32) h) else (m_gR (some a0) 10 1 h fun o36 => m_sI o36 x1 ((1 : Int32) <<< (x1 &&& 31)) h fun h37 => (f_X10_init_94  n) a0 (x1 + 1) h37)
theorem t_X10_init_94 (d : Nat) (hd : 3 ≤ d)  : ∀ (n : Nat) (a0 : Nat × Nat) (x1 : Int32) (h : am_H), Sim m_X10_init d 94 [some (.inr (.inr (some a0))), some (.inl x1)] [] h (f_X10_init_94  n a0 x1 h) := by
  intro n
  induction n with
  | zero => intros; exact sim_none
  | succ n hrc94 =>
    intro a0 x1 h
    rw [f_X10_init_94]
    refine sim_iload_n dX10_init_94 rfl ?_
    refine sim_bipush (32) dX10_init_95 (by decide +kernel) ?_
    refine sim_ic_ge 115 dX10_init_97 (by decide) (fun c => ?_) (fun c => ?_)
    · refine sim_iconst (0) dX10_init_115 (by decide +kernel) ?_
      refine sim_istore_n dX10_init_116 (Nat.le_of_ble_eq_true rfl) ?_
      exact sim_lv (am_leS (am_leS am_leT)) (t_X10_init_117 d (by omega) _ _ _ _)
    · refine sim_aload_n dX10_init_100 rfl ?_
      refine sim_gR 10 1 dX10_init_101 rfl wf_RX10_9 (Nat.le_of_ble_eq_true rfl) rfl (fun o36 => ?_)
      refine sim_iload_n dX10_init_104 rfl ?_
      refine sim_iconst (1) dX10_init_105 (by decide +kernel) ?_
      refine sim_iload_n dX10_init_106 rfl ?_
      refine sim_ishl dX10_init_107 ?_
      refine sim_sI dX10_init_108 (fun h37 => ?_)
      refine sim_iinc (1) dX10_init_109 rfl (by decide +kernel) (Nat.le_of_ble_eq_true rfl) ?_
      refine sim_goto 94 dX10_init_112 (by decide) ?_
      exact sim_lv (am_leS (am_leS am_leT)) (hrc94 _ _ _)
def f_X10_init (a0 : Nat × Nat) (h : am_H) : am_R := m_new 17 32 h fun a1 h2 => m_pR (some a0) 10 1 (some a1) h2 fun h3 => m_new 18 12 h3 fun a4 h5 => m_pR (some a0) 10 2 (some a4) h5 fun h6 => m_new 19 20 h6 fun a7 h8 => m_pR (some a0) 10 3 (some a7) h8 fun h9 => m_new 20 6 h9 fun a10 h11 => m_pR (some a0) 10 5 (some a10) h11 fun h12 => m_new 21 4 h12 fun a13 h14 => m_bW (f_X7_init a13 h14) fun h15 => m_pR (some a0) 10 7 (some a13) h15 fun h17 => m_new 22 3 h17 fun a18 h19 => m_bW (f_X8_init a18 h19) fun h20 => m_pR (some a0) 10 8 (some a18) h20 fun h22 => m_new 23 4 h22 fun a23 h24 => m_bW (f_X5_init a23 h24) fun h25 => m_pR (some a0) 10 9 (some a23) h25 fun h27 => m_new 24 4 h27 fun a28 h29 => m_bW (f_X2_init a28 h29) fun h30 => m_pR (some a0) 10 10 (some a28) h30 fun h32 => m_new 25 60 h32 fun a33 h34 => m_pR (some a0) 10 11 (some a33) h34 fun h35 => f_X10_init_94 5000 a0 (0 : Int32) h35
theorem k_X10_init (d : Nat) (hd : 3 ≤ d) (a0 : Nat × Nat) (h : am_H) : am_Con m_X10_init d [.inr (.inr (some a0))] h (f_X10_init a0 h) := am_con (by decide +kernel) (Nat.le_of_ble_eq_true rfl) (by
  unfold f_X10_init
  refine sim_aload_n dX10_init_0 rfl ?_
  refine sim_obj dX10_init_1 wm_RX10_3 wobj_i wobj_c (by omega) (Nat.le_of_ble_eq_true rfl) ?_
  refine sim_aload_n dX10_init_4 rfl ?_
  refine sim_bipush (32) dX10_init_5 (by decide +kernel) ?_
  refine sim_nwI 17 0 32 dX10_init_7 rfl rfl rfl (by decide +kernel) (Nat.le_of_ble_eq_true rfl) (fun _ => rfl) rfl (Nat.le_of_ble_eq_true rfl) wa_int (fun a1 h2 => ?_)
  refine sim_pR 10 1 dX10_init_9 rfl wf_RX10_9 (Nat.le_of_ble_eq_true rfl) rfl (Or.inr ⟨rfl, rfl, rfl⟩) (fun h3 => ?_)
  refine sim_aload_n dX10_init_12 rfl ?_
  refine sim_bipush (12) dX10_init_13 (by decide +kernel) ?_
  refine sim_nwR 18 4 12 dX10_init_15 rfl rfl rfl (by decide +kernel) (Nat.le_of_ble_eq_true rfl) wc_RX10_13 wo_RX3 (fun a4 h5 => ?_)
  refine sim_pR 10 2 dX10_init_18 rfl wf_RX10_15 (Nat.le_of_ble_eq_true rfl) rfl (Or.inr ⟨rfl, rfl, rfl⟩) (fun h6 => ?_)
  refine sim_aload_n dX10_init_21 rfl ?_
  refine sim_bipush (20) dX10_init_22 (by decide +kernel) ?_
  refine sim_nwR 19 5 20 dX10_init_24 rfl rfl rfl (by decide +kernel) (Nat.le_of_ble_eq_true rfl) wc_RX10_19 wo_RX9 (fun a7 h8 => ?_)
  refine sim_pR 10 3 dX10_init_27 rfl wf_RX10_21 (Nat.le_of_ble_eq_true rfl) rfl (Or.inr ⟨rfl, rfl, rfl⟩) (fun h9 => ?_)
  refine sim_aload_n dX10_init_30 rfl ?_
  refine sim_bipush (6) dX10_init_31 (by decide +kernel) ?_
  refine sim_nwR 20 6 6 dX10_init_33 rfl rfl rfl (by decide +kernel) (Nat.le_of_ble_eq_true rfl) wc_RX10_25 wo_RX0 (fun a10 h11 => ?_)
  refine sim_pR 10 5 dX10_init_36 rfl wf_RX10_27 (Nat.le_of_ble_eq_true rfl) rfl (Or.inr ⟨rfl, rfl, rfl⟩) (fun h12 => ?_)
  refine sim_aload_n dX10_init_39 rfl ?_
  refine sim_nw 21 7 4 dX10_init_40 rfl rfl wc_RX10_31 wi_RX7 wz_RX7 (fun a13 h14 => ?_)
  refine sim_dup_r dX10_init_43 ?_
  refine sim_ctorN (d - 1) dX10_init_44 (k_X7_init (d - 1) (by omega) _  _) q_X7_init wn_RX10_33 rfl rfl (by omega) (Nat.le_of_ble_eq_true rfl) am_nW am_xW (am_rW fun h15 => ?_)
  refine sim_pR 10 7 dX10_init_47 rfl wf_RX10_34 (Nat.le_of_ble_eq_true rfl) rfl (Or.inr ⟨rfl, rfl, rfl⟩) (fun h17 => ?_)
  refine sim_aload_n dX10_init_50 rfl ?_
  refine sim_nw 22 8 3 dX10_init_51 rfl rfl wc_RX10_38 wi_RX8 wz_RX8 (fun a18 h19 => ?_)
  refine sim_dup_r dX10_init_54 ?_
  refine sim_ctorN (d - 1) dX10_init_55 (k_X8_init (d - 1) (by omega) _  _) q_X8_init wn_RX10_40 rfl rfl (by omega) (Nat.le_of_ble_eq_true rfl) am_nW am_xW (am_rW fun h20 => ?_)
  refine sim_pR 10 8 dX10_init_58 rfl wf_RX10_41 (Nat.le_of_ble_eq_true rfl) rfl (Or.inr ⟨rfl, rfl, rfl⟩) (fun h22 => ?_)
  refine sim_aload_n dX10_init_61 rfl ?_
  refine sim_nw 23 5 4 dX10_init_62 rfl rfl wc_RX10_45 wi_RX5 wz_RX5 (fun a23 h24 => ?_)
  refine sim_dup_r dX10_init_65 ?_
  refine sim_ctorN (d - 1) dX10_init_66 (k_X5_init (d - 1) (by omega) _  _) q_X5_init wn_RX10_47 rfl rfl (by omega) (Nat.le_of_ble_eq_true rfl) am_nW am_xW (am_rW fun h25 => ?_)
  refine sim_pR 10 9 dX10_init_69 rfl wf_RX10_48 (Nat.le_of_ble_eq_true rfl) rfl (Or.inr ⟨rfl, rfl, rfl⟩) (fun h27 => ?_)
  refine sim_aload_n dX10_init_72 rfl ?_
  refine sim_nw 24 2 4 dX10_init_73 rfl rfl wc_RX10_52 wi_RX2 wz_RX2 (fun a28 h29 => ?_)
  refine sim_dup_r dX10_init_76 ?_
  refine sim_ctorN (d - 1) dX10_init_77 (k_X2_init (d - 1) (by omega) _  _) q_X2_init wn_RX10_54 rfl rfl (by omega) (Nat.le_of_ble_eq_true rfl) am_nW am_xW (am_rW fun h30 => ?_)
  refine sim_pR 10 10 dX10_init_80 rfl wf_RX10_55 (Nat.le_of_ble_eq_true rfl) rfl (Or.inr ⟨rfl, rfl, rfl⟩) (fun h32 => ?_)
  refine sim_aload_n dX10_init_83 rfl ?_
  refine sim_bipush (60) dX10_init_84 (by decide +kernel) ?_
  refine sim_nwR 25 7 60 dX10_init_86 rfl rfl rfl (by decide +kernel) (Nat.le_of_ble_eq_true rfl) wc_RX10_59 wo_RX1 (fun a33 h34 => ?_)
  refine sim_pR 10 11 dX10_init_89 rfl wf_RX10_61 (Nat.le_of_ble_eq_true rfl) rfl (Or.inr ⟨rfl, rfl, rfl⟩) (fun h35 => ?_)
  refine sim_iconst (0) dX10_init_92 (by decide +kernel) ?_
  refine sim_istore_n dX10_init_93 (Nat.le_of_ble_eq_true rfl) ?_
  exact sim_lv (am_leS (am_leS am_leT)) (t_X10_init_94 d (by omega) _ _ _ _))
theorem q_X10_init : am_Cal m_X10_init 0 1 := ⟨am_mem 55 (w := Cond.code yX10_init cX10_init 2 none) (by decide +kernel) rfl, am_mem 30 (w := Cond.initialized RX10) (by decide +kernel) rfl, fun z => absurd z (by decide), fun _ => am_mem 54 (w := Cond.instanceMethod yX10_init) (by decide +kernel) rfl, fun _ => rfl, fun z => absurd z (by decide), by decide +kernel, by decide +kernel, Nat.le_of_ble_eq_true rfl⟩
abbrev m_L_law : am_M := (yL_law, cL_law, 7, some .boolean, [])
def f_L_law_284  (s0 : Int32) (h : am_H) : am_R := m_rz h s0
theorem t_L_law_284 (d : Nat) (hd : 15 ≤ d)  (s0 : Int32) (h : am_H) : Sim m_L_law d 284 [none, none, none, none, none, none, none] [.inl s0] h (f_L_law_284  s0 h) := by
  unfold f_L_law_284
  exact sim_zret dL_law_284 rfl
def f_L_law_283   (h : am_H) : am_R := f_L_law_284 (0 : Int32) h
theorem t_L_law_283 (d : Nat) (hd : 15 ≤ d)   (h : am_H) : Sim m_L_law d 283 [none, none, none, none, none, none, none] [] h (f_L_law_283   h) := by
  unfold f_L_law_283
  refine sim_iconst (0) dL_law_283 (by decide +kernel) ?_
  exact sim_lv (am_leN (am_leN (am_leN (am_leN (am_leN (am_leN (am_leN am_leT))))))) (t_L_law_284 d (by omega) _ _)
def f_L_law_258  (x1 : Option (Nat × Nat)) (x2 : Option (Nat × Nat)) (x3 : Int32) (h : am_H) : am_R := if x3 = 0 then (f_L_law_283 h) else (m_bI (f_L_areAlike x1 x2 (7 : Int32) h) fun h35 v36 => if v36 = 0 then (f_L_law_283 h35) else (m_bI (f_L_areTags x2 h35) fun h37 v38 => if v38 = 0 then (f_L_law_283 h37) else (f_L_law_284 (1 : Int32) h37)))
theorem t_L_law_258 (d : Nat) (hd : 15 ≤ d)  (x1 : Option (Nat × Nat)) (x2 : Option (Nat × Nat)) (x3 : Int32) (h : am_H) : Sim m_L_law d 258 [none, some (.inr (.inr x1)), some (.inr (.inr x2)), some (.inl x3), none, none, none] [] h (f_L_law_258  x1 x2 x3 h) := by
  unfold f_L_law_258
  refine sim_iload_n dL_law_258 rfl ?_
  refine sim_if_eq 283 dL_law_259 (by decide) (fun c => ?_) (fun c => ?_)
  · exact sim_lv (am_leN (am_leN (am_leN (am_leN (am_leN (am_leN (am_leN am_leT))))))) (t_L_law_283 d (by omega) _)
  · refine sim_aload_n dL_law_262 rfl ?_
    refine sim_aload_n dL_law_263 rfl ?_
    refine sim_bipush (7) dL_law_264 (by decide +kernel) ?_
    refine sim_static (d - 1) dL_law_266 (k_L_areAlike (d - 1) (by omega) _ _ _ _) q_L_areAlike wm_RL_187 rfl rfl (by omega) (Nat.le_of_ble_eq_true rfl) am_nI (am_rI fun h35 v36 => ?_) am_eI
    refine sim_if_eq 283 dL_law_269 (by decide) (fun c => ?_) (fun c => ?_)
    · exact sim_lv (am_leN (am_leN (am_leN (am_leN (am_leN (am_leN (am_leN am_leT))))))) (t_L_law_283 d (by omega) _)
    · refine sim_aload_n dL_law_272 rfl ?_
      refine sim_static (d - 1) dL_law_273 (k_L_areTags (d - 1) (by omega) _ _) q_L_areTags wm_RL_191 rfl rfl (by omega) (Nat.le_of_ble_eq_true rfl) am_nI (am_rI fun h37 v38 => ?_) am_eI
      refine sim_if_eq 283 dL_law_276 (by decide) (fun c => ?_) (fun c => ?_)
      · exact sim_lv (am_leN (am_leN (am_leN (am_leN (am_leN (am_leN (am_leN am_leT))))))) (t_L_law_283 d (by omega) _)
      · refine sim_iconst (1) dL_law_279 (by decide +kernel) ?_
        refine sim_goto 284 dL_law_280 (by decide) ?_
        exact sim_lv (am_leN (am_leN (am_leN (am_leN (am_leN (am_leN (am_leN am_leT))))))) (t_L_law_284 d (by omega) _ _)
def f_L_law_251 (rc90 : Nat × Nat → Option (Nat × Nat) → Option (Nat × Nat) → Int32 → Int32 → am_H → am_R) (_ : Nat × Nat) (x1 : Option (Nat × Nat)) (x2 : Option (Nat × Nat)) (x4 : Int32) (s0 : Int32) (h : am_H) : am_R := rc90 (1, 0) x1 x2 s0 (x4 + 1) h
theorem t_L_law_251 (d : Nat) (hd : 15 ≤ d) (rc90 : Nat × Nat → Option (Nat × Nat) → Option (Nat × Nat) → Int32 → Int32 → am_H → am_R) (hrc90 : ∀ x1 x2 x3 x4 h, Sim m_L_law d 90 [some (.inr (.inr (some (1, 0)))), some (.inr (.inr x1)), some (.inr (.inr x2)), some (.inl x3), some (.inl x4), none, none] [] h (rc90 (1, 0) x1 x2 x3 x4 h)) (x1 : Option (Nat × Nat)) (x2 : Option (Nat × Nat)) (x4 : Int32) (s0 : Int32) (h : am_H) : Sim m_L_law d 251 [some (.inr (.inr (some (1, 0)))), some (.inr (.inr x1)), some (.inr (.inr x2)), none, some (.inl x4), none, none] [.inl s0] h (f_L_law_251 rc90 (1, 0) x1 x2 x4 s0 h) := by
  unfold f_L_law_251
  refine sim_istore_n dL_law_251 (Nat.le_of_ble_eq_true rfl) ?_
  refine sim_iinc (1) dL_law_252 rfl (by decide +kernel) (Nat.le_of_ble_eq_true rfl) ?_
  refine sim_goto 90 dL_law_255 (by decide) ?_
  exact sim_lv (am_leS (am_leS (am_leS (am_leS (am_leS (am_leN (am_leN am_leT))))))) (hrc90 _ _ _ _ _)
def f_L_law_250 (rc90 : Nat × Nat → Option (Nat × Nat) → Option (Nat × Nat) → Int32 → Int32 → am_H → am_R) (_ : Nat × Nat) (x1 : Option (Nat × Nat)) (x2 : Option (Nat × Nat)) (x4 : Int32) (h : am_H) : am_R := f_L_law_251 rc90 (1, 0) x1 x2 x4 (0 : Int32) h
theorem t_L_law_250 (d : Nat) (hd : 15 ≤ d) (rc90 : Nat × Nat → Option (Nat × Nat) → Option (Nat × Nat) → Int32 → Int32 → am_H → am_R) (hrc90 : ∀ x1 x2 x3 x4 h, Sim m_L_law d 90 [some (.inr (.inr (some (1, 0)))), some (.inr (.inr x1)), some (.inr (.inr x2)), some (.inl x3), some (.inl x4), none, none] [] h (rc90 (1, 0) x1 x2 x3 x4 h)) (x1 : Option (Nat × Nat)) (x2 : Option (Nat × Nat)) (x4 : Int32) (h : am_H) : Sim m_L_law d 250 [some (.inr (.inr (some (1, 0)))), some (.inr (.inr x1)), some (.inr (.inr x2)), none, some (.inl x4), none, none] [] h (f_L_law_250 rc90 (1, 0) x1 x2 x4 h) := by
  unfold f_L_law_250
  refine sim_iconst (0) dL_law_250 (by decide +kernel) ?_
  exact sim_lv (am_leS (am_leS (am_leS (am_leN (am_leS (am_leN (am_leN am_leT))))))) (t_L_law_251 d (by omega) _ hrc90 _ _ _ _ _)
def f_L_law_246 (rc90 : Nat × Nat → Option (Nat × Nat) → Option (Nat × Nat) → Int32 → Int32 → am_H → am_R) (_ : Nat × Nat) (x1 : Option (Nat × Nat)) (x2 : Option (Nat × Nat)) (x4 : Int32) (h : am_H) : am_R := f_L_law_251 rc90 (1, 0) x1 x2 x4 (1 : Int32) h
theorem t_L_law_246 (d : Nat) (hd : 15 ≤ d) (rc90 : Nat × Nat → Option (Nat × Nat) → Option (Nat × Nat) → Int32 → Int32 → am_H → am_R) (hrc90 : ∀ x1 x2 x3 x4 h, Sim m_L_law d 90 [some (.inr (.inr (some (1, 0)))), some (.inr (.inr x1)), some (.inr (.inr x2)), some (.inl x3), some (.inl x4), none, none] [] h (rc90 (1, 0) x1 x2 x3 x4 h)) (x1 : Option (Nat × Nat)) (x2 : Option (Nat × Nat)) (x4 : Int32) (h : am_H) : Sim m_L_law d 246 [some (.inr (.inr (some (1, 0)))), some (.inr (.inr x1)), some (.inr (.inr x2)), none, some (.inl x4), none, none] [] h (f_L_law_246 rc90 (1, 0) x1 x2 x4 h) := by
  unfold f_L_law_246
  refine sim_iconst (1) dL_law_246 (by decide +kernel) ?_
  refine sim_goto 251 dL_law_247 (by decide) ?_
  exact sim_lv (am_leS (am_leS (am_leS (am_leN (am_leS (am_leN (am_leN am_leT))))))) (t_L_law_251 d (by omega) _ hrc90 _ _ _ _ _)
def f_L_law_225 (rc90 : Nat × Nat → Option (Nat × Nat) → Option (Nat × Nat) → Int32 → Int32 → am_H → am_R) (_ : Nat × Nat) (x1 : Option (Nat × Nat)) (x2 : Option (Nat × Nat)) (x4 : Int32) (x5 : Int32) (h : am_H) : am_R := m_dv (25 : Int32) <| if (x4 - x4 / (25 : Int32) * (25 : Int32)) = (5 : Int32) then (m_bI (f_L_areGiven x1 x2 (x5 >>> ((5 : Int32) &&& 31)) h) fun h33 v34 => if v34 = 0 then (f_L_law_250 rc90 (1, 0) x1 x2 x4 h33) else (f_L_law_246 rc90 (1, 0) x1 x2 x4 h33)) else (f_L_law_246 rc90 (1, 0) x1 x2 x4 h)
theorem t_L_law_225 (d : Nat) (hd : 15 ≤ d) (rc90 : Nat × Nat → Option (Nat × Nat) → Option (Nat × Nat) → Int32 → Int32 → am_H → am_R) (hrc90 : ∀ x1 x2 x3 x4 h, Sim m_L_law d 90 [some (.inr (.inr (some (1, 0)))), some (.inr (.inr x1)), some (.inr (.inr x2)), some (.inl x3), some (.inl x4), none, none] [] h (rc90 (1, 0) x1 x2 x3 x4 h)) (x1 : Option (Nat × Nat)) (x2 : Option (Nat × Nat)) (x4 : Int32) (x5 : Int32) (h : am_H) : Sim m_L_law d 225 [some (.inr (.inr (some (1, 0)))), some (.inr (.inr x1)), some (.inr (.inr x2)), none, some (.inl x4), some (.inl x5), none] [] h (f_L_law_225 rc90 (1, 0) x1 x2 x4 x5 h) := by
  unfold f_L_law_225
  refine sim_iload dL_law_225 rfl ?_
  refine sim_bipush (25) dL_law_227 (by decide +kernel) ?_
  refine sim_rm dL_law_229 ?_
  refine sim_iconst (5) dL_law_230 (by decide +kernel) ?_
  refine sim_ic_ne 246 dL_law_231 (by decide) (fun c => ?_) (fun c => ?_)
  · exact sim_lv (am_leS (am_leS (am_leS (am_leN (am_leS (am_leN (am_leN am_leT))))))) (t_L_law_246 d (by omega) _ hrc90 _ _ _ _)
  · refine sim_aload_n dL_law_234 rfl ?_
    refine sim_aload_n dL_law_235 rfl ?_
    refine sim_iload dL_law_236 rfl ?_
    refine sim_iconst (5) dL_law_238 (by decide +kernel) ?_
    refine sim_ishr dL_law_239 ?_
    refine sim_static (d - 1) dL_law_240 (k_L_areGiven (d - 1) (by omega) _ _ _ _) q_L_areGiven wm_RL_198 rfl rfl (by omega) (Nat.le_of_ble_eq_true rfl) am_nI (am_rI fun h33 v34 => ?_) am_eI
    refine sim_if_eq 250 dL_law_243 (by decide) (fun c => ?_) (fun c => ?_)
    · exact sim_lv (am_leS (am_leS (am_leS (am_leN (am_leS (am_leN (am_leN am_leT))))))) (t_L_law_250 d (by omega) _ hrc90 _ _ _ _)
    · exact sim_lv (am_leS (am_leS (am_leS (am_leN (am_leS (am_leN (am_leN am_leT))))))) (t_L_law_246 d (by omega) _ hrc90 _ _ _ _)
def f_L_law_200 (rc90 : Nat × Nat → Option (Nat × Nat) → Option (Nat × Nat) → Int32 → Int32 → am_H → am_R) (_ : Nat × Nat) (x1 : Option (Nat × Nat)) (x2 : Option (Nat × Nat)) (x4 : Int32) (x5 : Int32) (h : am_H) : am_R := m_dv (16 : Int32) <| if (x4 - x4 / (16 : Int32) * (16 : Int32)) = (7 : Int32) then (m_bI (f_L_areParted x1 x2 ((x5 >>> ((4 : Int32) &&& 31)) &&& (65535 : Int32)) h) fun h31 v32 => if v32 = 0 then (f_L_law_250 rc90 (1, 0) x1 x2 x4 h31) else (f_L_law_225 rc90 (1, 0) x1 x2 x4 x5 h31)) else (f_L_law_225 rc90 (1, 0) x1 x2 x4 x5 h)
theorem t_L_law_200 (d : Nat) (hd : 15 ≤ d) (rc90 : Nat × Nat → Option (Nat × Nat) → Option (Nat × Nat) → Int32 → Int32 → am_H → am_R) (hrc90 : ∀ x1 x2 x3 x4 h, Sim m_L_law d 90 [some (.inr (.inr (some (1, 0)))), some (.inr (.inr x1)), some (.inr (.inr x2)), some (.inl x3), some (.inl x4), none, none] [] h (rc90 (1, 0) x1 x2 x3 x4 h)) (x1 : Option (Nat × Nat)) (x2 : Option (Nat × Nat)) (x4 : Int32) (x5 : Int32) (h : am_H) : Sim m_L_law d 200 [some (.inr (.inr (some (1, 0)))), some (.inr (.inr x1)), some (.inr (.inr x2)), none, some (.inl x4), some (.inl x5), none] [] h (f_L_law_200 rc90 (1, 0) x1 x2 x4 x5 h) := by
  unfold f_L_law_200
  refine sim_iload dL_law_200 rfl ?_
  refine sim_bipush (16) dL_law_202 (by decide +kernel) ?_
  refine sim_rm dL_law_204 ?_
  refine sim_bipush (7) dL_law_205 (by decide +kernel) ?_
  refine sim_ic_ne 225 dL_law_207 (by decide) (fun c => ?_) (fun c => ?_)
  · exact sim_lv (am_leS (am_leS (am_leS (am_leN (am_leS (am_leS (am_leN am_leT))))))) (t_L_law_225 d (by omega) _ hrc90 _ _ _ _ _)
  · refine sim_aload_n dL_law_210 rfl ?_
    refine sim_aload_n dL_law_211 rfl ?_
    refine sim_iload dL_law_212 rfl ?_
    refine sim_iconst (4) dL_law_214 (by decide +kernel) ?_
    refine sim_ishr dL_law_215 ?_
    refine sim_ldc (65535) dL_law_216 wk_RL_186 ?_
    refine sim_iand dL_law_218 ?_
    refine sim_static (d - 1) dL_law_219 (k_L_areParted (d - 1) (by omega) _ _ _ _) q_L_areParted wm_RL_195 rfl rfl (by omega) (Nat.le_of_ble_eq_true rfl) am_nI (am_rI fun h31 v32 => ?_) am_eI
    refine sim_if_eq 250 dL_law_222 (by decide) (fun c => ?_) (fun c => ?_)
    · exact sim_lv (am_leS (am_leS (am_leS (am_leN (am_leS (am_leN (am_leN am_leT))))))) (t_L_law_250 d (by omega) _ hrc90 _ _ _ _)
    · exact sim_lv (am_leS (am_leS (am_leS (am_leN (am_leS (am_leS (am_leN am_leT))))))) (t_L_law_225 d (by omega) _ hrc90 _ _ _ _ _)
def f_L_law_184 (rc90 : Nat × Nat → Option (Nat × Nat) → Option (Nat × Nat) → Int32 → Int32 → am_H → am_R) (_ : Nat × Nat) (x1 : Option (Nat × Nat)) (x2 : Option (Nat × Nat)) (x4 : Int32) (x5 : Int32) (h : am_H) : am_R := m_dv (8 : Int32) <| if (x4 - x4 / (8 : Int32) * (8 : Int32)) = (3 : Int32) then (m_bI (f_L_areTags x1 h) fun h29 v30 => if v30 = 0 then (f_L_law_250 rc90 (1, 0) x1 x2 x4 h29) else (f_L_law_200 rc90 (1, 0) x1 x2 x4 x5 h29)) else (f_L_law_200 rc90 (1, 0) x1 x2 x4 x5 h)
theorem t_L_law_184 (d : Nat) (hd : 15 ≤ d) (rc90 : Nat × Nat → Option (Nat × Nat) → Option (Nat × Nat) → Int32 → Int32 → am_H → am_R) (hrc90 : ∀ x1 x2 x3 x4 h, Sim m_L_law d 90 [some (.inr (.inr (some (1, 0)))), some (.inr (.inr x1)), some (.inr (.inr x2)), some (.inl x3), some (.inl x4), none, none] [] h (rc90 (1, 0) x1 x2 x3 x4 h)) (x1 : Option (Nat × Nat)) (x2 : Option (Nat × Nat)) (x4 : Int32) (x5 : Int32) (h : am_H) : Sim m_L_law d 184 [some (.inr (.inr (some (1, 0)))), some (.inr (.inr x1)), some (.inr (.inr x2)), none, some (.inl x4), some (.inl x5), none] [] h (f_L_law_184 rc90 (1, 0) x1 x2 x4 x5 h) := by
  unfold f_L_law_184
  refine sim_iload dL_law_184 rfl ?_
  refine sim_bipush (8) dL_law_186 (by decide +kernel) ?_
  refine sim_rm dL_law_188 ?_
  refine sim_iconst (3) dL_law_189 (by decide +kernel) ?_
  refine sim_ic_ne 200 dL_law_190 (by decide) (fun c => ?_) (fun c => ?_)
  · exact sim_lv (am_leS (am_leS (am_leS (am_leN (am_leS (am_leS (am_leN am_leT))))))) (t_L_law_200 d (by omega) _ hrc90 _ _ _ _ _)
  · refine sim_aload_n dL_law_193 rfl ?_
    refine sim_static (d - 1) dL_law_194 (k_L_areTags (d - 1) (by omega) _ _) q_L_areTags wm_RL_191 rfl rfl (by omega) (Nat.le_of_ble_eq_true rfl) am_nI (am_rI fun h29 v30 => ?_) am_eI
    refine sim_if_eq 250 dL_law_197 (by decide) (fun c => ?_) (fun c => ?_)
    · exact sim_lv (am_leS (am_leS (am_leS (am_leN (am_leS (am_leN (am_leN am_leT))))))) (t_L_law_250 d (by omega) _ hrc90 _ _ _ _)
    · exact sim_lv (am_leS (am_leS (am_leS (am_leN (am_leS (am_leS (am_leN am_leT))))))) (t_L_law_200 d (by omega) _ hrc90 _ _ _ _ _)
def f_L_law_154 (rc90 : Nat × Nat → Option (Nat × Nat) → Option (Nat × Nat) → Int32 → Int32 → am_H → am_R) (_ : Nat × Nat) (x1 : Option (Nat × Nat)) (x2 : Option (Nat × Nat)) (x4 : Int32) (x5 : Int32) (s0 : Int32) (h : am_H) : am_R := if s0 = 0 then (f_L_law_250 rc90 (1, 0) x1 x2 x4 h) else (m_dv (15 : Int32) <| if (x4 - x4 / (15 : Int32) * (15 : Int32)) = (14 : Int32) then (m_bI (f_L_areAlike x1 x2 ((x5 >>> ((3 : Int32) &&& 31)) &&& (65535 : Int32)) h) fun h27 v28 => if v28 = 0 then (f_L_law_250 rc90 (1, 0) x1 x2 x4 h27) else (f_L_law_184 rc90 (1, 0) x1 x2 x4 x5 h27)) else (f_L_law_184 rc90 (1, 0) x1 x2 x4 x5 h))
theorem t_L_law_154 (d : Nat) (hd : 15 ≤ d) (rc90 : Nat × Nat → Option (Nat × Nat) → Option (Nat × Nat) → Int32 → Int32 → am_H → am_R) (hrc90 : ∀ x1 x2 x3 x4 h, Sim m_L_law d 90 [some (.inr (.inr (some (1, 0)))), some (.inr (.inr x1)), some (.inr (.inr x2)), some (.inl x3), some (.inl x4), none, none] [] h (rc90 (1, 0) x1 x2 x3 x4 h)) (x1 : Option (Nat × Nat)) (x2 : Option (Nat × Nat)) (x4 : Int32) (x5 : Int32) (s0 : Int32) (h : am_H) : Sim m_L_law d 154 [some (.inr (.inr (some (1, 0)))), some (.inr (.inr x1)), some (.inr (.inr x2)), none, some (.inl x4), some (.inl x5), none] [.inl s0] h (f_L_law_154 rc90 (1, 0) x1 x2 x4 x5 s0 h) := by
  unfold f_L_law_154
  refine sim_istore_n dL_law_154 (Nat.le_of_ble_eq_true rfl) ?_
  refine sim_iload_n dL_law_155 rfl ?_
  refine sim_if_eq 250 dL_law_156 (by decide) (fun c => ?_) (fun c => ?_)
  · exact sim_lv (am_leS (am_leS (am_leS (am_leN (am_leS (am_leN (am_leN am_leT))))))) (t_L_law_250 d (by omega) _ hrc90 _ _ _ _)
  · refine sim_iload dL_law_159 rfl ?_
    refine sim_bipush (15) dL_law_161 (by decide +kernel) ?_
    refine sim_rm dL_law_163 ?_
    refine sim_bipush (14) dL_law_164 (by decide +kernel) ?_
    refine sim_ic_ne 184 dL_law_166 (by decide) (fun c => ?_) (fun c => ?_)
    · exact sim_lv (am_leS (am_leS (am_leS (am_leN (am_leS (am_leS (am_leN am_leT))))))) (t_L_law_184 d (by omega) _ hrc90 _ _ _ _ _)
    · refine sim_aload_n dL_law_169 rfl ?_
      refine sim_aload_n dL_law_170 rfl ?_
      refine sim_iload dL_law_171 rfl ?_
      refine sim_iconst (3) dL_law_173 (by decide +kernel) ?_
      refine sim_ishr dL_law_174 ?_
      refine sim_ldc (65535) dL_law_175 wk_RL_186 ?_
      refine sim_iand dL_law_177 ?_
      refine sim_static (d - 1) dL_law_178 (k_L_areAlike (d - 1) (by omega) _ _ _ _) q_L_areAlike wm_RL_187 rfl rfl (by omega) (Nat.le_of_ble_eq_true rfl) am_nI (am_rI fun h27 v28 => ?_) am_eI
      refine sim_if_eq 250 dL_law_181 (by decide) (fun c => ?_) (fun c => ?_)
      · exact sim_lv (am_leS (am_leS (am_leS (am_leN (am_leS (am_leN (am_leN am_leT))))))) (t_L_law_250 d (by omega) _ hrc90 _ _ _ _)
      · exact sim_lv (am_leS (am_leS (am_leS (am_leN (am_leS (am_leS (am_leN am_leT))))))) (t_L_law_184 d (by omega) _ hrc90 _ _ _ _ _)
def f_L_law_149 (rc90 : Nat × Nat → Option (Nat × Nat) → Option (Nat × Nat) → Int32 → Int32 → am_H → am_R) (_ : Nat × Nat) (x1 : Option (Nat × Nat)) (x2 : Option (Nat × Nat)) (x4 : Int32) (x5 : Int32) (h : am_H) : am_R := f_L_law_154 rc90 (1, 0) x1 x2 x4 x5 (1 : Int32) h
theorem t_L_law_149 (d : Nat) (hd : 15 ≤ d) (rc90 : Nat × Nat → Option (Nat × Nat) → Option (Nat × Nat) → Int32 → Int32 → am_H → am_R) (hrc90 : ∀ x1 x2 x3 x4 h, Sim m_L_law d 90 [some (.inr (.inr (some (1, 0)))), some (.inr (.inr x1)), some (.inr (.inr x2)), some (.inl x3), some (.inl x4), none, none] [] h (rc90 (1, 0) x1 x2 x3 x4 h)) (x1 : Option (Nat × Nat)) (x2 : Option (Nat × Nat)) (x4 : Int32) (x5 : Int32) (h : am_H) : Sim m_L_law d 149 [some (.inr (.inr (some (1, 0)))), some (.inr (.inr x1)), some (.inr (.inr x2)), none, some (.inl x4), some (.inl x5), none] [] h (f_L_law_149 rc90 (1, 0) x1 x2 x4 x5 h) := by
  unfold f_L_law_149
  refine sim_iconst (1) dL_law_149 (by decide +kernel) ?_
  refine sim_goto 154 dL_law_150 (by decide) ?_
  exact sim_lv (am_leS (am_leS (am_leS (am_leN (am_leS (am_leS (am_leN am_leT))))))) (t_L_law_154 d (by omega) _ hrc90 _ _ _ _ _ _)
def f_L_law_90  : Nat → Nat × Nat → Option (Nat × Nat) → Option (Nat × Nat) → Int32 → Int32 → am_H → am_R
  | 0, _, _, _, _, _, _ => none
  | n + 1, _, x1, x2, x3, x4, h => if (150 : Int32) ≤ x4 then (f_L_law_258 x1 x2 x3 h) else (if x3 = 0 then (f_L_law_258 x1 x2 x3 h) else (m_dv (61 : Int32) <| m_bI (f_L_cell (x4 - x4 / (61 : Int32) * (61 : Int32)) h) fun h21 v22 => m_dv (61 : Int32) <| m_bI (f_L_act x1 (v22 + ((2153 : Int32) * (x4 / (61 : Int32)))) h21) fun h23 v24 => if v24 = (-2100000000 : Int32) then (f_L_law_149 (f_L_law_90  n) (1, 0) x1 x2 x4 (v22 + ((2153 : Int32) * (x4 / (61 : Int32)))) h23) else (m_bI (f_L_act x2 (v22 + ((2153 : Int32) * (x4 / (61 : Int32)))) h23) fun h25 v26 => if v26 = v24 then (f_L_law_149 (f_L_law_90  n) (1, 0) x1 x2 x4 (v22 + ((2153 : Int32) * (x4 / (61 : Int32)))) h25) else (f_L_law_154 (f_L_law_90  n) (1, 0) x1 x2 x4 (v22 + ((2153 : Int32) * (x4 / (61 : Int32)))) (0 : Int32) h25))))
theorem t_L_law_90 (d : Nat) (hd : 15 ≤ d)  : ∀ (n : Nat) (x1 : Option (Nat × Nat)) (x2 : Option (Nat × Nat)) (x3 : Int32) (x4 : Int32) (h : am_H), Sim m_L_law d 90 [some (.inr (.inr (some (1, 0)))), some (.inr (.inr x1)), some (.inr (.inr x2)), some (.inl x3), some (.inl x4), none, none] [] h (f_L_law_90  n (1, 0) x1 x2 x3 x4 h) := by
  intro n
  induction n with
  | zero => intros; exact sim_none
  | succ n hrc90 =>
    intro x1 x2 x3 x4 h
    rw [f_L_law_90]
    refine sim_iload dL_law_90 rfl ?_
    refine sim_sipush (150) dL_law_92 (by decide +kernel) ?_
    refine sim_ic_ge 258 dL_law_95 (by decide) (fun c => ?_) (fun c => ?_)
    · exact sim_lv (am_leN (am_leS (am_leS (am_leS (am_leN (am_leN (am_leN am_leT))))))) (t_L_law_258 d (by omega) _ _ _ _)
    · refine sim_iload_n dL_law_98 rfl ?_
      refine sim_if_eq 258 dL_law_99 (by decide) (fun c => ?_) (fun c => ?_)
      · exact sim_lv (am_leN (am_leS (am_leS (am_leS (am_leN (am_leN (am_leN am_leT))))))) (t_L_law_258 d (by omega) _ _ _ _)
      · refine sim_aload_n dL_law_102 rfl ?_
        refine sim_iload dL_law_103 rfl ?_
        refine sim_bipush (61) dL_law_105 (by decide +kernel) ?_
        refine sim_rm dL_law_107 ?_
        refine sim_static (d - 1) dL_law_108 (k_L_cell (d - 1) (by omega) _ _) q_L_cell wm_RL_179 rfl rfl (by omega) (Nat.le_of_ble_eq_true rfl) am_nI (am_rI fun h21 v22 => ?_) am_eI
        refine sim_sipush (2153) dL_law_111 (by decide +kernel) ?_
        refine sim_iload dL_law_114 rfl ?_
        refine sim_bipush (61) dL_law_116 (by decide +kernel) ?_
        refine sim_dv dL_law_118 ?_
        refine sim_imul dL_law_119 ?_
        refine sim_iadd dL_law_120 ?_
        refine sim_istore dL_law_121 (Nat.le_of_ble_eq_true rfl) ?_
        refine sim_aload_n dL_law_123 rfl ?_
        refine sim_iload dL_law_124 rfl ?_
        refine sim_static (d - 1) dL_law_126 (k_L_act (d - 1) (by omega) _ _ _) q_L_act wm_RL_183 rfl rfl (by omega) (Nat.le_of_ble_eq_true rfl) am_nI (am_rI fun h23 v24 => ?_) am_eI
        refine sim_istore dL_law_129 (Nat.le_of_ble_eq_true rfl) ?_
        refine sim_iload dL_law_131 rfl ?_
        refine sim_ldc (-2100000000) dL_law_133 wk_RL_59 ?_
        refine sim_ic_eq 149 dL_law_135 (by decide) (fun c => ?_) (fun c => ?_)
        · exact sim_lv (am_leS (am_leS (am_leS (am_leN (am_leS (am_leS (am_leN am_leT))))))) (t_L_law_149 d (by omega) _ hrc90 _ _ _ _ _)
        · refine sim_aload_n dL_law_138 rfl ?_
          refine sim_iload dL_law_139 rfl ?_
          refine sim_static (d - 1) dL_law_141 (k_L_act (d - 1) (by omega) _ _ _) q_L_act wm_RL_183 rfl rfl (by omega) (Nat.le_of_ble_eq_true rfl) am_nI (am_rI fun h25 v26 => ?_) am_eI
          refine sim_iload dL_law_144 rfl ?_
          refine sim_ic_ne 153 dL_law_146 (by decide) (fun c => ?_) (fun c => ?_)
          · refine sim_iconst (0) dL_law_153 (by decide +kernel) ?_
            exact sim_lv (am_leS (am_leS (am_leS (am_leN (am_leS (am_leS (am_leN am_leT))))))) (t_L_law_154 d (by omega) _ hrc90 _ _ _ _ _ _)
          · exact sim_lv (am_leS (am_leS (am_leS (am_leN (am_leS (am_leS (am_leN am_leT))))))) (t_L_law_149 d (by omega) _ hrc90 _ _ _ _ _)
def f_L_law_87  (_ : Nat × Nat) (x1 : Option (Nat × Nat)) (x2 : Option (Nat × Nat)) (x3 : Int32) (h : am_H) : am_R := f_L_law_90 5000 (1, 0) x1 x2 x3 (0 : Int32) h
theorem t_L_law_87 (d : Nat) (hd : 15 ≤ d)  (x1 : Option (Nat × Nat)) (x2 : Option (Nat × Nat)) (x3 : Int32) (h : am_H) : Sim m_L_law d 87 [some (.inr (.inr (some (1, 0)))), some (.inr (.inr x1)), some (.inr (.inr x2)), some (.inl x3), none, none, none] [] h (f_L_law_87  (1, 0) x1 x2 x3 h) := by
  unfold f_L_law_87
  refine sim_iconst (0) dL_law_87 (by decide +kernel) ?_
  refine sim_istore dL_law_88 (Nat.le_of_ble_eq_true rfl) ?_
  exact sim_lv (am_leS (am_leS (am_leS (am_leS (am_leS (am_leN (am_leN am_leT))))))) (t_L_law_90 d (by omega) _ _ _ _ _ _)
def f_L_law_80 (rc21 : Nat × Nat → Option (Nat × Nat) → Option (Nat × Nat) → Int32 → Int32 → am_H → am_R) (_ : Nat × Nat) (x1 : Option (Nat × Nat)) (x2 : Option (Nat × Nat)) (x4 : Int32) (s0 : Int32) (h : am_H) : am_R := rc21 (1, 0) x1 x2 s0 (x4 + 1) h
theorem t_L_law_80 (d : Nat) (hd : 15 ≤ d) (rc21 : Nat × Nat → Option (Nat × Nat) → Option (Nat × Nat) → Int32 → Int32 → am_H → am_R) (hrc21 : ∀ x1 x2 x3 x4 h, Sim m_L_law d 21 [some (.inr (.inr (some (1, 0)))), some (.inr (.inr x1)), some (.inr (.inr x2)), some (.inl x3), some (.inl x4), none, none] [] h (rc21 (1, 0) x1 x2 x3 x4 h)) (x1 : Option (Nat × Nat)) (x2 : Option (Nat × Nat)) (x4 : Int32) (s0 : Int32) (h : am_H) : Sim m_L_law d 80 [some (.inr (.inr (some (1, 0)))), some (.inr (.inr x1)), some (.inr (.inr x2)), none, some (.inl x4), none, none] [.inl s0] h (f_L_law_80 rc21 (1, 0) x1 x2 x4 s0 h) := by
  unfold f_L_law_80
  refine sim_istore_n dL_law_80 (Nat.le_of_ble_eq_true rfl) ?_
  refine sim_iinc (1) dL_law_81 rfl (by decide +kernel) (Nat.le_of_ble_eq_true rfl) ?_
  refine sim_goto 21 dL_law_84 (by decide) ?_
  exact sim_lv (am_leS (am_leS (am_leS (am_leS (am_leS (am_leN (am_leN am_leT))))))) (hrc21 _ _ _ _ _)
def f_L_law_79 (rc21 : Nat × Nat → Option (Nat × Nat) → Option (Nat × Nat) → Int32 → Int32 → am_H → am_R) (_ : Nat × Nat) (x1 : Option (Nat × Nat)) (x2 : Option (Nat × Nat)) (x4 : Int32) (h : am_H) : am_R := f_L_law_80 rc21 (1, 0) x1 x2 x4 (0 : Int32) h
theorem t_L_law_79 (d : Nat) (hd : 15 ≤ d) (rc21 : Nat × Nat → Option (Nat × Nat) → Option (Nat × Nat) → Int32 → Int32 → am_H → am_R) (hrc21 : ∀ x1 x2 x3 x4 h, Sim m_L_law d 21 [some (.inr (.inr (some (1, 0)))), some (.inr (.inr x1)), some (.inr (.inr x2)), some (.inl x3), some (.inl x4), none, none] [] h (rc21 (1, 0) x1 x2 x3 x4 h)) (x1 : Option (Nat × Nat)) (x2 : Option (Nat × Nat)) (x4 : Int32) (h : am_H) : Sim m_L_law d 79 [some (.inr (.inr (some (1, 0)))), some (.inr (.inr x1)), some (.inr (.inr x2)), none, some (.inl x4), none, none] [] h (f_L_law_79 rc21 (1, 0) x1 x2 x4 h) := by
  unfold f_L_law_79
  refine sim_iconst (0) dL_law_79 (by decide +kernel) ?_
  exact sim_lv (am_leS (am_leS (am_leS (am_leN (am_leS (am_leN (am_leN am_leT))))))) (t_L_law_80 d (by omega) _ hrc21 _ _ _ _ _)
def f_L_law_21  : Nat → Nat × Nat → Option (Nat × Nat) → Option (Nat × Nat) → Int32 → Int32 → am_H → am_R
  | 0, _, _, _, _, _, _ => none
  | n + 1, _, x1, x2, x3, x4, h => if (4 : Int32) ≤ x4 then (f_L_law_87 (1, 0) x1 x2 x3 h) else (if x3 = 0 then (f_L_law_87 (1, 0) x1 x2 x3 h) else (m_ao x1 10 fun a11 => m_bI (f_X10_tag a11 h) fun h9 v10 => if v10 = x4 then (m_ao x2 10 fun a14 => m_bI (f_X10_tag a14 h9) fun h12 v13 => if v13 = x4 then (m_ao x1 10 fun a17 => m_bI (f_X10_work a17 x4 x4 h12) fun h15 v16 => if v16 = x4 then (m_ao x2 10 fun a20 => m_bI (f_X10_work a20 x4 x4 h15) fun h18 v19 => if v19 = x4 then (f_L_law_80 (f_L_law_21  n) (1, 0) x1 x2 x4 (1 : Int32) h18) else (f_L_law_79 (f_L_law_21  n) (1, 0) x1 x2 x4 h18)) else (f_L_law_79 (f_L_law_21  n) (1, 0) x1 x2 x4 h15)) else (f_L_law_79 (f_L_law_21  n) (1, 0) x1 x2 x4 h12)) else (f_L_law_79 (f_L_law_21  n) (1, 0) x1 x2 x4 h9)))
theorem t_L_law_21 (d : Nat) (hd : 15 ≤ d)  : ∀ (n : Nat) (x1 : Option (Nat × Nat)) (x2 : Option (Nat × Nat)) (x3 : Int32) (x4 : Int32) (h : am_H), Sim m_L_law d 21 [some (.inr (.inr (some (1, 0)))), some (.inr (.inr x1)), some (.inr (.inr x2)), some (.inl x3), some (.inl x4), none, none] [] h (f_L_law_21  n (1, 0) x1 x2 x3 x4 h) := by
  intro n
  induction n with
  | zero => intros; exact sim_none
  | succ n hrc21 =>
    intro x1 x2 x3 x4 h
    rw [f_L_law_21]
    refine sim_iload dL_law_21 rfl ?_
    refine sim_iconst (4) dL_law_23 (by decide +kernel) ?_
    refine sim_ic_ge 87 dL_law_24 (by decide) (fun c => ?_) (fun c => ?_)
    · exact sim_lv (am_leS (am_leS (am_leS (am_leS (am_leN (am_leN (am_leN am_leT))))))) (t_L_law_87 d (by omega) _ _ _ _)
    · refine sim_iload_n dL_law_27 rfl ?_
      refine sim_if_eq 87 dL_law_28 (by decide) (fun c => ?_) (fun c => ?_)
      · exact sim_lv (am_leS (am_leS (am_leS (am_leS (am_leN (am_leN (am_leN am_leT))))))) (t_L_law_87 d (by omega) _ _ _ _)
      · refine sim_aload_n dL_law_31 rfl ?_
        refine sim_ao0 (fun a11 e => ?_)
        refine sim_virt (d - 1) e dL_law_32 (k_X10_tag (d - 1) (by omega) _  _) q_X10_tag rfl rfl wm_RL_105 rfl rfl (by omega) (Nat.le_of_ble_eq_true rfl) am_nI (am_rI fun h9 v10 => ?_) am_eI
        refine sim_iload dL_law_35 rfl ?_
        refine sim_ic_ne 79 dL_law_37 (by decide) (fun c => ?_) (fun c => ?_)
        · exact sim_lv (am_leS (am_leS (am_leS (am_leN (am_leS (am_leN (am_leN am_leT))))))) (t_L_law_79 d (by omega) _ hrc21 _ _ _ _)
        · refine sim_aload_n dL_law_40 rfl ?_
          refine sim_ao0 (fun a14 e => ?_)
          refine sim_virt (d - 1) e dL_law_41 (k_X10_tag (d - 1) (by omega) _  _) q_X10_tag rfl rfl wm_RL_105 rfl rfl (by omega) (Nat.le_of_ble_eq_true rfl) am_nI (am_rI fun h12 v13 => ?_) am_eI
          refine sim_iload dL_law_44 rfl ?_
          refine sim_ic_ne 79 dL_law_46 (by decide) (fun c => ?_) (fun c => ?_)
          · exact sim_lv (am_leS (am_leS (am_leS (am_leN (am_leS (am_leN (am_leN am_leT))))))) (t_L_law_79 d (by omega) _ hrc21 _ _ _ _)
          · refine sim_aload_n dL_law_49 rfl ?_
            refine sim_iload dL_law_50 rfl ?_
            refine sim_iload dL_law_52 rfl ?_
            refine sim_ao2 (fun a17 e => ?_)
            refine sim_virt (d - 1) e dL_law_54 (k_X10_work (d - 1) (by omega) _ _ _ _) q_X10_work rfl rfl wm_RL_74 rfl rfl (by omega) (Nat.le_of_ble_eq_true rfl) am_nI (am_rI fun h15 v16 => ?_) am_eI
            refine sim_iload dL_law_57 rfl ?_
            refine sim_ic_ne 79 dL_law_59 (by decide) (fun c => ?_) (fun c => ?_)
            · exact sim_lv (am_leS (am_leS (am_leS (am_leN (am_leS (am_leN (am_leN am_leT))))))) (t_L_law_79 d (by omega) _ hrc21 _ _ _ _)
            · refine sim_aload_n dL_law_62 rfl ?_
              refine sim_iload dL_law_63 rfl ?_
              refine sim_iload dL_law_65 rfl ?_
              refine sim_ao2 (fun a20 e => ?_)
              refine sim_virt (d - 1) e dL_law_67 (k_X10_work (d - 1) (by omega) _ _ _ _) q_X10_work rfl rfl wm_RL_74 rfl rfl (by omega) (Nat.le_of_ble_eq_true rfl) am_nI (am_rI fun h18 v19 => ?_) am_eI
              refine sim_iload dL_law_70 rfl ?_
              refine sim_ic_ne 79 dL_law_72 (by decide) (fun c => ?_) (fun c => ?_)
              · exact sim_lv (am_leS (am_leS (am_leS (am_leN (am_leS (am_leN (am_leN am_leT))))))) (t_L_law_79 d (by omega) _ hrc21 _ _ _ _)
              · refine sim_iconst (1) dL_law_75 (by decide +kernel) ?_
                refine sim_goto 80 dL_law_76 (by decide) ?_
                exact sim_lv (am_leS (am_leS (am_leS (am_leN (am_leS (am_leN (am_leN am_leT))))))) (t_L_law_80 d (by omega) _ hrc21 _ _ _ _ _)
def f_L_law  (h : am_H) : am_R := m_new 69 13 h fun a1 h2 => m_bW (f_X10_init a1 h2) fun h3 => m_new 72 13 h3 fun a5 h6 => m_bW (f_X10_init a5 h6) fun h7 => f_L_law_21 5000 (1, 0) (some a1) (some a5) (1 : Int32) (0 : Int32) h7
theorem s_L_law (d : Nat) (hd : 15 ≤ d) (h : am_H) : Sim m_L_law d 0 (am_lvN 7 [.inr (.inr (some (1, 0)))]) [] h (f_L_law h) := by
  unfold f_L_law
  refine sim_nw 69 10 13 dL_law_0 rfl rfl wc_RL_19 wi_RX10 wz_RX10 (fun a1 h2 => ?_)
  refine sim_dup_r dL_law_3 ?_
  refine sim_ctor (d - 1) dL_law_4 (k_X10_init (d - 1) (by omega) _  _) q_X10_init wm_RL_178 rfl rfl (by omega) (Nat.le_of_ble_eq_true rfl) am_nW am_xW (am_rW fun h3 => ?_)
  refine sim_astore_n dL_law_7 (Nat.le_of_ble_eq_true rfl) ?_
  refine sim_nw 72 10 13 dL_law_8 rfl rfl wc_RL_19 wi_RX10 wz_RX10 (fun a5 h6 => ?_)
  refine sim_dup_r dL_law_11 ?_
  refine sim_ctor (d - 1) dL_law_12 (k_X10_init (d - 1) (by omega) _  _) q_X10_init wm_RL_178 rfl rfl (by omega) (Nat.le_of_ble_eq_true rfl) am_nW am_xW (am_rW fun h7 => ?_)
  refine sim_astore_n dL_law_15 (Nat.le_of_ble_eq_true rfl) ?_
  refine sim_iconst (1) dL_law_16 (by decide +kernel) ?_
  refine sim_istore_n dL_law_17 (Nat.le_of_ble_eq_true rfl) ?_
  refine sim_iconst (0) dL_law_18 (by decide +kernel) ?_
  refine sim_istore dL_law_19 (Nat.le_of_ble_eq_true rfl) ?_
  exact sim_lv (am_leS (am_leS (am_leS (am_leS (am_leS (am_leN (am_leN am_leT))))))) (t_L_law_21 d (by omega) _ _ _ _ _ _)
