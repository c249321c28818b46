abbrev m_X10_same : am_M := (yX10_same, cX10_same, 6, some .boolean, [])
def f_X10_same_78  (s0 : Int32) (h : am_H) : am_R := m_rz h s0
theorem t_X10_same_78 (d : Nat) (hd : 7 ≤ d)  (s0 : Int32) (h : am_H) : Sim m_X10_same d 78 [none, none, none, none, none, none] [.inl s0] h (f_X10_same_78  s0 h) := by
  unfold f_X10_same_78
  exact sim_zret dX10_same_78 rfl
def f_X10_same_63 (rc37 : Nat × Nat → Int32 → Int32 → Int32 → am_H → am_R) (a0 : Nat × Nat) (x3 : Int32) (x4 : Int32) (x5 : Int32) (h : am_H) : am_R := rc37 a0 x3 x4 (x5 + 1) h
theorem t_X10_same_63 (d : Nat) (hd : 7 ≤ d) (rc37 : Nat × Nat → Int32 → Int32 → Int32 → am_H → am_R) (hrc37 : ∀ a0 x3 x4 x5 h, Sim m_X10_same d 37 [some (.inr (.inr (some a0))), none, none, some (.inl x3), some (.inl x4), some (.inl x5)] [] h (rc37 a0 x3 x4 x5 h)) (a0 : Nat × Nat) (x3 : Int32) (x4 : Int32) (x5 : Int32) (h : am_H) : Sim m_X10_same d 63 [some (.inr (.inr (some a0))), none, none, some (.inl x3), some (.inl x4), some (.inl x5)] [] h (f_X10_same_63 rc37 a0 x3 x4 x5 h) := by
  unfold f_X10_same_63
  refine sim_iinc (1) dX10_same_63 rfl (by decide +kernel) (Nat.le_of_ble_eq_true rfl) ?_
  refine sim_goto 37 dX10_same_66 (by decide) ?_
  exact sim_lv (am_leS (am_leN (am_leN (am_leS (am_leS (am_leS am_leT)))))) (hrc37 _ _ _ _ _)
def f_X10_same_37  : Nat → Nat × Nat → Int32 → Int32 → Int32 → am_H → am_R
  | 0, _, _, _, _, _ => none
  | n + 1, a0, x3, x4, x5, h => if (32 : Int32) ≤ x5 then (if x3 = 0 then (f_X10_same_78 (1 : Int32) h) else (f_X10_same_78 (0 : Int32) h)) else (m_bI (f_X10_has x4 x5 h) fun h13 v14 => if v14 = 0 then (f_X10_same_63 (f_X10_same_37  n) a0 x3 x4 x5 h13) else (m_gR (some a0) 10 1 h13 fun o15 => m_sI o15 x5 x4 h13 fun h16 => f_X10_same_63 (f_X10_same_37  n) a0 x3 x4 x5 h16))
theorem t_X10_same_37 (d : Nat) (hd : 7 ≤ d)  : ∀ (n : Nat) (a0 : Nat × Nat) (x3 : Int32) (x4 : Int32) (x5 : Int32) (h : am_H), Sim m_X10_same d 37 [some (.inr (.inr (some a0))), none, none, some (.inl x3), some (.inl x4), some (.inl x5)] [] h (f_X10_same_37  n a0 x3 x4 x5 h) := by
  intro n
  induction n with
  | zero => intros; exact sim_none
  | succ n hrc37 =>
    intro a0 x3 x4 x5 h
    rw [f_X10_same_37]
    refine sim_iload dX10_same_37 rfl ?_
    refine sim_bipush (32) dX10_same_39 (by decide +kernel) ?_
    refine sim_ic_ge 69 dX10_same_41 (by decide) (fun c => ?_) (fun c => ?_)
    · refine sim_iload_n dX10_same_69 rfl ?_
      refine sim_if_ne 77 dX10_same_70 (by decide) (fun c => ?_) (fun c => ?_)
      · refine sim_iconst (0) dX10_same_77 (by decide +kernel) ?_
        exact sim_lv (am_leN (am_leN (am_leN (am_leN (am_leN (am_leN am_leT)))))) (t_X10_same_78 d (by omega) _ _)
      · refine sim_iconst (1) dX10_same_73 (by decide +kernel) ?_
        refine sim_goto 78 dX10_same_74 (by decide) ?_
        exact sim_lv (am_leN (am_leN (am_leN (am_leN (am_leN (am_leN am_leT)))))) (t_X10_same_78 d (by omega) _ _)
    · refine sim_iload dX10_same_44 rfl ?_
      refine sim_iload dX10_same_46 rfl ?_
      refine sim_static (d - 1) dX10_same_48 (k_X10_has (d - 1) (by omega) _ _ _) q_X10_has wm_RX10_91 rfl rfl (by omega) (Nat.le_of_ble_eq_true rfl) am_nI (am_rI fun h13 v14 => ?_) am_eI
      refine sim_if_eq 63 dX10_same_51 (by decide) (fun c => ?_) (fun c => ?_)
      · exact sim_lv (am_leS (am_leN (am_leN (am_leS (am_leS (am_leS am_leT)))))) (t_X10_same_63 d (by omega) _ hrc37 _ _ _ _ _)
      · refine sim_aload_n dX10_same_54 rfl ?_
        refine sim_gR 10 1 dX10_same_55 rfl wf_RX10_9 (Nat.le_of_ble_eq_true rfl) rfl (fun o15 => ?_)
        refine sim_iload dX10_same_58 rfl ?_
        refine sim_iload dX10_same_60 rfl ?_
        refine sim_sI dX10_same_62 (fun h16 => ?_)
        exact sim_lv (am_leS (am_leN (am_leN (am_leS (am_leS (am_leS am_leT)))))) (t_X10_same_63 d (by omega) _ hrc37 _ _ _ _ _)
def f_X10_same (a0 : Nat × Nat) (x1 : Int32) (x2 : Int32) (h : am_H) : am_R := m_bV (f_X10_checkFace x1 h) fun h1 => m_bV (f_X10_checkFace x2 h1) fun h3 => m_gR (some a0) 10 1 h3 fun o5 => m_aI o5 0 x1 h3 fun v6 => m_bI (f_X10_has v6 x2 h3) fun h7 v8 => m_gR (some a0) 10 1 h7 fun o9 => m_aI o9 0 x1 h7 fun v10 => m_gR (some a0) 10 1 h7 fun o11 => m_aI o11 0 x2 h7 fun v12 => f_X10_same_37 5000 a0 v8 (v10 ||| v12) (0 : Int32) h7
theorem k_X10_same (d : Nat) (hd : 7 ≤ d) (a0 : Nat × Nat) (x1 : Int32) (x2 : Int32) (h : am_H) : am_Con m_X10_same d [.inr (.inr (some a0)), .inl x1, .inl x2] h (f_X10_same a0 x1 x2 h) := am_con (by decide +kernel) (Nat.le_of_ble_eq_true rfl) (by
  unfold f_X10_same
  refine sim_iload_n dX10_same_0 rfl ?_
  refine sim_static (d - 1) dX10_same_1 (k_X10_checkFace (d - 1) (by omega) _ _) q_X10_checkFace wm_RX10_99 rfl rfl (by omega) (Nat.le_of_ble_eq_true rfl) am_nV (am_rV fun h1 => ?_) am_eV
  refine sim_iload_n dX10_same_4 rfl ?_
  refine sim_static (d - 1) dX10_same_5 (k_X10_checkFace (d - 1) (by omega) _ _) q_X10_checkFace wm_RX10_99 rfl rfl (by omega) (Nat.le_of_ble_eq_true rfl) am_nV (am_rV fun h3 => ?_) am_eV
  refine sim_aload_n dX10_same_8 rfl ?_
  refine sim_gR 10 1 dX10_same_9 rfl wf_RX10_9 (Nat.le_of_ble_eq_true rfl) rfl (fun o5 => ?_)
  refine sim_iload_n dX10_same_12 rfl ?_
  refine sim_aI dX10_same_13 (fun v6 => ?_)
  refine sim_iload_n dX10_same_14 rfl ?_
  refine sim_static (d - 1) dX10_same_15 (k_X10_has (d - 1) (by omega) _ _ _) q_X10_has wm_RX10_91 rfl rfl (by omega) (Nat.le_of_ble_eq_true rfl) am_nI (am_rI fun h7 v8 => ?_) am_eI
  refine sim_istore_n dX10_same_18 (Nat.le_of_ble_eq_true rfl) ?_
  refine sim_aload_n dX10_same_19 rfl ?_
  refine sim_gR 10 1 dX10_same_20 rfl wf_RX10_9 (Nat.le_of_ble_eq_true rfl) rfl (fun o9 => ?_)
  refine sim_iload_n dX10_same_23 rfl ?_
  refine sim_aI dX10_same_24 (fun v10 => ?_)
  refine sim_aload_n dX10_same_25 rfl ?_
  refine sim_gR 10 1 dX10_same_26 rfl wf_RX10_9 (Nat.le_of_ble_eq_true rfl) rfl (fun o11 => ?_)
  refine sim_iload_n dX10_same_29 rfl ?_
  refine sim_aI dX10_same_30 (fun v12 => ?_)
  refine sim_ior dX10_same_31 ?_
  refine sim_istore dX10_same_32 (Nat.le_of_ble_eq_true rfl) ?_
  refine sim_iconst (0) dX10_same_34 (by decide +kernel) ?_
  refine sim_istore dX10_same_35 (Nat.le_of_ble_eq_true rfl) ?_
  exact sim_lv (am_leS (am_leN (am_leN (am_leS (am_leS (am_leS am_leT)))))) (t_X10_same_37 d (by omega) _ _ _ _ _ _))
theorem q_X10_same : am_Cal m_X10_same 2 2 := ⟨am_mem 447 (w := Cond.code yX10_same cX10_same 6 (some .boolean)) (by decide +kernel) rfl, am_mem 30 (w := Cond.initialized RX10) (by decide +kernel) rfl, fun z => absurd z (by decide), fun _ => am_mem 445 (w := Cond.instanceMethod yX10_same) (by decide +kernel) rfl, fun z => absurd z (by decide), fun _ => am_mem 446 (w := Cond.selects RX10 yX10_same yX10_same) (by decide +kernel) rfl, by decide +kernel, by decide +kernel, Nat.le_of_ble_eq_true rfl⟩
abbrev m_X10_sees : am_M := (yX10_sees, cX10_sees, 3, some .boolean, [])
def f_X10_sees (a0 : Nat × Nat) (x1 : Int32) (x2 : Int32) (h : am_H) : am_R := m_bV (f_X10_checkFace x1 h) fun h1 => m_ao (some a0) 10 fun a5 => m_bR (f_X10_workAt a5 x2 h1) fun h3 o4 => m_gI (some a0) 10 0 h3 fun v6 => m_ao o4 9 fun a9 => m_bI (f_X9_isSeenBy a9 x1 v6 h3) fun h7 v8 => m_rz h7 v8
theorem k_X10_sees (d : Nat) (hd : 8 ≤ d) (a0 : Nat × Nat) (x1 : Int32) (x2 : Int32) (h : am_H) : am_Con m_X10_sees d [.inr (.inr (some a0)), .inl x1, .inl x2] h (f_X10_sees a0 x1 x2 h) := am_con (by decide +kernel) (Nat.le_of_ble_eq_true rfl) (by
  unfold f_X10_sees
  refine sim_iload_n dX10_sees_0 rfl ?_
  refine sim_static (d - 1) dX10_sees_1 (k_X10_checkFace (d - 1) (by omega) _ _) q_X10_checkFace wm_RX10_99 rfl rfl (by omega) (Nat.le_of_ble_eq_true rfl) am_nV (am_rV fun h1 => ?_) am_eV
  refine sim_aload_n dX10_sees_4 rfl ?_
  refine sim_iload_n dX10_sees_5 rfl ?_
  refine sim_ao1 (fun a5 e => ?_)
  refine sim_virt (d - 1) e dX10_sees_6 (k_X10_workAt (d - 1) (by omega) _ _ _) q_X10_workAt rfl rfl wm_RX10_112 rfl rfl (by omega) (Nat.le_of_ble_eq_true rfl) am_nR (am_rR fun h3 o4 => ?_) am_eR
  refine sim_iload_n dX10_sees_9 rfl ?_
  refine sim_aload_n dX10_sees_10 rfl ?_
  refine sim_gI 10 0 dX10_sees_11 rfl wf_RX10_73 (Nat.le_of_ble_eq_true rfl) rfl (fun v6 => ?_)
  refine sim_ao2 (fun a9 e => ?_)
  refine sim_virt (d - 1) e dX10_sees_14 (k_X9_isSeenBy (d - 1) (by omega) _ _ _ _) q_X9_isSeenBy rfl rfl wm_RX10_173 rfl rfl (by omega) (Nat.le_of_ble_eq_true rfl) am_nI (am_rI fun h7 v8 => ?_) am_eI
  exact sim_zret dX10_sees_17 rfl)
theorem q_X10_sees : am_Cal m_X10_sees 2 2 := ⟨am_mem 532 (w := Cond.code yX10_sees cX10_sees 3 (some .boolean)) (by decide +kernel) rfl, am_mem 30 (w := Cond.initialized RX10) (by decide +kernel) rfl, fun z => absurd z (by decide), fun _ => am_mem 530 (w := Cond.instanceMethod yX10_sees) (by decide +kernel) rfl, fun z => absurd z (by decide), fun _ => am_mem 531 (w := Cond.selects RX10 yX10_sees yX10_sees) (by decide +kernel) rfl, by decide +kernel, by decide +kernel, Nat.le_of_ble_eq_true rfl⟩
abbrev m_X7_add : am_M := (yX7_add, cX7_add, 1, some .int, [])
def f_X7_add (a0 : Nat × Nat) (h : am_H) : am_R := m_gR (some a0) 7 1 h fun o1 => m_gI (some a0) 7 0 h fun v2 => m_sI o1 v2 (-1 : Int32) h fun h3 => m_gI (some a0) 7 0 h3 fun v4 => m_pI (some a0) 7 0 (v4 + (1 : Int32)) h3 fun h5 => m_gI (some a0) 7 0 h5 fun v6 => m_ri h5 (v6 - (1 : Int32))
theorem k_X7_add (d : Nat) (hd : 0 ≤ d) (a0 : Nat × Nat) (h : am_H) : am_Con m_X7_add d [.inr (.inr (some a0))] h (f_X7_add a0 h) := am_con (by decide +kernel) (Nat.le_of_ble_eq_true rfl) (by
  unfold f_X7_add
  refine sim_aload_n dX7_add_0 rfl ?_
  refine sim_gR 7 1 dX7_add_1 rfl wf_RX7_9 (Nat.le_of_ble_eq_true rfl) rfl (fun o1 => ?_)
  refine sim_aload_n dX7_add_4 rfl ?_
  refine sim_gI 7 0 dX7_add_5 rfl wf_RX7_21 (Nat.le_of_ble_eq_true rfl) rfl (fun v2 => ?_)
  refine sim_iconst (-1) dX7_add_8 (by decide +kernel) ?_
  refine sim_sI dX7_add_9 (fun h3 => ?_)
  refine sim_aload_n dX7_add_10 rfl ?_
  refine sim_dup_r dX7_add_11 ?_
  refine sim_gI 7 0 dX7_add_12 rfl wf_RX7_21 (Nat.le_of_ble_eq_true rfl) rfl (fun v4 => ?_)
  refine sim_iconst (1) dX7_add_15 (by decide +kernel) ?_
  refine sim_iadd dX7_add_16 ?_
  refine sim_pI 7 0 dX7_add_17 rfl wf_RX7_21 (Nat.le_of_ble_eq_true rfl) rfl (Or.inl rfl) rfl (fun h5 => ?_)
  refine sim_aload_n dX7_add_20 rfl ?_
  refine sim_gI 7 0 dX7_add_21 rfl wf_RX7_21 (Nat.le_of_ble_eq_true rfl) rfl (fun v6 => ?_)
  refine sim_iconst (1) dX7_add_24 (by decide +kernel) ?_
  refine sim_isub dX7_add_25 ?_
  exact sim_iret dX7_add_26 rfl)
theorem q_X7_add : am_Cal m_X7_add 0 2 := ⟨am_mem 404 (w := Cond.code yX7_add cX7_add 1 (some .int)) (by decide +kernel) rfl, am_mem 31 (w := Cond.initialized RX7) (by decide +kernel) rfl, fun z => absurd z (by decide), fun _ => am_mem 402 (w := Cond.instanceMethod yX7_add) (by decide +kernel) rfl, fun z => absurd z (by decide), fun _ => am_mem 403 (w := Cond.selects RX7 yX7_add yX7_add) (by decide +kernel) rfl, by decide +kernel, by decide +kernel, Nat.le_of_ble_eq_true rfl⟩
abbrev m_X10_tag : am_M := (yX10_tag, cX10_tag, 1, some .int, [])
def f_X10_tag (a0 : Nat × Nat) (h : am_H) : am_R := m_gR (some a0) 10 7 h fun o1 => m_gI o1 7 0 h fun v2 => if v2 < (30 : Int32) then (m_gR (some a0) 10 7 h fun o3 => m_ao o3 7 fun a6 => m_bI (f_X7_add a6 h) fun h4 v5 => m_ri h4 v5) else (m_ex h 2)
theorem k_X10_tag (d : Nat) (hd : 6 ≤ d) (a0 : Nat × Nat) (h : am_H) : am_Con m_X10_tag d [.inr (.inr (some a0))] h (f_X10_tag a0 h) := am_con (by decide +kernel) (Nat.le_of_ble_eq_true rfl) (by
  unfold f_X10_tag
  refine sim_aload_n dX10_tag_0 rfl ?_
  refine sim_gR 10 7 dX10_tag_1 rfl wf_RX10_34 (Nat.le_of_ble_eq_true rfl) rfl (fun o1 => ?_)
  refine sim_gI 7 0 dX10_tag_4 rfl wf_RX10_180 (Nat.le_of_ble_eq_true rfl) rfl (fun v2 => ?_)
  refine sim_bipush (30) dX10_tag_7 (by decide +kernel) ?_
  refine sim_ic_lt 22 dX10_tag_9 (by decide) (fun c => ?_) (fun c => ?_)
  · refine sim_aload_n dX10_tag_22 rfl ?_
    refine sim_gR 10 7 dX10_tag_23 rfl wf_RX10_34 (Nat.le_of_ble_eq_true rfl) rfl (fun o3 => ?_)
    refine sim_ao0 (fun a6 e => ?_)
    refine sim_virt (d - 1) e dX10_tag_26 (k_X7_add (d - 1) (by omega) _  _) q_X7_add rfl rfl wm_RX10_185 rfl rfl (by omega) (Nat.le_of_ble_eq_true rfl) am_nI (am_rI fun h4 v5 => ?_) am_eI
    exact sim_iret dX10_tag_29 rfl
  · exact sim_throw 2 (by decide) dX10_tag_12 dX10_tag_15 dX10_tag_16 dX10_tag_18 dX10_tag_21 wx_RX10_77 wy_2 ws_RX10_183 at_RX10_81 gd_RX10_81 (by omega) (Nat.le_of_ble_eq_true rfl))
theorem q_X10_tag : am_Cal m_X10_tag 0 2 := ⟨am_mem 399 (w := Cond.code yX10_tag cX10_tag 1 (some .int)) (by decide +kernel) rfl, am_mem 30 (w := Cond.initialized RX10) (by decide +kernel) rfl, fun z => absurd z (by decide), fun _ => am_mem 397 (w := Cond.instanceMethod yX10_tag) (by decide +kernel) rfl, fun z => absurd z (by decide), fun _ => am_mem 398 (w := Cond.selects RX10 yX10_tag yX10_tag) (by decide +kernel) rfl, by decide +kernel, by decide +kernel, Nat.le_of_ble_eq_true rfl⟩
abbrev m_X9_init : am_M := (yX9_init, cX9_init, 3, none, [])
def f_X9_init (a0 : Nat × Nat) (x1 : Int32) (x2 : Int32) (h : am_H) : am_R := m_new 16 8 h fun a1 h2 => m_pR (some a0) 9 2 (some a1) h2 fun h3 => m_pI (some a0) 9 4 (-1 : Int32) h3 fun h4 => m_pI (some a0) 9 1 ((1 : Int32) <<< (x1 &&& 31)) h4 fun h5 => m_pI (some a0) 9 0 x2 h5 fun h6 => m_rt h6 none
theorem k_X9_init (d : Nat) (hd : 1 ≤ d) (a0 : Nat × Nat) (x1 : Int32) (x2 : Int32) (h : am_H) : am_Con m_X9_init d [.inr (.inr (some a0)), .inl x1, .inl x2] h (f_X9_init a0 x1 x2 h) := am_con (by decide +kernel) (Nat.le_of_ble_eq_true rfl) (by
  unfold f_X9_init
  refine sim_aload_n dX9_init_0 rfl ?_
  refine sim_obj dX9_init_1 wm_RX9_3 wobj_i wobj_c (by omega) (Nat.le_of_ble_eq_true rfl) ?_
  refine sim_aload_n dX9_init_4 rfl ?_
  refine sim_bipush (8) dX9_init_5 (by decide +kernel) ?_
  refine sim_nwI 16 0 8 dX9_init_7 rfl rfl rfl (by decide +kernel) (Nat.le_of_ble_eq_true rfl) (fun _ => rfl) rfl (Nat.le_of_ble_eq_true rfl) wa_int (fun a1 h2 => ?_)
  refine sim_pR 9 2 dX9_init_9 rfl wf_RX9_9 (Nat.le_of_ble_eq_true rfl) rfl (Or.inr ⟨rfl, rfl, rfl⟩) (fun h3 => ?_)
  refine sim_aload_n dX9_init_12 rfl ?_
  refine sim_iconst (-1) dX9_init_13 (by decide +kernel) ?_
  refine sim_pI 9 4 dX9_init_14 rfl wf_RX9_15 (Nat.le_of_ble_eq_true rfl) rfl (Or.inl rfl) rfl (fun h4 => ?_)
  refine sim_aload_n dX9_init_17 rfl ?_
  refine sim_iconst (1) dX9_init_18 (by decide +kernel) ?_
  refine sim_iload_n dX9_init_19 rfl ?_
  refine sim_ishl dX9_init_20 ?_
  refine sim_pI 9 1 dX9_init_21 rfl wf_RX9_19 (Nat.le_of_ble_eq_true rfl) rfl (Or.inl rfl) rfl (fun h5 => ?_)
  refine sim_aload_n dX9_init_24 rfl ?_
  refine sim_iload_n dX9_init_25 rfl ?_
  refine sim_pI 9 0 dX9_init_26 rfl wf_RX9_22 (Nat.le_of_ble_eq_true rfl) rfl (Or.inr ⟨rfl, rfl, rfl⟩) rfl (fun h6 => ?_)
  exact sim_vret dX9_init_29 rfl)
theorem q_X9_init : am_Cal m_X9_init 2 1 := ⟨am_mem 348 (w := Cond.code yX9_init cX9_init 3 none) (by decide +kernel) rfl, am_mem 44 (w := Cond.initialized RX9) (by decide +kernel) rfl, fun z => absurd z (by decide), fun _ => am_mem 347 (w := Cond.instanceMethod yX9_init) (by decide +kernel) rfl, fun _ => rfl, fun z => absurd z (by decide), by decide +kernel, by decide +kernel, Nat.le_of_ble_eq_true rfl⟩
abbrev m_X10_work : am_M := (yX10_work, cX10_work, 3, some .int, [])
def f_X10_work_13   (h : am_H) : am_R := m_ex h 1
theorem t_X10_work_13 (d : Nat) (hd : 7 ≤ d)   (h : am_H) : Sim m_X10_work d 13 [none, none, none] [] h (f_X10_work_13   h) := by
  unfold f_X10_work_13
  exact sim_throw 1 (by decide) dX10_work_13 dX10_work_16 dX10_work_17 dX10_work_19 dX10_work_22 wx_RX10_66 wy_1 ws_RX10_102 at_RX10_70 gd_RX10_70 (by omega) (Nat.le_of_ble_eq_true rfl)
def f_X10_work (a0 : Nat × Nat) (x1 : Int32) (x2 : Int32) (h : am_H) : am_R := m_bV (f_X10_checkPerson x1 h) fun h1 => if x2 < 0 then (f_X10_work_13 h1) else (if x2 ≤ (3 : Int32) then (m_gI (some a0) 10 4 h1 fun v3 => if v3 < (20 : Int32) then (m_gR (some a0) 10 3 h1 fun o4 => m_gI (some a0) 10 4 h1 fun v5 => m_new 27 12 h1 fun a6 h7 => m_bW (f_X9_init a6 x1 x2 h7) fun h8 => m_sR o4 5 9 v5 (some a6) h8 fun h10 => m_gI (some a0) 10 4 h10 fun v11 => m_pI (some a0) 10 4 (v11 + (1 : Int32)) h10 fun h12 => m_gI (some a0) 10 4 h12 fun v13 => m_ri h12 (v13 - (1 : Int32))) else (m_ex h1 2)) else (f_X10_work_13 h1))
theorem k_X10_work (d : Nat) (hd : 7 ≤ d) (a0 : Nat × Nat) (x1 : Int32) (x2 : Int32) (h : am_H) : am_Con m_X10_work d [.inr (.inr (some a0)), .inl x1, .inl x2] h (f_X10_work a0 x1 x2 h) := am_con (by decide +kernel) (Nat.le_of_ble_eq_true rfl) (by
  unfold f_X10_work
  refine sim_iload_n dX10_work_0 rfl ?_
  refine sim_static (d - 1) dX10_work_1 (k_X10_checkPerson (d - 1) (by omega) _ _) q_X10_checkPerson wm_RX10_82 rfl rfl (by omega) (Nat.le_of_ble_eq_true rfl) am_nV (am_rV fun h1 => ?_) am_eV
  refine sim_iload_n dX10_work_4 rfl ?_
  refine sim_if_lt 13 dX10_work_5 (by decide) (fun c => ?_) (fun c => ?_)
  · exact sim_lv (am_leN (am_leN (am_leN am_leT))) (t_X10_work_13 d (by omega) _)
  · refine sim_iload_n dX10_work_8 rfl ?_
    refine sim_iconst (3) dX10_work_9 (by decide +kernel) ?_
    refine sim_ic_le 23 dX10_work_10 (by decide) (fun c => ?_) (fun c => ?_)
    · refine sim_aload_n dX10_work_23 rfl ?_
      refine sim_gI 10 4 dX10_work_24 rfl wf_RX10_104 (Nat.le_of_ble_eq_true rfl) rfl (fun v3 => ?_)
      refine sim_bipush (20) dX10_work_27 (by decide +kernel) ?_
      refine sim_ic_lt 42 dX10_work_29 (by decide) (fun c => ?_) (fun c => ?_)
      · refine sim_aload_n dX10_work_42 rfl ?_
        refine sim_gR 10 3 dX10_work_43 rfl wf_RX10_21 (Nat.le_of_ble_eq_true rfl) rfl (fun o4 => ?_)
        refine sim_aload_n dX10_work_46 rfl ?_
        refine sim_gI 10 4 dX10_work_47 rfl wf_RX10_104 (Nat.le_of_ble_eq_true rfl) rfl (fun v5 => ?_)
        refine sim_nw 27 9 12 dX10_work_50 rfl rfl wc_RX10_19 wi_RX9 wz_RX9 (fun a6 h7 => ?_)
        refine sim_dup_r dX10_work_53 ?_
        refine sim_iload_n dX10_work_54 rfl ?_
        refine sim_iload_n dX10_work_55 rfl ?_
        refine sim_ctor (d - 1) dX10_work_56 (k_X9_init (d - 1) (by omega) _ _ _ _) q_X9_init wm_RX10_109 rfl rfl (by omega) (Nat.le_of_ble_eq_true rfl) am_nW am_xW (am_rW fun h8 => ?_)
        refine sim_sR 5 rfl dX10_work_59 (fun h10 => ?_)
        refine sim_aload_n dX10_work_60 rfl ?_
        refine sim_dup_r dX10_work_61 ?_
        refine sim_gI 10 4 dX10_work_62 rfl wf_RX10_104 (Nat.le_of_ble_eq_true rfl) rfl (fun v11 => ?_)
        refine sim_iconst (1) dX10_work_65 (by decide +kernel) ?_
        refine sim_iadd dX10_work_66 ?_
        refine sim_pI 10 4 dX10_work_67 rfl wf_RX10_104 (Nat.le_of_ble_eq_true rfl) rfl (Or.inl rfl) rfl (fun h12 => ?_)
        refine sim_aload_n dX10_work_70 rfl ?_
        refine sim_gI 10 4 dX10_work_71 rfl wf_RX10_104 (Nat.le_of_ble_eq_true rfl) rfl (fun v13 => ?_)
        refine sim_iconst (1) dX10_work_74 (by decide +kernel) ?_
        refine sim_isub dX10_work_75 ?_
        exact sim_iret dX10_work_76 rfl
      · exact sim_throw 2 (by decide) dX10_work_32 dX10_work_35 dX10_work_36 dX10_work_38 dX10_work_41 wx_RX10_77 wy_2 ws_RX10_107 at_RX10_81 gd_RX10_81 (by omega) (Nat.le_of_ble_eq_true rfl)
    · exact sim_lv (am_leN (am_leN (am_leN am_leT))) (t_X10_work_13 d (by omega) _))
theorem q_X10_work : am_Cal m_X10_work 2 2 := ⟨am_mem 241 (w := Cond.code yX10_work cX10_work 3 (some .int)) (by decide +kernel) rfl, am_mem 30 (w := Cond.initialized RX10) (by decide +kernel) rfl, fun z => absurd z (by decide), fun _ => am_mem 239 (w := Cond.instanceMethod yX10_work) (by decide +kernel) rfl, fun z => absurd z (by decide), fun _ => am_mem 240 (w := Cond.selects RX10 yX10_work yX10_work) (by decide +kernel) rfl, by decide +kernel, by decide +kernel, Nat.le_of_ble_eq_true rfl⟩
abbrev m_L_early : am_M := (yL_early, cL_early, 5, some .int, [])
def f_L_early_279  (s0 : Int32) (h : am_H) : am_R := m_ri h s0
theorem t_L_early_279 (d : Nat) (hd : 10 ≤ d)  (s0 : Int32) (h : am_H) : Sim m_L_early d 279 [none, none, none, none, none] [.inl s0] h (f_L_early_279  s0 h) := by
  unfold f_L_early_279
  exact sim_iret dL_early_279 rfl
def f_L_early_273  (s0 : Int32) (s1 : Int32) (s2 : Int32) (s3 : Option (Nat × Nat)) (h : am_H) : am_R := m_ao s3 10 fun a58 => m_bI (f_X10_parent a58 s2 s1 s0 h) fun h56 v57 => m_bI (f_L_bit v57 h56) fun h59 v60 => f_L_early_279 v60 h59
theorem t_L_early_273 (d : Nat) (hd : 10 ≤ d)  (s0 : Int32) (s1 : Int32) (s2 : Int32) (s3 : Option (Nat × Nat)) (h : am_H) : Sim m_L_early d 273 [none, none, none, none, none] [.inl s0, .inl s1, .inl s2, .inr (.inr s3)] h (f_L_early_273  s0 s1 s2 s3 h) := by
  unfold f_L_early_273
  refine sim_ao3 (fun a58 e => ?_)
  refine sim_virt (d - 1) e dL_early_273 (k_X10_parent (d - 1) (by omega) _ _ _ _ _) q_X10_parent rfl rfl wm_RL_115 rfl rfl (by omega) (Nat.le_of_ble_eq_true rfl) am_nI (am_rI fun h56 v57 => ?_) am_eI
  refine sim_static (d - 1) dL_early_276 (k_L_bit (d - 1) (by omega) _ _) q_L_bit wm_RL_24 rfl rfl (by omega) (Nat.le_of_ble_eq_true rfl) am_nI (am_rI fun h59 v60 => ?_) am_eI
  exact sim_lv (am_leN (am_leN (am_leN (am_leN (am_leN am_leT))))) (t_L_early_279 d (by omega) _ _)
def f_L_early_145  (s0 : Int32) (s1 : Int32) (s2 : Option (Nat × Nat)) (h : am_H) : am_R := m_ao s2 10 fun a53 => m_bI (f_X10_lock a53 s1 s0 h) fun h51 v52 => m_bI (f_L_bit v52 h51) fun h54 v55 => f_L_early_279 v55 h54
theorem t_L_early_145 (d : Nat) (hd : 10 ≤ d)  (s0 : Int32) (s1 : Int32) (s2 : Option (Nat × Nat)) (h : am_H) : Sim m_L_early d 145 [none, none, none, none, none] [.inl s0, .inl s1, .inr (.inr s2)] h (f_L_early_145  s0 s1 s2 h) := by
  unfold f_L_early_145
  refine sim_ao2 (fun a53 e => ?_)
  refine sim_virt (d - 1) e dL_early_145 (k_X10_lock (d - 1) (by omega) _ _ _ _) q_X10_lock rfl rfl wm_RL_89 rfl rfl (by omega) (Nat.le_of_ble_eq_true rfl) am_nI (am_rI fun h51 v52 => ?_) am_eI
  refine sim_static (d - 1) dL_early_148 (k_L_bit (d - 1) (by omega) _ _) q_L_bit wm_RL_24 rfl rfl (by omega) (Nat.le_of_ble_eq_true rfl) am_nI (am_rI fun h54 v55 => ?_) am_eI
  refine sim_goto 279 dL_early_151 (by decide) ?_
  exact sim_lv (am_leN (am_leN (am_leN (am_leN (am_leN am_leT))))) (t_L_early_279 d (by omega) _ _)
def f_L_early_31  (s0 : Int32) (s1 : Int32) (s2 : Int32) (s3 : Option (Nat × Nat)) (h : am_H) : am_R := m_ao s3 10 fun a48 => m_bI (f_X10_block a48 s2 s1 s0 h) fun h46 v47 => m_bI (f_L_bit v47 h46) fun h49 v50 => f_L_early_279 v50 h49
theorem t_L_early_31 (d : Nat) (hd : 10 ≤ d)  (s0 : Int32) (s1 : Int32) (s2 : Int32) (s3 : Option (Nat × Nat)) (h : am_H) : Sim m_L_early d 31 [none, none, none, none, none] [.inl s0, .inl s1, .inl s2, .inr (.inr s3)] h (f_L_early_31  s0 s1 s2 s3 h) := by
  unfold f_L_early_31
  refine sim_ao3 (fun a48 e => ?_)
  refine sim_virt (d - 1) e dL_early_31 (k_X10_block (d - 1) (by omega) _ _ _ _ _) q_X10_block rfl rfl wm_RL_67 rfl rfl (by omega) (Nat.le_of_ble_eq_true rfl) am_nI (am_rI fun h46 v47 => ?_) am_eI
  refine sim_static (d - 1) dL_early_34 (k_L_bit (d - 1) (by omega) _ _) q_L_bit wm_RL_24 rfl rfl (by omega) (Nat.le_of_ble_eq_true rfl) am_nI (am_rI fun h49 v50 => ?_) am_eI
  refine sim_goto 279 dL_early_37 (by decide) ?_
  exact sim_lv (am_leN (am_leN (am_leN (am_leN (am_leN am_leT))))) (t_L_early_279 d (by omega) _ _)
def f_L_early (x0 : Option (Nat × Nat)) (x1 : Int32) (x2 : Int32) (x3 : Int32) (x4 : Int32) (h : am_H) : am_R := if x1 = 0 then (m_ao x0 10 fun a45 => m_bI (f_X10_pass a45 x2 h) fun h43 v44 => f_L_early_279 v44 h43) else (if x1 = (1 : Int32) then (if x4 = (1 : Int32) then (f_L_early_31 (1 : Int32) x3 x2 x0 h) else (f_L_early_31 (0 : Int32) x3 x2 x0 h)) else (if x1 = (2 : Int32) then (m_ao x0 10 fun a40 => m_bI (f_X10_same a40 x2 x3 h) fun h38 v39 => m_bI (f_L_bit v39 h38) fun h41 v42 => f_L_early_279 v42 h41) else (if x1 = (3 : Int32) then (m_ao x0 10 fun a37 => m_bI (f_X10_work a37 x2 x3 h) fun h35 v36 => f_L_early_279 v36 h35) else (if x1 = (4 : Int32) then (m_ao x0 10 fun a34 => m_bI (f_X10_join a34 x2 x3 h) fun h32 v33 => f_L_early_279 v33 h32) else (if x1 = (5 : Int32) then (m_ao x0 10 fun a31 => m_bI (f_X10_leave a31 x2 x3 h) fun h29 v30 => f_L_early_279 v30 h29) else (if x1 = (6 : Int32) then (m_ao x0 10 fun a28 => m_bI (f_X10_chapter a28 x2 h) fun h26 v27 => f_L_early_279 v27 h26) else (if x1 = (7 : Int32) then (m_ao x0 10 fun a25 => m_bI (f_X10_post a25 x2 h) fun h23 v24 => f_L_early_279 v24 h23) else (if x1 = (8 : Int32) then (if x3 = (1 : Int32) then (f_L_early_145 (1 : Int32) x2 x0 h) else (f_L_early_145 (0 : Int32) x2 x0 h)) else (if x1 = (9 : Int32) then (m_ao x0 10 fun a22 => m_bI (f_X10_collection a22 x2 x3 h) fun h20 v21 => f_L_early_279 v21 h20) else (if x1 = (10 : Int32) then (m_bI (f_L_collects x0 x2 x3 h) fun h18 v19 => f_L_early_279 v19 h18) else (if x1 = (11 : Int32) then (m_ao x0 10 fun a15 => m_bI (f_X10_sees a15 x2 x3 h) fun h13 v14 => m_bI (f_L_bit v14 h13) fun h16 v17 => f_L_early_279 v17 h16) else (if x1 = (12 : Int32) then (m_ao x0 10 fun a12 => m_bI (f_X10_owners a12 x2 x3 h) fun h10 v11 => f_L_early_279 v11 h10) else (if x1 = (13 : Int32) then (m_ao x0 10 fun a9 => m_bI (f_X10_tag a9 h) fun h7 v8 => f_L_early_279 v8 h7) else (if x1 = (14 : Int32) then (m_ao x0 10 fun a6 => m_bI (f_X10_make a6 x2 h) fun h4 v5 => f_L_early_279 v5 h4) else (if x1 = (15 : Int32) then (m_ao x0 10 fun a3 => m_bI (f_X10_merge a3 x2 x3 h) fun h1 v2 => f_L_early_279 v2 h1) else (if x4 = (1 : Int32) then (f_L_early_273 (1 : Int32) x3 x2 x0 h) else (f_L_early_273 (0 : Int32) x3 x2 x0 h)))))))))))))))))
theorem k_L_early (d : Nat) (hd : 10 ≤ d) (x0 : Option (Nat × Nat)) (x1 : Int32) (x2 : Int32) (x3 : Int32) (x4 : Int32) (h : am_H) : am_Con m_L_early d [.inr (.inr x0), .inl x1, .inl x2, .inl x3, .inl x4] h (f_L_early x0 x1 x2 x3 x4 h) := am_con (by decide +kernel) (Nat.le_of_ble_eq_true rfl) (by
  unfold f_L_early
  refine sim_iload_n dL_early_0 rfl ?_
  refine sim_if_ne 12 dL_early_1 (by decide) (fun c => ?_) (fun c => ?_)
  · refine sim_iload_n dL_early_12 rfl ?_
    refine sim_iconst (1) dL_early_13 (by decide +kernel) ?_
    refine sim_ic_ne 40 dL_early_14 (by decide) (fun c => ?_) (fun c => ?_)
    · refine sim_iload_n dL_early_40 rfl ?_
      refine sim_iconst (2) dL_early_41 (by decide +kernel) ?_
      refine sim_ic_ne 57 dL_early_42 (by decide) (fun c => ?_) (fun c => ?_)
      · refine sim_iload_n dL_early_57 rfl ?_
        refine sim_iconst (3) dL_early_58 (by decide +kernel) ?_
        refine sim_ic_ne 71 dL_early_59 (by decide) (fun c => ?_) (fun c => ?_)
        · refine sim_iload_n dL_early_71 rfl ?_
          refine sim_iconst (4) dL_early_72 (by decide +kernel) ?_
          refine sim_ic_ne 85 dL_early_73 (by decide) (fun c => ?_) (fun c => ?_)
          · refine sim_iload_n dL_early_85 rfl ?_
            refine sim_iconst (5) dL_early_86 (by decide +kernel) ?_
            refine sim_ic_ne 99 dL_early_87 (by decide) (fun c => ?_) (fun c => ?_)
            · refine sim_iload_n dL_early_99 rfl ?_
              refine sim_bipush (6) dL_early_100 (by decide +kernel) ?_
              refine sim_ic_ne 113 dL_early_102 (by decide) (fun c => ?_) (fun c => ?_)
              · refine sim_iload_n dL_early_113 rfl ?_
                refine sim_bipush (7) dL_early_114 (by decide +kernel) ?_
                refine sim_ic_ne 127 dL_early_116 (by decide) (fun c => ?_) (fun c => ?_)
                · refine sim_iload_n dL_early_127 rfl ?_
                  refine sim_bipush (8) dL_early_128 (by decide +kernel) ?_
                  refine sim_ic_ne 154 dL_early_130 (by decide) (fun c => ?_) (fun c => ?_)
                  · refine sim_iload_n dL_early_154 rfl ?_
                    refine sim_bipush (9) dL_early_155 (by decide +kernel) ?_
                    refine sim_ic_ne 169 dL_early_157 (by decide) (fun c => ?_) (fun c => ?_)
                    · refine sim_iload_n dL_early_169 rfl ?_
                      refine sim_bipush (10) dL_early_170 (by decide +kernel) ?_
                      refine sim_ic_ne 184 dL_early_172 (by decide) (fun c => ?_) (fun c => ?_)
                      · refine sim_iload_n dL_early_184 rfl ?_
                        refine sim_bipush (11) dL_early_185 (by decide +kernel) ?_
                        refine sim_ic_ne 202 dL_early_187 (by decide) (fun c => ?_) (fun c => ?_)
                        · refine sim_iload_n dL_early_202 rfl ?_
                          refine sim_bipush (12) dL_early_203 (by decide +kernel) ?_
                          refine sim_ic_ne 217 dL_early_205 (by decide) (fun c => ?_) (fun c => ?_)
                          · refine sim_iload_n dL_early_217 rfl ?_
                            refine sim_bipush (13) dL_early_218 (by decide +kernel) ?_
                            refine sim_ic_ne 230 dL_early_220 (by decide) (fun c => ?_) (fun c => ?_)
                            · refine sim_iload_n dL_early_230 rfl ?_
                              refine sim_bipush (14) dL_early_231 (by decide +kernel) ?_
                              refine sim_ic_ne 244 dL_early_233 (by decide) (fun c => ?_) (fun c => ?_)
                              · refine sim_iload_n dL_early_244 rfl ?_
                                refine sim_bipush (15) dL_early_245 (by decide +kernel) ?_
                                refine sim_ic_ne 259 dL_early_247 (by decide) (fun c => ?_) (fun c => ?_)
                                · refine sim_aload_n dL_early_259 rfl ?_
                                  refine sim_iload_n dL_early_260 rfl ?_
                                  refine sim_iload_n dL_early_261 rfl ?_
                                  refine sim_iload dL_early_262 rfl ?_
                                  refine sim_iconst (1) dL_early_264 (by decide +kernel) ?_
                                  refine sim_ic_ne 272 dL_early_265 (by decide) (fun c => ?_) (fun c => ?_)
                                  · refine sim_iconst (0) dL_early_272 (by decide +kernel) ?_
                                    exact sim_lv (am_leN (am_leN (am_leN (am_leN (am_leN am_leT))))) (t_L_early_273 d (by omega) _ _ _ _ _)
                                  · refine sim_iconst (1) dL_early_268 (by decide +kernel) ?_
                                    refine sim_goto 273 dL_early_269 (by decide) ?_
                                    exact sim_lv (am_leN (am_leN (am_leN (am_leN (am_leN am_leT))))) (t_L_early_273 d (by omega) _ _ _ _ _)
                                · refine sim_aload_n dL_early_250 rfl ?_
                                  refine sim_iload_n dL_early_251 rfl ?_
                                  refine sim_iload_n dL_early_252 rfl ?_
                                  refine sim_ao2 (fun a3 e => ?_)
                                  refine sim_virt (d - 1) e dL_early_253 (k_X10_merge (d - 1) (by omega) _ _ _ _) q_X10_merge rfl rfl wm_RL_112 rfl rfl (by omega) (Nat.le_of_ble_eq_true rfl) am_nI (am_rI fun h1 v2 => ?_) am_eI
                                  refine sim_goto 279 dL_early_256 (by decide) ?_
                                  exact sim_lv (am_leN (am_leN (am_leN (am_leN (am_leN am_leT))))) (t_L_early_279 d (by omega) _ _)
                              · refine sim_aload_n dL_early_236 rfl ?_
                                refine sim_iload_n dL_early_237 rfl ?_
                                refine sim_ao1 (fun a6 e => ?_)
                                refine sim_virt (d - 1) e dL_early_238 (k_X10_make (d - 1) (by omega) _ _ _) q_X10_make rfl rfl wm_RL_109 rfl rfl (by omega) (Nat.le_of_ble_eq_true rfl) am_nI (am_rI fun h4 v5 => ?_) am_eI
                                refine sim_goto 279 dL_early_241 (by decide) ?_
                                exact sim_lv (am_leN (am_leN (am_leN (am_leN (am_leN am_leT))))) (t_L_early_279 d (by omega) _ _)
                            · refine sim_aload_n dL_early_223 rfl ?_
                              refine sim_ao0 (fun a9 e => ?_)
                              refine sim_virt (d - 1) e dL_early_224 (k_X10_tag (d - 1) (by omega) _  _) q_X10_tag rfl rfl wm_RL_105 rfl rfl (by omega) (Nat.le_of_ble_eq_true rfl) am_nI (am_rI fun h7 v8 => ?_) am_eI
                              refine sim_goto 279 dL_early_227 (by decide) ?_
                              exact sim_lv (am_leN (am_leN (am_leN (am_leN (am_leN am_leT))))) (t_L_early_279 d (by omega) _ _)
                          · refine sim_aload_n dL_early_208 rfl ?_
                            refine sim_iload_n dL_early_209 rfl ?_
                            refine sim_iload_n dL_early_210 rfl ?_
                            refine sim_ao2 (fun a12 e => ?_)
                            refine sim_virt (d - 1) e dL_early_211 (k_X10_owners (d - 1) (by omega) _ _ _ _) q_X10_owners rfl rfl wm_RL_102 rfl rfl (by omega) (Nat.le_of_ble_eq_true rfl) am_nI (am_rI fun h10 v11 => ?_) am_eI
                            refine sim_goto 279 dL_early_214 (by decide) ?_
                            exact sim_lv (am_leN (am_leN (am_leN (am_leN (am_leN am_leT))))) (t_L_early_279 d (by omega) _ _)
                        · refine sim_aload_n dL_early_190 rfl ?_
                          refine sim_iload_n dL_early_191 rfl ?_
                          refine sim_iload_n dL_early_192 rfl ?_
                          refine sim_ao2 (fun a15 e => ?_)
                          refine sim_virt (d - 1) e dL_early_193 (k_X10_sees (d - 1) (by omega) _ _ _ _) q_X10_sees rfl rfl wm_RL_99 rfl rfl (by omega) (Nat.le_of_ble_eq_true rfl) am_nI (am_rI fun h13 v14 => ?_) am_eI
                          refine sim_static (d - 1) dL_early_196 (k_L_bit (d - 1) (by omega) _ _) q_L_bit wm_RL_24 rfl rfl (by omega) (Nat.le_of_ble_eq_true rfl) am_nI (am_rI fun h16 v17 => ?_) am_eI
                          refine sim_goto 279 dL_early_199 (by decide) ?_
                          exact sim_lv (am_leN (am_leN (am_leN (am_leN (am_leN am_leT))))) (t_L_early_279 d (by omega) _ _)
                      · refine sim_aload_n dL_early_175 rfl ?_
                        refine sim_iload_n dL_early_176 rfl ?_
                        refine sim_iload_n dL_early_177 rfl ?_
                        refine sim_static (d - 1) dL_early_178 (k_L_collects (d - 1) (by omega) _ _ _ _) q_L_collects wm_RL_95 rfl rfl (by omega) (Nat.le_of_ble_eq_true rfl) am_nI (am_rI fun h18 v19 => ?_) am_eI
                        refine sim_goto 279 dL_early_181 (by decide) ?_
                        exact sim_lv (am_leN (am_leN (am_leN (am_leN (am_leN am_leT))))) (t_L_early_279 d (by omega) _ _)
                    · refine sim_aload_n dL_early_160 rfl ?_
                      refine sim_iload_n dL_early_161 rfl ?_
                      refine sim_iload_n dL_early_162 rfl ?_
                      refine sim_ao2 (fun a22 e => ?_)
                      refine sim_virt (d - 1) e dL_early_163 (k_X10_collection (d - 1) (by omega) _ _ _ _) q_X10_collection rfl rfl wm_RL_92 rfl rfl (by omega) (Nat.le_of_ble_eq_true rfl) am_nI (am_rI fun h20 v21 => ?_) am_eI
                      refine sim_goto 279 dL_early_166 (by decide) ?_
                      exact sim_lv (am_leN (am_leN (am_leN (am_leN (am_leN am_leT))))) (t_L_early_279 d (by omega) _ _)
                  · refine sim_aload_n dL_early_133 rfl ?_
                    refine sim_iload_n dL_early_134 rfl ?_
                    refine sim_iload_n dL_early_135 rfl ?_
                    refine sim_iconst (1) dL_early_136 (by decide +kernel) ?_
                    refine sim_ic_ne 144 dL_early_137 (by decide) (fun c => ?_) (fun c => ?_)
                    · refine sim_iconst (0) dL_early_144 (by decide +kernel) ?_
                      exact sim_lv (am_leN (am_leN (am_leN (am_leN (am_leN am_leT))))) (t_L_early_145 d (by omega) _ _ _ _)
                    · refine sim_iconst (1) dL_early_140 (by decide +kernel) ?_
                      refine sim_goto 145 dL_early_141 (by decide) ?_
                      exact sim_lv (am_leN (am_leN (am_leN (am_leN (am_leN am_leT))))) (t_L_early_145 d (by omega) _ _ _ _)
                · refine sim_aload_n dL_early_119 rfl ?_
                  refine sim_iload_n dL_early_120 rfl ?_
                  refine sim_ao1 (fun a25 e => ?_)
                  refine sim_virt (d - 1) e dL_early_121 (k_X10_post (d - 1) (by omega) _ _ _) q_X10_post rfl rfl wm_RL_86 rfl rfl (by omega) (Nat.le_of_ble_eq_true rfl) am_nI (am_rI fun h23 v24 => ?_) am_eI
                  refine sim_goto 279 dL_early_124 (by decide) ?_
                  exact sim_lv (am_leN (am_leN (am_leN (am_leN (am_leN am_leT))))) (t_L_early_279 d (by omega) _ _)
              · refine sim_aload_n dL_early_105 rfl ?_
                refine sim_iload_n dL_early_106 rfl ?_
                refine sim_ao1 (fun a28 e => ?_)
                refine sim_virt (d - 1) e dL_early_107 (k_X10_chapter (d - 1) (by omega) _ _ _) q_X10_chapter rfl rfl wm_RL_83 rfl rfl (by omega) (Nat.le_of_ble_eq_true rfl) am_nI (am_rI fun h26 v27 => ?_) am_eI
                refine sim_goto 279 dL_early_110 (by decide) ?_
                exact sim_lv (am_leN (am_leN (am_leN (am_leN (am_leN am_leT))))) (t_L_early_279 d (by omega) _ _)
            · refine sim_aload_n dL_early_90 rfl ?_
              refine sim_iload_n dL_early_91 rfl ?_
              refine sim_iload_n dL_early_92 rfl ?_
              refine sim_ao2 (fun a31 e => ?_)
              refine sim_virt (d - 1) e dL_early_93 (k_X10_leave (d - 1) (by omega) _ _ _ _) q_X10_leave rfl rfl wm_RL_80 rfl rfl (by omega) (Nat.le_of_ble_eq_true rfl) am_nI (am_rI fun h29 v30 => ?_) am_eI
              refine sim_goto 279 dL_early_96 (by decide) ?_
              exact sim_lv (am_leN (am_leN (am_leN (am_leN (am_leN am_leT))))) (t_L_early_279 d (by omega) _ _)
          · refine sim_aload_n dL_early_76 rfl ?_
            refine sim_iload_n dL_early_77 rfl ?_
            refine sim_iload_n dL_early_78 rfl ?_
            refine sim_ao2 (fun a34 e => ?_)
            refine sim_virt (d - 1) e dL_early_79 (k_X10_join (d - 1) (by omega) _ _ _ _) q_X10_join rfl rfl wm_RL_77 rfl rfl (by omega) (Nat.le_of_ble_eq_true rfl) am_nI (am_rI fun h32 v33 => ?_) am_eI
            refine sim_goto 279 dL_early_82 (by decide) ?_
            exact sim_lv (am_leN (am_leN (am_leN (am_leN (am_leN am_leT))))) (t_L_early_279 d (by omega) _ _)
        · refine sim_aload_n dL_early_62 rfl ?_
          refine sim_iload_n dL_early_63 rfl ?_
          refine sim_iload_n dL_early_64 rfl ?_
          refine sim_ao2 (fun a37 e => ?_)
          refine sim_virt (d - 1) e dL_early_65 (k_X10_work (d - 1) (by omega) _ _ _ _) q_X10_work rfl rfl wm_RL_74 rfl rfl (by omega) (Nat.le_of_ble_eq_true rfl) am_nI (am_rI fun h35 v36 => ?_) am_eI
          refine sim_goto 279 dL_early_68 (by decide) ?_
          exact sim_lv (am_leN (am_leN (am_leN (am_leN (am_leN am_leT))))) (t_L_early_279 d (by omega) _ _)
      · refine sim_aload_n dL_early_45 rfl ?_
        refine sim_iload_n dL_early_46 rfl ?_
        refine sim_iload_n dL_early_47 rfl ?_
        refine sim_ao2 (fun a40 e => ?_)
        refine sim_virt (d - 1) e dL_early_48 (k_X10_same (d - 1) (by omega) _ _ _ _) q_X10_same rfl rfl wm_RL_71 rfl rfl (by omega) (Nat.le_of_ble_eq_true rfl) am_nI (am_rI fun h38 v39 => ?_) am_eI
        refine sim_static (d - 1) dL_early_51 (k_L_bit (d - 1) (by omega) _ _) q_L_bit wm_RL_24 rfl rfl (by omega) (Nat.le_of_ble_eq_true rfl) am_nI (am_rI fun h41 v42 => ?_) am_eI
        refine sim_goto 279 dL_early_54 (by decide) ?_
        exact sim_lv (am_leN (am_leN (am_leN (am_leN (am_leN am_leT))))) (t_L_early_279 d (by omega) _ _)
    · refine sim_aload_n dL_early_17 rfl ?_
      refine sim_iload_n dL_early_18 rfl ?_
      refine sim_iload_n dL_early_19 rfl ?_
      refine sim_iload dL_early_20 rfl ?_
      refine sim_iconst (1) dL_early_22 (by decide +kernel) ?_
      refine sim_ic_ne 30 dL_early_23 (by decide) (fun c => ?_) (fun c => ?_)
      · refine sim_iconst (0) dL_early_30 (by decide +kernel) ?_
        exact sim_lv (am_leN (am_leN (am_leN (am_leN (am_leN am_leT))))) (t_L_early_31 d (by omega) _ _ _ _ _)
      · refine sim_iconst (1) dL_early_26 (by decide +kernel) ?_
        refine sim_goto 31 dL_early_27 (by decide) ?_
        exact sim_lv (am_leN (am_leN (am_leN (am_leN (am_leN am_leT))))) (t_L_early_31 d (by omega) _ _ _ _ _)
  · refine sim_aload_n dL_early_4 rfl ?_
    refine sim_iload_n dL_early_5 rfl ?_
    refine sim_ao1 (fun a45 e => ?_)
    refine sim_virt (d - 1) e dL_early_6 (k_X10_pass (d - 1) (by omega) _ _ _) q_X10_pass rfl rfl wm_RL_64 rfl rfl (by omega) (Nat.le_of_ble_eq_true rfl) am_nI (am_rI fun h43 v44 => ?_) am_eI
    refine sim_goto 279 dL_early_9 (by decide) ?_
    exact sim_lv (am_leN (am_leN (am_leN (am_leN (am_leN am_leT))))) (t_L_early_279 d (by omega) _ _))
theorem q_L_early : am_Cal m_L_early 5 0 := ⟨am_mem 423 (w := Cond.code yL_early cL_early 5 (some .int)) (by decide +kernel) rfl, am_mem 29 (w := Cond.initialized RL) (by decide +kernel) rfl, fun _ => am_mem 422 (w := Cond.static yL_early) (by decide +kernel) rfl, fun z => absurd rfl z, fun z => absurd z (by decide), fun z => absurd z (by decide), by decide +kernel, by decide +kernel, Nat.le_of_ble_eq_true rfl⟩
abbrev m_X7_belongUnder : am_M := (yX7_belongUnder, cX7_belongUnder, 4, some .int, [])
def f_X7_belongUnder_53 (rc4 : Nat × Nat → Int32 → Int32 → Int32 → am_H → am_R) (a0 : Nat × Nat) (x1 : Int32) (x2 : Int32) (x3 : Int32) (h : am_H) : am_R := rc4 a0 x1 x2 (x3 + 1) h
theorem t_X7_belongUnder_53 (d : Nat) (hd : 1 ≤ d) (rc4 : Nat × Nat → Int32 → Int32 → Int32 → am_H → am_R) (hrc4 : ∀ a0 x1 x2 x3 h, Sim m_X7_belongUnder d 4 [some (.inr (.inr (some a0))), some (.inl x1), some (.inl x2), some (.inl x3)] [] h (rc4 a0 x1 x2 x3 h)) (a0 : Nat × Nat) (x1 : Int32) (x2 : Int32) (x3 : Int32) (h : am_H) : Sim m_X7_belongUnder d 53 [some (.inr (.inr (some a0))), some (.inl x1), some (.inl x2), some (.inl x3)] [] h (f_X7_belongUnder_53 rc4 a0 x1 x2 x3 h) := by
  unfold f_X7_belongUnder_53
  refine sim_iinc (1) dX7_belongUnder_53 rfl (by decide +kernel) (Nat.le_of_ble_eq_true rfl) ?_
  refine sim_goto 4 dX7_belongUnder_56 (by decide) ?_
  exact sim_lv (am_leS (am_leS (am_leS (am_leS am_leT)))) (hrc4 _ _ _ _ _)
def f_X7_belongUnder_4  : Nat → Nat × Nat → Int32 → Int32 → Int32 → am_H → am_R
  | 0, _, _, _, _, _ => none
  | n + 1, a0, x1, x2, x3, h => m_gI (some a0) 7 0 h fun v1 => if v1 ≤ x3 then (m_ri h x2) else (m_bJ (f_X10_has x1 x3 h) fun h2 v3 => if v3 = 0 then (f_X7_belongUnder_53 (f_X7_belongUnder_4  n) a0 x1 x2 x3 h2) else (m_gR (some a0) 7 1 h2 fun o4 => m_aI o4 0 x3 h2 fun v5 => if v5 = (-1 : Int32) then (f_X7_belongUnder_53 (f_X7_belongUnder_4  n) a0 x1 x2 x3 h2) else (m_gR (some a0) 7 1 h2 fun o6 => m_aI o6 0 x3 h2 fun v7 => m_gR (some a0) 7 3 h2 fun o8 => m_gR (some a0) 7 1 h2 fun o9 => m_aI o9 0 x3 h2 fun v10 => m_aI o8 0 v10 h2 fun v11 => f_X7_belongUnder_53 (f_X7_belongUnder_4  n) a0 x1 (x2 ||| (((1 : Int32) <<< (v7 &&& 31)) ||| v11)) x3 h2)))
theorem t_X7_belongUnder_4 (d : Nat) (hd : 1 ≤ d)  : ∀ (n : Nat) (a0 : Nat × Nat) (x1 : Int32) (x2 : Int32) (x3 : Int32) (h : am_H), Sim m_X7_belongUnder d 4 [some (.inr (.inr (some a0))), some (.inl x1), some (.inl x2), some (.inl x3)] [] h (f_X7_belongUnder_4  n a0 x1 x2 x3 h) := by
  intro n
  induction n with
  | zero => intros; exact sim_none
  | succ n hrc4 =>
    intro a0 x1 x2 x3 h
    rw [f_X7_belongUnder_4]
    refine sim_iload_n dX7_belongUnder_4 rfl ?_
    refine sim_aload_n dX7_belongUnder_5 rfl ?_
    refine sim_gI 7 0 dX7_belongUnder_6 rfl wf_RX7_21 (Nat.le_of_ble_eq_true rfl) rfl (fun v1 => ?_)
    refine sim_ic_ge 59 dX7_belongUnder_9 (by decide) (fun c => ?_) (fun c => ?_)
    · refine sim_iload_n dX7_belongUnder_59 rfl ?_
      exact sim_iret dX7_belongUnder_60 rfl
    · refine sim_iload_n dX7_belongUnder_12 rfl ?_
      refine sim_iload_n dX7_belongUnder_13 rfl ?_
      refine sim_staticN (d - 1) dX7_belongUnder_14 (k_X10_has (d - 1) (by omega) _ _ _) q_X10_has wn_RX7_25 rfl rfl (by omega) (Nat.le_of_ble_eq_true rfl) am_nJ am_xJ (am_rJ fun h2 v3 => ?_)
      refine sim_if_eq 53 dX7_belongUnder_17 (by decide) (fun c => ?_) (fun c => ?_)
      · exact sim_lv (am_leS (am_leS (am_leS (am_leS am_leT)))) (t_X7_belongUnder_53 d (by omega) _ hrc4 _ _ _ _ _)
      · refine sim_aload_n dX7_belongUnder_20 rfl ?_
        refine sim_gR 7 1 dX7_belongUnder_21 rfl wf_RX7_9 (Nat.le_of_ble_eq_true rfl) rfl (fun o4 => ?_)
        refine sim_iload_n dX7_belongUnder_24 rfl ?_
        refine sim_aI dX7_belongUnder_25 (fun v5 => ?_)
        refine sim_iconst (-1) dX7_belongUnder_26 (by decide +kernel) ?_
        refine sim_ic_eq 53 dX7_belongUnder_27 (by decide) (fun c => ?_) (fun c => ?_)
        · exact sim_lv (am_leS (am_leS (am_leS (am_leS am_leT)))) (t_X7_belongUnder_53 d (by omega) _ hrc4 _ _ _ _ _)
        · refine sim_iload_n dX7_belongUnder_30 rfl ?_
          refine sim_iconst (1) dX7_belongUnder_31 (by decide +kernel) ?_
          refine sim_aload_n dX7_belongUnder_32 rfl ?_
          refine sim_gR 7 1 dX7_belongUnder_33 rfl wf_RX7_9 (Nat.le_of_ble_eq_true rfl) rfl (fun o6 => ?_)
          refine sim_iload_n dX7_belongUnder_36 rfl ?_
          refine sim_aI dX7_belongUnder_37 (fun v7 => ?_)
          refine sim_ishl dX7_belongUnder_38 ?_
          refine sim_aload_n dX7_belongUnder_39 rfl ?_
          refine sim_gR 7 3 dX7_belongUnder_40 rfl wf_RX7_18 (Nat.le_of_ble_eq_true rfl) rfl (fun o8 => ?_)
          refine sim_aload_n dX7_belongUnder_43 rfl ?_
          refine sim_gR 7 1 dX7_belongUnder_44 rfl wf_RX7_9 (Nat.le_of_ble_eq_true rfl) rfl (fun o9 => ?_)
          refine sim_iload_n dX7_belongUnder_47 rfl ?_
          refine sim_aI dX7_belongUnder_48 (fun v10 => ?_)
          refine sim_aI dX7_belongUnder_49 (fun v11 => ?_)
          refine sim_ior dX7_belongUnder_50 ?_
          refine sim_ior dX7_belongUnder_51 ?_
          refine sim_istore_n dX7_belongUnder_52 (Nat.le_of_ble_eq_true rfl) ?_
          exact sim_lv (am_leS (am_leS (am_leS (am_leS am_leT)))) (t_X7_belongUnder_53 d (by omega) _ hrc4 _ _ _ _ _)
def f_X7_belongUnder (a0 : Nat × Nat) (x1 : Int32) (h : am_H) : am_R := f_X7_belongUnder_4 5000 a0 x1 (0 : Int32) (0 : Int32) h
theorem k_X7_belongUnder (d : Nat) (hd : 1 ≤ d) (a0 : Nat × Nat) (x1 : Int32) (h : am_H) : am_Con m_X7_belongUnder d [.inr (.inr (some a0)), .inl x1] h (f_X7_belongUnder a0 x1 h) := am_con (by decide +kernel) (Nat.le_of_ble_eq_true rfl) (by
  unfold f_X7_belongUnder
  refine sim_iconst (0) dX7_belongUnder_0 (by decide +kernel) ?_
  refine sim_istore_n dX7_belongUnder_1 (Nat.le_of_ble_eq_true rfl) ?_
  refine sim_iconst (0) dX7_belongUnder_2 (by decide +kernel) ?_
  refine sim_istore_n dX7_belongUnder_3 (Nat.le_of_ble_eq_true rfl) ?_
  exact sim_lv (am_leS (am_leS (am_leS (am_leS am_leT)))) (t_X7_belongUnder_4 d (by omega) _ _ _ _ _ _))
theorem q_X7_belongUnder : am_Cal m_X7_belongUnder 1 2 := ⟨am_mem 636 (w := Cond.code yX7_belongUnder cX7_belongUnder 4 (some .int)) (by decide +kernel) rfl, am_mem 31 (w := Cond.initialized RX7) (by decide +kernel) rfl, fun z => absurd z (by decide), fun _ => am_mem 634 (w := Cond.instanceMethod yX7_belongUnder) (by decide +kernel) rfl, fun z => absurd z (by decide), fun _ => am_mem 635 (w := Cond.selects RX7 yX7_belongUnder yX7_belongUnder) (by decide +kernel) rfl, by decide +kernel, by decide +kernel, Nat.le_of_ble_eq_true rfl⟩
abbrev m_X7_meaningsOf : am_M := (yX7_meaningsOf, cX7_meaningsOf, 4, some .int, [])
def f_X7_meaningsOf_41 (rc4 : Nat × Nat → Int32 → Int32 → Int32 → am_H → am_R) (a0 : Nat × Nat) (x1 : Int32) (x2 : Int32) (x3 : Int32) (h : am_H) : am_R := rc4 a0 x1 x2 (x3 + 1) h
theorem t_X7_meaningsOf_41 (d : Nat) (hd : 1 ≤ d) (rc4 : Nat × Nat → Int32 → Int32 → Int32 → am_H → am_R) (hrc4 : ∀ a0 x1 x2 x3 h, Sim m_X7_meaningsOf d 4 [some (.inr (.inr (some a0))), some (.inl x1), some (.inl x2), some (.inl x3)] [] h (rc4 a0 x1 x2 x3 h)) (a0 : Nat × Nat) (x1 : Int32) (x2 : Int32) (x3 : Int32) (h : am_H) : Sim m_X7_meaningsOf d 41 [some (.inr (.inr (some a0))), some (.inl x1), some (.inl x2), some (.inl x3)] [] h (f_X7_meaningsOf_41 rc4 a0 x1 x2 x3 h) := by
  unfold f_X7_meaningsOf_41
  refine sim_iinc (1) dX7_meaningsOf_41 rfl (by decide +kernel) (Nat.le_of_ble_eq_true rfl) ?_
  refine sim_goto 4 dX7_meaningsOf_44 (by decide) ?_
  exact sim_lv (am_leS (am_leS (am_leS (am_leS am_leT)))) (hrc4 _ _ _ _ _)
def f_X7_meaningsOf_4  : Nat → Nat × Nat → Int32 → Int32 → Int32 → am_H → am_R
  | 0, _, _, _, _, _ => none
  | n + 1, a0, x1, x2, x3, h => m_gI (some a0) 7 0 h fun v1 => if v1 ≤ x3 then (m_ri h x2) else (m_bJ (f_X10_has x1 x3 h) fun h2 v3 => if v3 = 0 then (f_X7_meaningsOf_41 (f_X7_meaningsOf_4  n) a0 x1 x2 x3 h2) else (m_gR (some a0) 7 1 h2 fun o4 => m_aI o4 0 x3 h2 fun v5 => if v5 = (-1 : Int32) then (f_X7_meaningsOf_41 (f_X7_meaningsOf_4  n) a0 x1 x2 x3 h2) else (m_gR (some a0) 7 1 h2 fun o6 => m_aI o6 0 x3 h2 fun v7 => f_X7_meaningsOf_41 (f_X7_meaningsOf_4  n) a0 x1 (x2 ||| ((1 : Int32) <<< (v7 &&& 31))) x3 h2)))
theorem t_X7_meaningsOf_4 (d : Nat) (hd : 1 ≤ d)  : ∀ (n : Nat) (a0 : Nat × Nat) (x1 : Int32) (x2 : Int32) (x3 : Int32) (h : am_H), Sim m_X7_meaningsOf d 4 [some (.inr (.inr (some a0))), some (.inl x1), some (.inl x2), some (.inl x3)] [] h (f_X7_meaningsOf_4  n a0 x1 x2 x3 h) := by
  intro n
  induction n with
  | zero => intros; exact sim_none
  | succ n hrc4 =>
    intro a0 x1 x2 x3 h
    rw [f_X7_meaningsOf_4]
    refine sim_iload_n dX7_meaningsOf_4 rfl ?_
    refine sim_aload_n dX7_meaningsOf_5 rfl ?_
    refine sim_gI 7 0 dX7_meaningsOf_6 rfl wf_RX7_21 (Nat.le_of_ble_eq_true rfl) rfl (fun v1 => ?_)
    refine sim_ic_ge 47 dX7_meaningsOf_9 (by decide) (fun c => ?_) (fun c => ?_)
    · refine sim_iload_n dX7_meaningsOf_47 rfl ?_
      exact sim_iret dX7_meaningsOf_48 rfl
    · refine sim_iload_n dX7_meaningsOf_12 rfl ?_
      refine sim_iload_n dX7_meaningsOf_13 rfl ?_
      refine sim_staticN (d - 1) dX7_meaningsOf_14 (k_X10_has (d - 1) (by omega) _ _ _) q_X10_has wn_RX7_25 rfl rfl (by omega) (Nat.le_of_ble_eq_true rfl) am_nJ am_xJ (am_rJ fun h2 v3 => ?_)
      refine sim_if_eq 41 dX7_meaningsOf_17 (by decide) (fun c => ?_) (fun c => ?_)
      · exact sim_lv (am_leS (am_leS (am_leS (am_leS am_leT)))) (t_X7_meaningsOf_41 d (by omega) _ hrc4 _ _ _ _ _)
      · refine sim_aload_n dX7_meaningsOf_20 rfl ?_
        refine sim_gR 7 1 dX7_meaningsOf_21 rfl wf_RX7_9 (Nat.le_of_ble_eq_true rfl) rfl (fun o4 => ?_)
        refine sim_iload_n dX7_meaningsOf_24 rfl ?_
        refine sim_aI dX7_meaningsOf_25 (fun v5 => ?_)
        refine sim_iconst (-1) dX7_meaningsOf_26 (by decide +kernel) ?_
        refine sim_ic_eq 41 dX7_meaningsOf_27 (by decide) (fun c => ?_) (fun c => ?_)
        · exact sim_lv (am_leS (am_leS (am_leS (am_leS am_leT)))) (t_X7_meaningsOf_41 d (by omega) _ hrc4 _ _ _ _ _)
        · refine sim_iload_n dX7_meaningsOf_30 rfl ?_
          refine sim_iconst (1) dX7_meaningsOf_31 (by decide +kernel) ?_
          refine sim_aload_n dX7_meaningsOf_32 rfl ?_
          refine sim_gR 7 1 dX7_meaningsOf_33 rfl wf_RX7_9 (Nat.le_of_ble_eq_true rfl) rfl (fun o6 => ?_)
          refine sim_iload_n dX7_meaningsOf_36 rfl ?_
          refine sim_aI dX7_meaningsOf_37 (fun v7 => ?_)
          refine sim_ishl dX7_meaningsOf_38 ?_
          refine sim_ior dX7_meaningsOf_39 ?_
          refine sim_istore_n dX7_meaningsOf_40 (Nat.le_of_ble_eq_true rfl) ?_
          exact sim_lv (am_leS (am_leS (am_leS (am_leS am_leT)))) (t_X7_meaningsOf_41 d (by omega) _ hrc4 _ _ _ _ _)
def f_X7_meaningsOf (a0 : Nat × Nat) (x1 : Int32) (h : am_H) : am_R := f_X7_meaningsOf_4 5000 a0 x1 (0 : Int32) (0 : Int32) h
theorem k_X7_meaningsOf (d : Nat) (hd : 1 ≤ d) (a0 : Nat × Nat) (x1 : Int32) (h : am_H) : am_Con m_X7_meaningsOf d [.inr (.inr (some a0)), .inl x1] h (f_X7_meaningsOf a0 x1 h) := am_con (by decide +kernel) (Nat.le_of_ble_eq_true rfl) (by
  unfold f_X7_meaningsOf
  refine sim_iconst (0) dX7_meaningsOf_0 (by decide +kernel) ?_
  refine sim_istore_n dX7_meaningsOf_1 (Nat.le_of_ble_eq_true rfl) ?_
  refine sim_iconst (0) dX7_meaningsOf_2 (by decide +kernel) ?_
  refine sim_istore_n dX7_meaningsOf_3 (Nat.le_of_ble_eq_true rfl) ?_
  exact sim_lv (am_leS (am_leS (am_leS (am_leS am_leT)))) (t_X7_meaningsOf_4 d (by omega) _ _ _ _ _ _))
theorem q_X7_meaningsOf : am_Cal m_X7_meaningsOf 1 2 := ⟨am_mem 846 (w := Cond.code yX7_meaningsOf cX7_meaningsOf 4 (some .int)) (by decide +kernel) rfl, am_mem 31 (w := Cond.initialized RX7) (by decide +kernel) rfl, fun z => absurd z (by decide), fun _ => am_mem 844 (w := Cond.instanceMethod yX7_meaningsOf) (by decide +kernel) rfl, fun z => absurd z (by decide), fun _ => am_mem 845 (w := Cond.selects RX7 yX7_meaningsOf yX7_meaningsOf) (by decide +kernel) rfl, by decide +kernel, by decide +kernel, Nat.le_of_ble_eq_true rfl⟩
abbrev m_X6_suits : am_M := (yX6_suits, cX6_suits, 3, some .boolean, [])
def f_X6_suits_55  (s0 : Int32) (h : am_H) : am_R := m_rz h s0
theorem t_X6_suits_55 (d : Nat) (hd : 2 ≤ d)  (s0 : Int32) (h : am_H) : Sim m_X6_suits d 55 [none, none, none] [.inl s0] h (f_X6_suits_55  s0 h) := by
  unfold f_X6_suits_55
  exact sim_zret dX6_suits_55 rfl
def f_X6_suits_28   (h : am_H) : am_R := m_rz h (0 : Int32)
theorem t_X6_suits_28 (d : Nat) (hd : 2 ≤ d)   (h : am_H) : Sim m_X6_suits d 28 [none, none, none] [] h (f_X6_suits_28   h) := by
  unfold f_X6_suits_28
  refine sim_iconst (0) dX6_suits_28 (by decide +kernel) ?_
  exact sim_zret dX6_suits_29 rfl
def f_X6_suits (a0 : Nat × Nat) (x1 : Option (Nat × Nat)) (x2 : Option (Nat × Nat)) (h : am_H) : am_R := m_gI (some a0) 6 3 h fun v1 => m_gI x1 6 0 h fun v2 => m_bJ (f_X10_has v1 v2 h) fun h3 v4 => if v4 = 0 then (m_gI x1 6 3 h3 fun v5 => m_gI (some a0) 6 0 h3 fun v6 => m_bJ (f_X10_has v5 v6 h3) fun h7 v8 => if v8 = 0 then (m_gI x1 6 1 h7 fun v9 => m_ao x2 7 fun a12 => m_bI (f_X7_meaningsOf a12 v9 h7) fun h10 v11 => m_gI (some a0) 6 2 h10 fun v13 => m_ao x2 7 fun a16 => m_bI (f_X7_belongUnder a16 v13 h10) fun h14 v15 => if (v11 &&& v15) = 0 then (f_X6_suits_55 (0 : Int32) h14) else (f_X6_suits_55 (1 : Int32) h14)) else (f_X6_suits_28 h7)) else (f_X6_suits_28 h3)
theorem k_X6_suits (d : Nat) (hd : 2 ≤ d) (a0 : Nat × Nat) (x1 : Option (Nat × Nat)) (x2 : Option (Nat × Nat)) (h : am_H) : am_Con m_X6_suits d [.inr (.inr (some a0)), .inr (.inr x1), .inr (.inr x2)] h (f_X6_suits a0 x1 x2 h) := am_con (by decide +kernel) (Nat.le_of_ble_eq_true rfl) (by
  unfold f_X6_suits
  refine sim_aload_n dX6_suits_0 rfl ?_
  refine sim_gI 6 3 dX6_suits_1 rfl wf_RX6_19 (Nat.le_of_ble_eq_true rfl) rfl (fun v1 => ?_)
  refine sim_aload_n dX6_suits_4 rfl ?_
  refine sim_gI 6 0 dX6_suits_5 rfl wf_RX6_7 (Nat.le_of_ble_eq_true rfl) rfl (fun v2 => ?_)
  refine sim_staticN (d - 1) dX6_suits_8 (k_X10_has (d - 1) (by omega) _ _ _) q_X10_has wn_RX6_22 rfl rfl (by omega) (Nat.le_of_ble_eq_true rfl) am_nJ am_xJ (am_rJ fun h3 v4 => ?_)
  refine sim_if_ne 28 dX6_suits_11 (by decide) (fun c => ?_) (fun c => ?_)
  · exact sim_lv (am_leN (am_leN (am_leN am_leT))) (t_X6_suits_28 d (by omega) _)
  · refine sim_aload_n dX6_suits_14 rfl ?_
    refine sim_gI 6 3 dX6_suits_15 rfl wf_RX6_19 (Nat.le_of_ble_eq_true rfl) rfl (fun v5 => ?_)
    refine sim_aload_n dX6_suits_18 rfl ?_
    refine sim_gI 6 0 dX6_suits_19 rfl wf_RX6_7 (Nat.le_of_ble_eq_true rfl) rfl (fun v6 => ?_)
    refine sim_staticN (d - 1) dX6_suits_22 (k_X10_has (d - 1) (by omega) _ _ _) q_X10_has wn_RX6_22 rfl rfl (by omega) (Nat.le_of_ble_eq_true rfl) am_nJ am_xJ (am_rJ fun h7 v8 => ?_)
    refine sim_if_eq 30 dX6_suits_25 (by decide) (fun c => ?_) (fun c => ?_)
    · refine sim_aload_n dX6_suits_30 rfl ?_
      refine sim_aload_n dX6_suits_31 rfl ?_
      refine sim_gI 6 1 dX6_suits_32 rfl wf_RX6_13 (Nat.le_of_ble_eq_true rfl) rfl (fun v9 => ?_)
      refine sim_ao1 (fun a12 e => ?_)
      refine sim_virt (d - 1) e dX6_suits_35 (k_X7_meaningsOf (d - 1) (by omega) _ _ _) q_X7_meaningsOf rfl rfl wm_RX6_28 rfl rfl (by omega) (Nat.le_of_ble_eq_true rfl) am_nI (am_rI fun h10 v11 => ?_) am_eI
      refine sim_aload_n dX6_suits_38 rfl ?_
      refine sim_aload_n dX6_suits_39 rfl ?_
      refine sim_gI 6 2 dX6_suits_40 rfl wf_RX6_16 (Nat.le_of_ble_eq_true rfl) rfl (fun v13 => ?_)
      refine sim_ao1 (fun a16 e => ?_)
      refine sim_virt (d - 1) e dX6_suits_43 (k_X7_belongUnder (d - 1) (by omega) _ _ _) q_X7_belongUnder rfl rfl wm_RX6_34 rfl rfl (by omega) (Nat.le_of_ble_eq_true rfl) am_nI (am_rI fun h14 v15 => ?_) am_eI
      refine sim_iand dX6_suits_46 ?_
      refine sim_if_eq 54 dX6_suits_47 (by decide) (fun c => ?_) (fun c => ?_)
      · refine sim_iconst (0) dX6_suits_54 (by decide +kernel) ?_
        exact sim_lv (am_leN (am_leN (am_leN am_leT))) (t_X6_suits_55 d (by omega) _ _)
      · refine sim_iconst (1) dX6_suits_50 (by decide +kernel) ?_
        refine sim_goto 55 dX6_suits_51 (by decide) ?_
        exact sim_lv (am_leN (am_leN (am_leN am_leT))) (t_X6_suits_55 d (by omega) _ _)
    · exact sim_lv (am_leN (am_leN (am_leN am_leT))) (t_X6_suits_28 d (by omega) _))
theorem q_X6_suits : am_Cal m_X6_suits 2 2 := ⟨am_mem 841 (w := Cond.code yX6_suits cX6_suits 3 (some .boolean)) (by decide +kernel) rfl, am_mem 49 (w := Cond.initialized RX6) (by decide +kernel) rfl, fun z => absurd z (by decide), fun _ => am_mem 839 (w := Cond.instanceMethod yX6_suits) (by decide +kernel) rfl, fun z => absurd z (by decide), fun _ => am_mem 840 (w := Cond.selects RX6 yX6_suits yX6_suits) (by decide +kernel) rfl, by decide +kernel, by decide +kernel, Nat.le_of_ble_eq_true rfl⟩
