abbrev m_X3_firstDayOfAny : am_M := (yX3_firstDayOfAny, cX3_firstDayOfAny, 4, some .int, [])
def f_X3_firstDayOfAny_31 (rc6 : Nat × Nat → Int32 → Int32 → Int32 → am_H → am_R) (a0 : Nat × Nat) (x1 : Int32) (x2 : Int32) (x3 : Int32) (h : am_H) : am_R := rc6 a0 x1 x2 (x3 + 1) h
theorem t_X3_firstDayOfAny_31 (d : Nat) (hd : 1 ≤ d) (rc6 : Nat × Nat → Int32 → Int32 → Int32 → am_H → am_R) (hrc6 : ∀ a0 x1 x2 x3 h, Sim m_X3_firstDayOfAny d 6 [some (.inr (.inr (some a0))), some (.inl x1), some (.inl x2), some (.inl x3)] [] h (rc6 a0 x1 x2 x3 h)) (a0 : Nat × Nat) (x1 : Int32) (x2 : Int32) (x3 : Int32) (h : am_H) : Sim m_X3_firstDayOfAny d 31 [some (.inr (.inr (some a0))), some (.inl x1), some (.inl x2), some (.inl x3)] [] h (f_X3_firstDayOfAny_31 rc6 a0 x1 x2 x3 h) := by
  unfold f_X3_firstDayOfAny_31
  refine sim_iinc (1) dX3_firstDayOfAny_31 rfl (by decide +kernel) (Nat.le_of_ble_eq_true rfl) ?_
  refine sim_goto 6 dX3_firstDayOfAny_34 (by decide) ?_
  exact sim_lv (am_leS (am_leS (am_leS (am_leS am_leT)))) (hrc6 _ _ _ _ _)
def f_X3_firstDayOfAny_6  : Nat → Nat × Nat → Int32 → Int32 → Int32 → am_H → am_R
  | 0, _, _, _, _, _ => none
  | n + 1, a0, x1, x2, x3, h => if (12 : Int32) ≤ x3 then (m_ri h x2) else (m_bJ (f_X10_has x1 x3 h) fun h1 v2 => if v2 = 0 then (f_X3_firstDayOfAny_31 (f_X3_firstDayOfAny_6  n) a0 x1 x2 x3 h1) else (m_gR (some a0) 3 2 h1 fun o3 => m_aI o3 0 x3 h1 fun v4 => f_X3_firstDayOfAny_31 (f_X3_firstDayOfAny_6  n) a0 x1 (m_min x2 v4) x3 h1))
theorem t_X3_firstDayOfAny_6 (d : Nat) (hd : 1 ≤ d)  : ∀ (n : Nat) (a0 : Nat × Nat) (x1 : Int32) (x2 : Int32) (x3 : Int32) (h : am_H), Sim m_X3_firstDayOfAny d 6 [some (.inr (.inr (some a0))), some (.inl x1), some (.inl x2), some (.inl x3)] [] h (f_X3_firstDayOfAny_6  n a0 x1 x2 x3 h) := by
  intro n
  induction n with
  | zero => intros; exact sim_none
  | succ n hrc6 =>
    intro a0 x1 x2 x3 h
    rw [f_X3_firstDayOfAny_6]
    refine sim_iload_n dX3_firstDayOfAny_6 rfl ?_
    refine sim_bipush (12) dX3_firstDayOfAny_7 (by decide +kernel) ?_
    refine sim_ic_ge 37 dX3_firstDayOfAny_9 (by decide) (fun c => ?_) (fun c => ?_)
    · refine sim_iload_n dX3_firstDayOfAny_37 rfl ?_
      exact sim_iret dX3_firstDayOfAny_38 rfl
    · refine sim_iload_n dX3_firstDayOfAny_12 rfl ?_
      refine sim_iload_n dX3_firstDayOfAny_13 rfl ?_
      refine sim_staticN (d - 1) dX3_firstDayOfAny_14 (k_X10_has (d - 1) (by omega) _ _ _) q_X10_has wn_RX3_27 rfl rfl (by omega) (Nat.le_of_ble_eq_true rfl) am_nJ am_xJ (am_rJ fun h1 v2 => ?_)
      refine sim_if_eq 31 dX3_firstDayOfAny_17 (by decide) (fun c => ?_) (fun c => ?_)
      · exact sim_lv (am_leS (am_leS (am_leS (am_leS am_leT)))) (t_X3_firstDayOfAny_31 d (by omega) _ hrc6 _ _ _ _ _)
      · refine sim_iload_n dX3_firstDayOfAny_20 rfl ?_
        refine sim_aload_n dX3_firstDayOfAny_21 rfl ?_
        refine sim_gR 3 2 dX3_firstDayOfAny_22 rfl wf_RX3_15 (Nat.le_of_ble_eq_true rfl) rfl (fun o3 => ?_)
        refine sim_iload_n dX3_firstDayOfAny_25 rfl ?_
        refine sim_aI dX3_firstDayOfAny_26 (fun v4 => ?_)
        refine sim_mmin dX3_firstDayOfAny_27 wm_RX3_31 wms_min wz_RJ9 wmc_min (by omega) (Nat.le_of_ble_eq_true rfl) ?_
        refine sim_istore_n dX3_firstDayOfAny_30 (Nat.le_of_ble_eq_true rfl) ?_
        exact sim_lv (am_leS (am_leS (am_leS (am_leS am_leT)))) (t_X3_firstDayOfAny_31 d (by omega) _ hrc6 _ _ _ _ _)
def f_X3_firstDayOfAny (a0 : Nat × Nat) (x1 : Int32) (h : am_H) : am_R := f_X3_firstDayOfAny_6 5000 a0 x1 (2001 : Int32) (0 : Int32) h
theorem k_X3_firstDayOfAny (d : Nat) (hd : 1 ≤ d) (a0 : Nat × Nat) (x1 : Int32) (h : am_H) : am_Con m_X3_firstDayOfAny d [.inr (.inr (some a0)), .inl x1] h (f_X3_firstDayOfAny a0 x1 h) := am_con (by decide +kernel) (Nat.le_of_ble_eq_true rfl) (by
  unfold f_X3_firstDayOfAny
  refine sim_sipush (2001) dX3_firstDayOfAny_0 (by decide +kernel) ?_
  refine sim_istore_n dX3_firstDayOfAny_3 (Nat.le_of_ble_eq_true rfl) ?_
  refine sim_iconst (0) dX3_firstDayOfAny_4 (by decide +kernel) ?_
  refine sim_istore_n dX3_firstDayOfAny_5 (Nat.le_of_ble_eq_true rfl) ?_
  exact sim_lv (am_leS (am_leS (am_leS (am_leS am_leT)))) (t_X3_firstDayOfAny_6 d (by omega) _ _ _ _ _ _))
theorem q_X3_firstDayOfAny : am_Cal m_X3_firstDayOfAny 1 2 := ⟨am_mem 954 (w := Cond.code yX3_firstDayOfAny cX3_firstDayOfAny 4 (some .int)) (by decide +kernel) rfl, am_mem 36 (w := Cond.initialized RX3) (by decide +kernel) rfl, fun z => absurd z (by decide), fun _ => am_mem 952 (w := Cond.instanceMethod yX3_firstDayOfAny) (by decide +kernel) rfl, fun z => absurd z (by decide), fun _ => am_mem 953 (w := Cond.selects RX3 yX3_firstDayOfAny yX3_firstDayOfAny) (by decide +kernel) rfl, by decide +kernel, by decide +kernel, Nat.le_of_ble_eq_true rfl⟩
abbrev m_X9_chaptersOutFrom : am_M := (yX9_chaptersOutFrom, cX9_chaptersOutFrom, 4, some .int, [])
def f_X9_chaptersOutFrom_28 (rc4 : Nat × Nat → Int32 → Int32 → Int32 → am_H → am_R) (a0 : Nat × Nat) (x1 : Int32) (x3 : Int32) (s0 : Int32) (s1 : Int32) (s2 : Int32) (h : am_H) : am_R := m_bJ (f_X10_with s2 s1 s0 h) fun h5 v6 => rc4 a0 x1 v6 (x3 + 1) h5
theorem t_X9_chaptersOutFrom_28 (d : Nat) (hd : 2 ≤ d) (rc4 : Nat × Nat → Int32 → Int32 → Int32 → am_H → am_R) (hrc4 : ∀ a0 x1 x2 x3 h, Sim m_X9_chaptersOutFrom d 4 [some (.inr (.inr (some a0))), some (.inl x1), some (.inl x2), some (.inl x3)] [] h (rc4 a0 x1 x2 x3 h)) (a0 : Nat × Nat) (x1 : Int32) (x3 : Int32) (s0 : Int32) (s1 : Int32) (s2 : Int32) (h : am_H) : Sim m_X9_chaptersOutFrom d 28 [some (.inr (.inr (some a0))), some (.inl x1), none, some (.inl x3)] [.inl s0, .inl s1, .inl s2] h (f_X9_chaptersOutFrom_28 rc4 a0 x1 x3 s0 s1 s2 h) := by
  unfold f_X9_chaptersOutFrom_28
  refine sim_staticN (d - 1) dX9_chaptersOutFrom_28 (k_X10_with (d - 1) (by omega) _ _ _ _) q_X10_with wn_RX9_69 rfl rfl (by omega) (Nat.le_of_ble_eq_true rfl) am_nJ am_xJ (am_rJ fun h5 v6 => ?_)
  refine sim_istore_n dX9_chaptersOutFrom_31 (Nat.le_of_ble_eq_true rfl) ?_
  refine sim_iinc (1) dX9_chaptersOutFrom_32 rfl (by decide +kernel) (Nat.le_of_ble_eq_true rfl) ?_
  refine sim_goto 4 dX9_chaptersOutFrom_35 (by decide) ?_
  exact sim_lv (am_leS (am_leS (am_leS (am_leS am_leT)))) (hrc4 _ _ _ _ _)
def f_X9_chaptersOutFrom_4  : Nat → Nat × Nat → Int32 → Int32 → Int32 → am_H → am_R
  | 0, _, _, _, _, _ => none
  | n + 1, a0, x1, x2, x3, h => m_gI (some a0) 9 3 h fun v1 => if v1 ≤ x3 then (m_ri h x2) else (m_ao (some a0) 9 fun a4 => m_bI (f_X9_outDay a4 x3 h) fun h2 v3 => if v3 < x1 then (f_X9_chaptersOutFrom_28 (f_X9_chaptersOutFrom_4  n) a0 x1 x3 (0 : Int32) x3 x2 h2) else (f_X9_chaptersOutFrom_28 (f_X9_chaptersOutFrom_4  n) a0 x1 x3 (1 : Int32) x3 x2 h2))
theorem t_X9_chaptersOutFrom_4 (d : Nat) (hd : 2 ≤ d)  : ∀ (n : Nat) (a0 : Nat × Nat) (x1 : Int32) (x2 : Int32) (x3 : Int32) (h : am_H), Sim m_X9_chaptersOutFrom d 4 [some (.inr (.inr (some a0))), some (.inl x1), some (.inl x2), some (.inl x3)] [] h (f_X9_chaptersOutFrom_4  n a0 x1 x2 x3 h) := by
  intro n
  induction n with
  | zero => intros; exact sim_none
  | succ n hrc4 =>
    intro a0 x1 x2 x3 h
    rw [f_X9_chaptersOutFrom_4]
    refine sim_iload_n dX9_chaptersOutFrom_4 rfl ?_
    refine sim_aload_n dX9_chaptersOutFrom_5 rfl ?_
    refine sim_gI 9 3 dX9_chaptersOutFrom_6 rfl wf_RX9_62 (Nat.le_of_ble_eq_true rfl) rfl (fun v1 => ?_)
    refine sim_ic_ge 38 dX9_chaptersOutFrom_9 (by decide) (fun c => ?_) (fun c => ?_)
    · refine sim_iload_n dX9_chaptersOutFrom_38 rfl ?_
      exact sim_iret dX9_chaptersOutFrom_39 rfl
    · refine sim_iload_n dX9_chaptersOutFrom_12 rfl ?_
      refine sim_iload_n dX9_chaptersOutFrom_13 rfl ?_
      refine sim_aload_n dX9_chaptersOutFrom_14 rfl ?_
      refine sim_iload_n dX9_chaptersOutFrom_15 rfl ?_
      refine sim_ao1 (fun a4 e => ?_)
      refine sim_virt (d - 1) e dX9_chaptersOutFrom_16 (k_X9_outDay (d - 1) (by omega) _ _ _) q_X9_outDay rfl rfl wm_RX9_65 rfl rfl (by omega) (Nat.le_of_ble_eq_true rfl) am_nI (am_rI fun h2 v3 => ?_) am_eI
      refine sim_iload_n dX9_chaptersOutFrom_19 rfl ?_
      refine sim_ic_lt 27 dX9_chaptersOutFrom_20 (by decide) (fun c => ?_) (fun c => ?_)
      · refine sim_iconst (0) dX9_chaptersOutFrom_27 (by decide +kernel) ?_
        exact sim_lv (am_leS (am_leS (am_leN (am_leS am_leT)))) (t_X9_chaptersOutFrom_28 d (by omega) _ hrc4 _ _ _ _ _ _ _)
      · refine sim_iconst (1) dX9_chaptersOutFrom_23 (by decide +kernel) ?_
        refine sim_goto 28 dX9_chaptersOutFrom_24 (by decide) ?_
        exact sim_lv (am_leS (am_leS (am_leN (am_leS am_leT)))) (t_X9_chaptersOutFrom_28 d (by omega) _ hrc4 _ _ _ _ _ _ _)
def f_X9_chaptersOutFrom (a0 : Nat × Nat) (x1 : Int32) (h : am_H) : am_R := f_X9_chaptersOutFrom_4 5000 a0 x1 (0 : Int32) (0 : Int32) h
theorem k_X9_chaptersOutFrom (d : Nat) (hd : 2 ≤ d) (a0 : Nat × Nat) (x1 : Int32) (h : am_H) : am_Con m_X9_chaptersOutFrom d [.inr (.inr (some a0)), .inl x1] h (f_X9_chaptersOutFrom a0 x1 h) := am_con (by decide +kernel) (Nat.le_of_ble_eq_true rfl) (by
  unfold f_X9_chaptersOutFrom
  refine sim_iconst (0) dX9_chaptersOutFrom_0 (by decide +kernel) ?_
  refine sim_istore_n dX9_chaptersOutFrom_1 (Nat.le_of_ble_eq_true rfl) ?_
  refine sim_iconst (0) dX9_chaptersOutFrom_2 (by decide +kernel) ?_
  refine sim_istore_n dX9_chaptersOutFrom_3 (Nat.le_of_ble_eq_true rfl) ?_
  exact sim_lv (am_leS (am_leS (am_leS (am_leS am_leT)))) (t_X9_chaptersOutFrom_4 d (by omega) _ _ _ _ _ _))
theorem q_X9_chaptersOutFrom : am_Cal m_X9_chaptersOutFrom 1 2 := ⟨am_mem 963 (w := Cond.code yX9_chaptersOutFrom cX9_chaptersOutFrom 4 (some .int)) (by decide +kernel) rfl, am_mem 44 (w := Cond.initialized RX9) (by decide +kernel) rfl, fun z => absurd z (by decide), fun _ => am_mem 961 (w := Cond.instanceMethod yX9_chaptersOutFrom) (by decide +kernel) rfl, fun z => absurd z (by decide), fun _ => am_mem 962 (w := Cond.selects RX9 yX9_chaptersOutFrom yX9_chaptersOutFrom) (by decide +kernel) rfl, by decide +kernel, by decide +kernel, Nat.le_of_ble_eq_true rfl⟩
abbrev m_X10_newChapters : am_M := (yX10_newChapters, cX10_newChapters, 6, some .int, [])
def f_X10_newChapters_42   (h : am_H) : am_R := m_ri h (0 : Int32)
theorem t_X10_newChapters_42 (d : Nat) (hd : 4 ≤ d)   (h : am_H) : Sim m_X10_newChapters d 42 [none, none, none, none, none, none] [] h (f_X10_newChapters_42   h) := by
  unfold f_X10_newChapters_42
  refine sim_iconst (0) dX10_newChapters_42 (by decide +kernel) ?_
  exact sim_iret dX10_newChapters_43 rfl
def f_X10_newChapters (a0 : Nat × Nat) (x1 : Int32) (x2 : Int32) (h : am_H) : am_R := m_gR (some a0) 10 3 h fun o1 => m_aR o1 5 x2 h fun o2 => m_gR (some a0) 10 2 h fun o3 => m_aR o3 4 x1 h fun o4 => m_ao o2 9 fun a7 => m_bI (f_X9_isPosted a7 h) fun h5 v6 => if v6 = 0 then (f_X10_newChapters_42 h5) else (m_gI (some a0) 10 0 h5 fun v8 => m_ao o2 9 fun a11 => m_bI (f_X9_isSeenBy a11 x1 v8 h5) fun h9 v10 => if v10 = 0 then (f_X10_newChapters_42 h9) else (m_ao o2 9 fun a14 => m_bI (f_X9_isOwnedBy a14 x1 h9) fun h12 v13 => if v13 = 0 then (m_gR o4 3 1 h12 fun o15 => m_aI o15 0 x2 h12 fun v16 => m_gI (some a0) 10 0 h12 fun v17 => m_ao o2 9 fun a20 => m_bI (f_X9_ownersToldTo a20 x1 v17 h12) fun h18 v19 => m_ao o4 3 fun a23 => m_bI (f_X3_firstDayOfAny a23 v19 h18) fun h21 v22 => m_ao o2 9 fun a26 => m_bI (f_X9_chaptersOutFrom a26 (m_min v16 v22) h21) fun h24 v25 => m_gR o4 3 3 h24 fun o27 => m_aI o27 0 x2 h24 fun v28 => m_ri h24 (v25 &&& (v28 ^^^ (-1 : Int32)))) else (f_X10_newChapters_42 h12)))
theorem k_X10_newChapters (d : Nat) (hd : 4 ≤ d) (a0 : Nat × Nat) (x1 : Int32) (x2 : Int32) (h : am_H) : am_Con m_X10_newChapters d [.inr (.inr (some a0)), .inl x1, .inl x2] h (f_X10_newChapters a0 x1 x2 h) := am_con (by decide +kernel) (Nat.le_of_ble_eq_true rfl) (by
  unfold f_X10_newChapters
  refine sim_aload_n dX10_newChapters_0 rfl ?_
  refine sim_gR 10 3 dX10_newChapters_1 rfl wf_RX10_21 (Nat.le_of_ble_eq_true rfl) rfl (fun o1 => ?_)
  refine sim_iload_n dX10_newChapters_4 rfl ?_
  refine sim_aR 5 rfl dX10_newChapters_5 (fun o2 => ?_)
  refine sim_astore_n dX10_newChapters_6 (Nat.le_of_ble_eq_true rfl) ?_
  refine sim_aload_n dX10_newChapters_7 rfl ?_
  refine sim_gR 10 2 dX10_newChapters_8 rfl wf_RX10_15 (Nat.le_of_ble_eq_true rfl) rfl (fun o3 => ?_)
  refine sim_iload_n dX10_newChapters_11 rfl ?_
  refine sim_aR 4 rfl dX10_newChapters_12 (fun o4 => ?_)
  refine sim_astore dX10_newChapters_13 (Nat.le_of_ble_eq_true rfl) ?_
  refine sim_aload_n dX10_newChapters_15 rfl ?_
  refine sim_ao0 (fun a7 e => ?_)
  refine sim_virt (d - 1) e dX10_newChapters_16 (k_X9_isPosted (d - 1) (by omega) _  _) q_X9_isPosted rfl rfl wm_RX10_141 rfl rfl (by omega) (Nat.le_of_ble_eq_true rfl) am_nI (am_rI fun h5 v6 => ?_) am_eI
  refine sim_if_eq 42 dX10_newChapters_19 (by decide) (fun c => ?_) (fun c => ?_)
  · exact sim_lv (am_leN (am_leN (am_leN (am_leN (am_leN (am_leN am_leT)))))) (t_X10_newChapters_42 d (by omega) _)
  · refine sim_aload_n dX10_newChapters_22 rfl ?_
    refine sim_iload_n dX10_newChapters_23 rfl ?_
    refine sim_aload_n dX10_newChapters_24 rfl ?_
    refine sim_gI 10 0 dX10_newChapters_25 rfl wf_RX10_73 (Nat.le_of_ble_eq_true rfl) rfl (fun v8 => ?_)
    refine sim_ao2 (fun a11 e => ?_)
    refine sim_virt (d - 1) e dX10_newChapters_28 (k_X9_isSeenBy (d - 1) (by omega) _ _ _ _) q_X9_isSeenBy rfl rfl wm_RX10_173 rfl rfl (by omega) (Nat.le_of_ble_eq_true rfl) am_nI (am_rI fun h9 v10 => ?_) am_eI
    refine sim_if_eq 42 dX10_newChapters_31 (by decide) (fun c => ?_) (fun c => ?_)
    · exact sim_lv (am_leN (am_leN (am_leN (am_leN (am_leN (am_leN am_leT)))))) (t_X10_newChapters_42 d (by omega) _)
    · refine sim_aload_n dX10_newChapters_34 rfl ?_
      refine sim_iload_n dX10_newChapters_35 rfl ?_
      refine sim_ao1 (fun a14 e => ?_)
      refine sim_virt (d - 1) e dX10_newChapters_36 (k_X9_isOwnedBy (d - 1) (by omega) _ _ _) q_X9_isOwnedBy rfl rfl wm_RX10_125 rfl rfl (by omega) (Nat.le_of_ble_eq_true rfl) am_nI (am_rI fun h12 v13 => ?_) am_eI
      refine sim_if_eq 44 dX10_newChapters_39 (by decide) (fun c => ?_) (fun c => ?_)
      · refine sim_aload dX10_newChapters_44 rfl ?_
        refine sim_gR 3 1 dX10_newChapters_46 rfl wf_RX10_367 (Nat.le_of_ble_eq_true rfl) rfl (fun o15 => ?_)
        refine sim_iload_n dX10_newChapters_49 rfl ?_
        refine sim_aI dX10_newChapters_50 (fun v16 => ?_)
        refine sim_aload dX10_newChapters_51 rfl ?_
        refine sim_aload_n dX10_newChapters_53 rfl ?_
        refine sim_iload_n dX10_newChapters_54 rfl ?_
        refine sim_aload_n dX10_newChapters_55 rfl ?_
        refine sim_gI 10 0 dX10_newChapters_56 rfl wf_RX10_73 (Nat.le_of_ble_eq_true rfl) rfl (fun v17 => ?_)
        refine sim_ao2 (fun a20 e => ?_)
        refine sim_virt (d - 1) e dX10_newChapters_59 (k_X9_ownersToldTo (d - 1) (by omega) _ _ _ _) q_X9_ownersToldTo rfl rfl wm_RX10_176 rfl rfl (by omega) (Nat.le_of_ble_eq_true rfl) am_nI (am_rI fun h18 v19 => ?_) am_eI
        refine sim_ao1 (fun a23 e => ?_)
        refine sim_virt (d - 1) e dX10_newChapters_62 (k_X3_firstDayOfAny (d - 1) (by omega) _ _ _) q_X3_firstDayOfAny rfl rfl wm_RX10_458 rfl rfl (by omega) (Nat.le_of_ble_eq_true rfl) am_nI (am_rI fun h21 v22 => ?_) am_eI
        refine sim_mmin dX10_newChapters_65 wm_RX10_461 wms_min wz_RJ9 wmc_min (by omega) (Nat.le_of_ble_eq_true rfl) ?_
        refine sim_istore dX10_newChapters_68 (Nat.le_of_ble_eq_true rfl) ?_
        refine sim_aload_n dX10_newChapters_70 rfl ?_
        refine sim_iload dX10_newChapters_71 rfl ?_
        refine sim_ao1 (fun a26 e => ?_)
        refine sim_virt (d - 1) e dX10_newChapters_73 (k_X9_chaptersOutFrom (d - 1) (by omega) _ _ _) q_X9_chaptersOutFrom rfl rfl wm_RX10_466 rfl rfl (by omega) (Nat.le_of_ble_eq_true rfl) am_nI (am_rI fun h24 v25 => ?_) am_eI
        refine sim_aload dX10_newChapters_76 rfl ?_
        refine sim_gR 3 3 dX10_newChapters_78 rfl wf_RX10_373 (Nat.le_of_ble_eq_true rfl) rfl (fun o27 => ?_)
        refine sim_iload_n dX10_newChapters_81 rfl ?_
        refine sim_aI dX10_newChapters_82 (fun v28 => ?_)
        refine sim_iconst (-1) dX10_newChapters_83 (by decide +kernel) ?_
        refine sim_ixor dX10_newChapters_84 ?_
        refine sim_iand dX10_newChapters_85 ?_
        exact sim_iret dX10_newChapters_86 rfl
      · exact sim_lv (am_leN (am_leN (am_leN (am_leN (am_leN (am_leN am_leT)))))) (t_X10_newChapters_42 d (by omega) _))
theorem q_X10_newChapters : am_Cal m_X10_newChapters 2 2 := ⟨am_mem 950 (w := Cond.code yX10_newChapters cX10_newChapters 6 (some .int)) (by decide +kernel) rfl, am_mem 30 (w := Cond.initialized RX10) (by decide +kernel) rfl, fun z => absurd z (by decide), fun _ => am_mem 949 (w := Cond.instanceMethod yX10_newChapters) (by decide +kernel) rfl, fun z => absurd z (by decide), fun _ => am_mem 28 (w := Cond.selects RX10 yX10_newChapters yX10_newChapters) (by decide +kernel) rfl, by decide +kernel, by decide +kernel, Nat.le_of_ble_eq_true rfl⟩
abbrev m_X10_digest : am_M := (yX10_digest, cX10_digest, 6, some .int, [])
def f_X10_digest_16  : Nat → Nat × Nat → Int32 → Option (Nat × Nat) → Int32 → Int32 → am_H → am_R
  | 0, _, _, _, _, _, _ => none
  | n + 1, a0, x1, x2, x3, x4, h => m_gI (some a0) 10 4 h fun v5 => if v5 ≤ x4 then (m_ri h x3) else (m_ao (some a0) 10 fun a8 => m_bI (f_X10_newChapters a8 x1 x4 h) fun h6 v7 => m_gR x2 3 3 h6 fun o9 => m_aI o9 0 x4 h6 fun v10 => m_sI o9 x4 (v10 ||| v7) h6 fun h11 => m_bI (f_J6_bitCount_0f7a4 v7 h11) fun h12 v13 => (f_X10_digest_16  n) a0 x1 x2 (x3 + v13) (x4 + 1) h12)
theorem t_X10_digest_16 (d : Nat) (hd : 7 ≤ d)  : ∀ (n : Nat) (a0 : Nat × Nat) (x1 : Int32) (x2 : Option (Nat × Nat)) (x3 : Int32) (x4 : Int32) (h : am_H), Sim m_X10_digest d 16 [some (.inr (.inr (some a0))), some (.inl x1), some (.inr (.inr x2)), some (.inl x3), some (.inl x4), none] [] h (f_X10_digest_16  n a0 x1 x2 x3 x4 h) := by
  intro n
  induction n with
  | zero => intros; exact sim_none
  | succ n hrc16 =>
    intro a0 x1 x2 x3 x4 h
    rw [f_X10_digest_16]
    refine sim_iload dX10_digest_16 rfl ?_
    refine sim_aload_n dX10_digest_18 rfl ?_
    refine sim_gI 10 4 dX10_digest_19 rfl wf_RX10_104 (Nat.le_of_ble_eq_true rfl) rfl (fun v5 => ?_)
    refine sim_ic_ge 60 dX10_digest_22 (by decide) (fun c => ?_) (fun c => ?_)
    · refine sim_iload_n dX10_digest_60 rfl ?_
      exact sim_iret dX10_digest_61 rfl
    · refine sim_aload_n dX10_digest_25 rfl ?_
      refine sim_iload_n dX10_digest_26 rfl ?_
      refine sim_iload dX10_digest_27 rfl ?_
      refine sim_ao2 (fun a8 e => ?_)
      refine sim_virt (d - 1) e dX10_digest_29 (k_X10_newChapters (d - 1) (by omega) _ _ _ _) q_X10_newChapters rfl rfl wm_RX10_370 rfl rfl (by omega) (Nat.le_of_ble_eq_true rfl) am_nI (am_rI fun h6 v7 => ?_) am_eI
      refine sim_istore dX10_digest_32 (Nat.le_of_ble_eq_true rfl) ?_
      refine sim_aload_n dX10_digest_34 rfl ?_
      refine sim_gR 3 3 dX10_digest_35 rfl wf_RX10_373 (Nat.le_of_ble_eq_true rfl) rfl (fun o9 => ?_)
      refine sim_iload dX10_digest_38 rfl ?_
      refine sim_dup2 dX10_digest_40 ?_
      refine sim_aI dX10_digest_41 (fun v10 => ?_)
      refine sim_iload dX10_digest_42 rfl ?_
      refine sim_ior dX10_digest_44 ?_
      refine sim_sI dX10_digest_45 (fun h11 => ?_)
      refine sim_iload_n dX10_digest_46 rfl ?_
      refine sim_iload dX10_digest_47 rfl ?_
      refine sim_static (d - 1) dX10_digest_49 (k_J6_bitCount_0f7a4 (d - 1) (by omega) _ _) q_J6_bitCount_0f7a4 wm_RX10_119 rfl rfl (by omega) (Nat.le_of_ble_eq_true rfl) am_nI (am_rI fun h12 v13 => ?_) am_eI
      refine sim_iadd dX10_digest_52 ?_
      refine sim_istore_n dX10_digest_53 (Nat.le_of_ble_eq_true rfl) ?_
      refine sim_iinc (1) dX10_digest_54 rfl (by decide +kernel) (Nat.le_of_ble_eq_true rfl) ?_
      refine sim_goto 16 dX10_digest_57 (by decide) ?_
      exact sim_lv (am_leS (am_leS (am_leS (am_leS (am_leS (am_leN am_leT)))))) (hrc16 _ _ _ _ _ _)
def f_X10_digest (a0 : Nat × Nat) (x1 : Int32) (h : am_H) : am_R := m_bV (f_X10_checkPerson x1 h) fun h1 => m_gR (some a0) 10 2 h1 fun o3 => m_aR o3 4 x1 h1 fun o4 => f_X10_digest_16 5000 a0 x1 o4 (0 : Int32) (0 : Int32) h1
theorem k_X10_digest (d : Nat) (hd : 7 ≤ d) (a0 : Nat × Nat) (x1 : Int32) (h : am_H) : am_Con m_X10_digest d [.inr (.inr (some a0)), .inl x1] h (f_X10_digest a0 x1 h) := am_con (by decide +kernel) (Nat.le_of_ble_eq_true rfl) (by
  unfold f_X10_digest
  refine sim_iload_n dX10_digest_0 rfl ?_
  refine sim_static (d - 1) dX10_digest_1 (k_X10_checkPerson (d - 1) (by omega) _ _) q_X10_checkPerson wm_RX10_82 rfl rfl (by omega) (Nat.le_of_ble_eq_true rfl) am_nV (am_rV fun h1 => ?_) am_eV
  refine sim_aload_n dX10_digest_4 rfl ?_
  refine sim_gR 10 2 dX10_digest_5 rfl wf_RX10_15 (Nat.le_of_ble_eq_true rfl) rfl (fun o3 => ?_)
  refine sim_iload_n dX10_digest_8 rfl ?_
  refine sim_aR 4 rfl dX10_digest_9 (fun o4 => ?_)
  refine sim_astore_n dX10_digest_10 (Nat.le_of_ble_eq_true rfl) ?_
  refine sim_iconst (0) dX10_digest_11 (by decide +kernel) ?_
  refine sim_istore_n dX10_digest_12 (Nat.le_of_ble_eq_true rfl) ?_
  refine sim_iconst (0) dX10_digest_13 (by decide +kernel) ?_
  refine sim_istore dX10_digest_14 (Nat.le_of_ble_eq_true rfl) ?_
  exact sim_lv (am_leS (am_leS (am_leS (am_leS (am_leS (am_leN am_leT)))))) (t_X10_digest_16 d (by omega) _ _ _ _ _ _ _))
theorem q_X10_digest : am_Cal m_X10_digest 1 2 := ⟨am_mem 968 (w := Cond.code yX10_digest cX10_digest 6 (some .int)) (by decide +kernel) rfl, am_mem 30 (w := Cond.initialized RX10) (by decide +kernel) rfl, fun z => absurd z (by decide), fun _ => am_mem 966 (w := Cond.instanceMethod yX10_digest) (by decide +kernel) rfl, fun z => absurd z (by decide), fun _ => am_mem 967 (w := Cond.selects RX10 yX10_digest yX10_digest) (by decide +kernel) rfl, by decide +kernel, by decide +kernel, Nat.le_of_ble_eq_true rfl⟩
abbrev m_X10_countKudos : am_M := (yX10_countKudos, cX10_countKudos, 5, some .int, [])
def f_X10_countKudos_48 (rc4 : Nat × Nat → Option (Nat × Nat) → Int32 → Int32 → am_H → am_R) (a0 : Nat × Nat) (x1 : Option (Nat × Nat)) (x2 : Int32) (x3 : Int32) (h : am_H) : am_R := rc4 a0 x1 x2 (x3 + 1) h
theorem t_X10_countKudos_48 (d : Nat) (hd : 1 ≤ d) (rc4 : Nat × Nat → Option (Nat × Nat) → Int32 → Int32 → am_H → am_R) (hrc4 : ∀ a0 x1 x2 x3 h, Sim m_X10_countKudos d 4 [some (.inr (.inr (some a0))), some (.inr (.inr x1)), some (.inl x2), some (.inl x3), none] [] h (rc4 a0 x1 x2 x3 h)) (a0 : Nat × Nat) (x1 : Option (Nat × Nat)) (x2 : Int32) (x3 : Int32) (h : am_H) : Sim m_X10_countKudos d 48 [some (.inr (.inr (some a0))), some (.inr (.inr x1)), some (.inl x2), some (.inl x3), none] [] h (f_X10_countKudos_48 rc4 a0 x1 x2 x3 h) := by
  unfold f_X10_countKudos_48
  refine sim_iinc (1) dX10_countKudos_48 rfl (by decide +kernel) (Nat.le_of_ble_eq_true rfl) ?_
  refine sim_goto 4 dX10_countKudos_51 (by decide) ?_
  exact sim_lv (am_leS (am_leS (am_leS (am_leS (am_leN am_leT))))) (hrc4 _ _ _ _ _)
def f_X10_countKudos_4  : Nat → Nat × Nat → Option (Nat × Nat) → Int32 → Int32 → am_H → am_R
  | 0, _, _, _, _, _ => none
  | n + 1, a0, x1, x2, x3, h => if (32 : Int32) ≤ x3 then (m_ri h x2) else (m_gI x1 9 11 h fun v1 => m_bI (f_X10_has v1 x3 h) fun h2 v3 => if v3 = 0 then (f_X10_countKudos_48 (f_X10_countKudos_4  n) a0 x1 x2 x3 h2) else (m_gI x1 9 11 h2 fun v4 => m_gR (some a0) 10 1 h2 fun o5 => m_aI o5 0 x3 h2 fun v6 => if ((v4 &&& v6) &&& (((1 : Int32) <<< (x3 &&& 31)) - (1 : Int32))) = 0 then (f_X10_countKudos_48 (f_X10_countKudos_4  n) a0 x1 (x2 + 1) x3 h2) else (f_X10_countKudos_48 (f_X10_countKudos_4  n) a0 x1 x2 x3 h2)))
theorem t_X10_countKudos_4 (d : Nat) (hd : 1 ≤ d)  : ∀ (n : Nat) (a0 : Nat × Nat) (x1 : Option (Nat × Nat)) (x2 : Int32) (x3 : Int32) (h : am_H), Sim m_X10_countKudos d 4 [some (.inr (.inr (some a0))), some (.inr (.inr x1)), some (.inl x2), some (.inl x3), none] [] h (f_X10_countKudos_4  n a0 x1 x2 x3 h) := by
  intro n
  induction n with
  | zero => intros; exact sim_none
  | succ n hrc4 =>
    intro a0 x1 x2 x3 h
    rw [f_X10_countKudos_4]
    refine sim_iload_n dX10_countKudos_4 rfl ?_
    refine sim_bipush (32) dX10_countKudos_5 (by decide +kernel) ?_
    refine sim_ic_ge 54 dX10_countKudos_7 (by decide) (fun c => ?_) (fun c => ?_)
    · refine sim_iload_n dX10_countKudos_54 rfl ?_
      exact sim_iret dX10_countKudos_55 rfl
    · refine sim_iconst (1) dX10_countKudos_10 (by decide +kernel) ?_
      refine sim_iload_n dX10_countKudos_11 rfl ?_
      refine sim_ishl dX10_countKudos_12 ?_
      refine sim_iconst (1) dX10_countKudos_13 (by decide +kernel) ?_
      refine sim_isub dX10_countKudos_14 ?_
      refine sim_istore dX10_countKudos_15 (Nat.le_of_ble_eq_true rfl) ?_
      refine sim_aload_n dX10_countKudos_17 rfl ?_
      refine sim_gI 9 11 dX10_countKudos_18 rfl wf_RX10_352 (Nat.le_of_ble_eq_true rfl) rfl (fun v1 => ?_)
      refine sim_iload_n dX10_countKudos_21 rfl ?_
      refine sim_static (d - 1) dX10_countKudos_22 (k_X10_has (d - 1) (by omega) _ _ _) q_X10_has wm_RX10_91 rfl rfl (by omega) (Nat.le_of_ble_eq_true rfl) am_nI (am_rI fun h2 v3 => ?_) am_eI
      refine sim_if_eq 48 dX10_countKudos_25 (by decide) (fun c => ?_) (fun c => ?_)
      · exact sim_lv (am_leS (am_leS (am_leS (am_leS (am_leN am_leT))))) (t_X10_countKudos_48 d (by omega) _ hrc4 _ _ _ _ _)
      · refine sim_aload_n dX10_countKudos_28 rfl ?_
        refine sim_gI 9 11 dX10_countKudos_29 rfl wf_RX10_352 (Nat.le_of_ble_eq_true rfl) rfl (fun v4 => ?_)
        refine sim_aload_n dX10_countKudos_32 rfl ?_
        refine sim_gR 10 1 dX10_countKudos_33 rfl wf_RX10_9 (Nat.le_of_ble_eq_true rfl) rfl (fun o5 => ?_)
        refine sim_iload_n dX10_countKudos_36 rfl ?_
        refine sim_aI dX10_countKudos_37 (fun v6 => ?_)
        refine sim_iand dX10_countKudos_38 ?_
        refine sim_iload dX10_countKudos_39 rfl ?_
        refine sim_iand dX10_countKudos_41 ?_
        refine sim_if_ne 48 dX10_countKudos_42 (by decide) (fun c => ?_) (fun c => ?_)
        · exact sim_lv (am_leS (am_leS (am_leS (am_leS (am_leN am_leT))))) (t_X10_countKudos_48 d (by omega) _ hrc4 _ _ _ _ _)
        · refine sim_iinc (1) dX10_countKudos_45 rfl (by decide +kernel) (Nat.le_of_ble_eq_true rfl) ?_
          exact sim_lv (am_leS (am_leS (am_leS (am_leS (am_leN am_leT))))) (t_X10_countKudos_48 d (by omega) _ hrc4 _ _ _ _ _)
def f_X10_countKudos (a0 : Nat × Nat) (x1 : Option (Nat × Nat)) (h : am_H) : am_R := f_X10_countKudos_4 5000 a0 x1 (0 : Int32) (0 : Int32) h
theorem k_X10_countKudos (d : Nat) (hd : 1 ≤ d) (a0 : Nat × Nat) (x1 : Option (Nat × Nat)) (h : am_H) : am_Con m_X10_countKudos d [.inr (.inr (some a0)), .inr (.inr x1)] h (f_X10_countKudos a0 x1 h) := am_con (by decide +kernel) (Nat.le_of_ble_eq_true rfl) (by
  unfold f_X10_countKudos
  refine sim_iconst (0) dX10_countKudos_0 (by decide +kernel) ?_
  refine sim_istore_n dX10_countKudos_1 (Nat.le_of_ble_eq_true rfl) ?_
  refine sim_iconst (0) dX10_countKudos_2 (by decide +kernel) ?_
  refine sim_istore_n dX10_countKudos_3 (Nat.le_of_ble_eq_true rfl) ?_
  exact sim_lv (am_leS (am_leS (am_leS (am_leS (am_leN am_leT))))) (t_X10_countKudos_4 d (by omega) _ _ _ _ _ _))
theorem q_X10_countKudos : am_Cal m_X10_countKudos 1 2 := ⟨am_mem 934 (w := Cond.code yX10_countKudos cX10_countKudos 5 (some .int)) (by decide +kernel) rfl, am_mem 30 (w := Cond.initialized RX10) (by decide +kernel) rfl, fun z => absurd z (by decide), fun _ => am_mem 933 (w := Cond.instanceMethod yX10_countKudos) (by decide +kernel) rfl, fun z => absurd z (by decide), fun _ => am_mem 27 (w := Cond.selects RX10 yX10_countKudos yX10_countKudos) (by decide +kernel) rfl, by decide +kernel, by decide +kernel, Nat.le_of_ble_eq_true rfl⟩
abbrev m_X10_kudos : am_M := (yX10_kudos, cX10_kudos, 4, some .int, [])
def f_X10_kudos_44   (h : am_H) : am_R := m_ex h 2
theorem t_X10_kudos_44 (d : Nat) (hd : 8 ≤ d)   (h : am_H) : Sim m_X10_kudos d 44 [none, none, none, none] [] h (f_X10_kudos_44   h) := by
  unfold f_X10_kudos_44
  exact sim_throwW 2 (by decide) dX10_kudos_44 dX10_kudos_47 dX10_kudos_48 dX10_kudos_51 dX10_kudos_54 wx_RX10_77 wy_2 ws_RX10_355 at_RX10_81 gd_RX10_81 (by omega) (Nat.le_of_ble_eq_true rfl)
def f_X10_kudos (a0 : Nat × Nat) (x1 : Int32) (x2 : Int32) (h : am_H) : am_R := m_ao (some a0) 10 fun a3 => m_bR (f_X10_workAt a3 x1 h) fun h1 o2 => m_bV (f_X10_checkFace x2 h1) fun h4 => m_gI (some a0) 10 0 h4 fun v6 => m_ao o2 9 fun a9 => m_bI (f_X9_isSeenBy a9 x2 v6 h4) fun h7 v8 => if v8 = 0 then (f_X10_kudos_44 h7) else (m_ao o2 9 fun a12 => m_bI (f_X9_isOwnedBy a12 x2 h7) fun h10 v11 => if v11 = 0 then (m_gI o2 9 11 h10 fun v13 => m_gR (some a0) 10 1 h10 fun o14 => m_aI o14 0 x2 h10 fun v15 => if (v13 &&& v15) = 0 then (m_gI o2 9 11 h10 fun v16 => m_bI (f_X10_with v16 x2 (1 : Int32) h10) fun h17 v18 => m_pI o2 9 11 v18 h17 fun h19 => m_ao (some a0) 10 fun a22 => m_bI (f_X10_countKudos a22 o2 h19) fun h20 v21 => m_ri h20 v21) else (f_X10_kudos_44 h10)) else (f_X10_kudos_44 h10))
theorem k_X10_kudos (d : Nat) (hd : 8 ≤ d) (a0 : Nat × Nat) (x1 : Int32) (x2 : Int32) (h : am_H) : am_Con m_X10_kudos d [.inr (.inr (some a0)), .inl x1, .inl x2] h (f_X10_kudos a0 x1 x2 h) := am_con (by decide +kernel) (Nat.le_of_ble_eq_true rfl) (by
  unfold f_X10_kudos
  refine sim_aload_n dX10_kudos_0 rfl ?_
  refine sim_iload_n dX10_kudos_1 rfl ?_
  refine sim_ao1 (fun a3 e => ?_)
  refine sim_virt (d - 1) e dX10_kudos_2 (k_X10_workAt (d - 1) (by omega) _ _ _) q_X10_workAt rfl rfl wm_RX10_112 rfl rfl (by omega) (Nat.le_of_ble_eq_true rfl) am_nR (am_rR fun h1 o2 => ?_) am_eR
  refine sim_astore_n dX10_kudos_5 (Nat.le_of_ble_eq_true rfl) ?_
  refine sim_iload_n dX10_kudos_6 rfl ?_
  refine sim_static (d - 1) dX10_kudos_7 (k_X10_checkFace (d - 1) (by omega) _ _) q_X10_checkFace wm_RX10_99 rfl rfl (by omega) (Nat.le_of_ble_eq_true rfl) am_nV (am_rV fun h4 => ?_) am_eV
  refine sim_aload_n dX10_kudos_10 rfl ?_
  refine sim_iload_n dX10_kudos_11 rfl ?_
  refine sim_aload_n dX10_kudos_12 rfl ?_
  refine sim_gI 10 0 dX10_kudos_13 rfl wf_RX10_73 (Nat.le_of_ble_eq_true rfl) rfl (fun v6 => ?_)
  refine sim_ao2 (fun a9 e => ?_)
  refine sim_virt (d - 1) e dX10_kudos_16 (k_X9_isSeenBy (d - 1) (by omega) _ _ _ _) q_X9_isSeenBy rfl rfl wm_RX10_173 rfl rfl (by omega) (Nat.le_of_ble_eq_true rfl) am_nI (am_rI fun h7 v8 => ?_) am_eI
  refine sim_if_eq 44 dX10_kudos_19 (by decide) (fun c => ?_) (fun c => ?_)
  · exact sim_lv (am_leN (am_leN (am_leN (am_leN am_leT)))) (t_X10_kudos_44 d (by omega) _)
  · refine sim_aload_n dX10_kudos_22 rfl ?_
    refine sim_iload_n dX10_kudos_23 rfl ?_
    refine sim_ao1 (fun a12 e => ?_)
    refine sim_virt (d - 1) e dX10_kudos_24 (k_X9_isOwnedBy (d - 1) (by omega) _ _ _) q_X9_isOwnedBy rfl rfl wm_RX10_125 rfl rfl (by omega) (Nat.le_of_ble_eq_true rfl) am_nI (am_rI fun h10 v11 => ?_) am_eI
    refine sim_if_ne 44 dX10_kudos_27 (by decide) (fun c => ?_) (fun c => ?_)
    · exact sim_lv (am_leN (am_leN (am_leN (am_leN am_leT)))) (t_X10_kudos_44 d (by omega) _)
    · refine sim_aload_n dX10_kudos_30 rfl ?_
      refine sim_gI 9 11 dX10_kudos_31 rfl wf_RX10_352 (Nat.le_of_ble_eq_true rfl) rfl (fun v13 => ?_)
      refine sim_aload_n dX10_kudos_34 rfl ?_
      refine sim_gR 10 1 dX10_kudos_35 rfl wf_RX10_9 (Nat.le_of_ble_eq_true rfl) rfl (fun o14 => ?_)
      refine sim_iload_n dX10_kudos_38 rfl ?_
      refine sim_aI dX10_kudos_39 (fun v15 => ?_)
      refine sim_iand dX10_kudos_40 ?_
      refine sim_if_eq 55 dX10_kudos_41 (by decide) (fun c => ?_) (fun c => ?_)
      · refine sim_aload_n dX10_kudos_55 rfl ?_
        refine sim_aload_n dX10_kudos_56 rfl ?_
        refine sim_gI 9 11 dX10_kudos_57 rfl wf_RX10_352 (Nat.le_of_ble_eq_true rfl) rfl (fun v16 => ?_)
        refine sim_iload_n dX10_kudos_60 rfl ?_
        refine sim_iconst (1) dX10_kudos_61 (by decide +kernel) ?_
        refine sim_static (d - 1) dX10_kudos_62 (k_X10_with (d - 1) (by omega) _ _ _ _) q_X10_with wm_RX10_95 rfl rfl (by omega) (Nat.le_of_ble_eq_true rfl) am_nI (am_rI fun h17 v18 => ?_) am_eI
        refine sim_pI 9 11 dX10_kudos_65 rfl wf_RX10_352 (Nat.le_of_ble_eq_true rfl) rfl (Or.inl rfl) rfl (fun h19 => ?_)
        refine sim_aload_n dX10_kudos_68 rfl ?_
        refine sim_aload_n dX10_kudos_69 rfl ?_
        refine sim_ao1 (fun a22 e => ?_)
        refine sim_virt (d - 1) e dX10_kudos_70 (k_X10_countKudos (d - 1) (by omega) _ _ _) q_X10_countKudos rfl rfl wm_RX10_357 rfl rfl (by omega) (Nat.le_of_ble_eq_true rfl) am_nI (am_rI fun h20 v21 => ?_) am_eI
        exact sim_iret dX10_kudos_73 rfl
      · exact sim_lv (am_leN (am_leN (am_leN (am_leN am_leT)))) (t_X10_kudos_44 d (by omega) _))
theorem q_X10_kudos : am_Cal m_X10_kudos 2 2 := ⟨am_mem 929 (w := Cond.code yX10_kudos cX10_kudos 4 (some .int)) (by decide +kernel) rfl, am_mem 30 (w := Cond.initialized RX10) (by decide +kernel) rfl, fun z => absurd z (by decide), fun _ => am_mem 927 (w := Cond.instanceMethod yX10_kudos) (by decide +kernel) rfl, fun z => absurd z (by decide), fun _ => am_mem 928 (w := Cond.selects RX10 yX10_kudos yX10_kudos) (by decide +kernel) rfl, by decide +kernel, by decide +kernel, Nat.le_of_ble_eq_true rfl⟩
abbrev m_X10_liked : am_M := (yX10_liked, cX10_liked, 2, some .int, [])
def f_X10_liked (a0 : Nat × Nat) (x1 : Int32) (h : am_H) : am_R := m_ao (some a0) 10 fun a3 => m_bR (f_X10_workAt a3 x1 h) fun h1 o2 => m_ao (some a0) 10 fun a6 => m_bI (f_X10_countKudos a6 o2 h1) fun h4 v5 => m_ri h4 v5
theorem k_X10_liked (d : Nat) (hd : 8 ≤ d) (a0 : Nat × Nat) (x1 : Int32) (h : am_H) : am_Con m_X10_liked d [.inr (.inr (some a0)), .inl x1] h (f_X10_liked a0 x1 h) := am_con (by decide +kernel) (Nat.le_of_ble_eq_true rfl) (by
  unfold f_X10_liked
  refine sim_aload_n dX10_liked_0 rfl ?_
  refine sim_aload_n dX10_liked_1 rfl ?_
  refine sim_iload_n dX10_liked_2 rfl ?_
  refine sim_ao1 (fun a3 e => ?_)
  refine sim_virt (d - 1) e dX10_liked_3 (k_X10_workAt (d - 1) (by omega) _ _ _) q_X10_workAt rfl rfl wm_RX10_112 rfl rfl (by omega) (Nat.le_of_ble_eq_true rfl) am_nR (am_rR fun h1 o2 => ?_) am_eR
  refine sim_ao1 (fun a6 e => ?_)
  refine sim_virt (d - 1) e dX10_liked_6 (k_X10_countKudos (d - 1) (by omega) _ _ _) q_X10_countKudos rfl rfl wm_RX10_357 rfl rfl (by omega) (Nat.le_of_ble_eq_true rfl) am_nI (am_rI fun h4 v5 => ?_) am_eI
  exact sim_iret dX10_liked_9 rfl)
theorem q_X10_liked : am_Cal m_X10_liked 1 2 := ⟨am_mem 938 (w := Cond.code yX10_liked cX10_liked 2 (some .int)) (by decide +kernel) rfl, am_mem 30 (w := Cond.initialized RX10) (by decide +kernel) rfl, fun z => absurd z (by decide), fun _ => am_mem 936 (w := Cond.instanceMethod yX10_liked) (by decide +kernel) rfl, fun z => absurd z (by decide), fun _ => am_mem 937 (w := Cond.selects RX10 yX10_liked yX10_liked) (by decide +kernel) rfl, by decide +kernel, by decide +kernel, Nat.le_of_ble_eq_true rfl⟩
abbrev m_X10_news : am_M := (yX10_news, cX10_news, 4, some .int, [])
def f_X10_news_32 (rc8 : Nat × Nat → Int32 → Int32 → Int32 → am_H → am_R) (a0 : Nat × Nat) (x1 : Int32) (x3 : Int32) (s0 : Int32) (s1 : Int32) (s2 : Int32) (h : am_H) : am_R := m_bI (f_X10_with s2 s1 s0 h) fun h7 v8 => rc8 a0 x1 v8 (x3 + 1) h7
theorem t_X10_news_32 (d : Nat) (hd : 7 ≤ d) (rc8 : Nat × Nat → Int32 → Int32 → Int32 → am_H → am_R) (hrc8 : ∀ a0 x1 x2 x3 h, Sim m_X10_news d 8 [some (.inr (.inr (some a0))), some (.inl x1), some (.inl x2), some (.inl x3)] [] h (rc8 a0 x1 x2 x3 h)) (a0 : Nat × Nat) (x1 : Int32) (x3 : Int32) (s0 : Int32) (s1 : Int32) (s2 : Int32) (h : am_H) : Sim m_X10_news d 32 [some (.inr (.inr (some a0))), some (.inl x1), none, some (.inl x3)] [.inl s0, .inl s1, .inl s2] h (f_X10_news_32 rc8 a0 x1 x3 s0 s1 s2 h) := by
  unfold f_X10_news_32
  refine sim_static (d - 1) dX10_news_32 (k_X10_with (d - 1) (by omega) _ _ _ _) q_X10_with wm_RX10_95 rfl rfl (by omega) (Nat.le_of_ble_eq_true rfl) am_nI (am_rI fun h7 v8 => ?_) am_eI
  refine sim_istore_n dX10_news_35 (Nat.le_of_ble_eq_true rfl) ?_
  refine sim_iinc (1) dX10_news_36 rfl (by decide +kernel) (Nat.le_of_ble_eq_true rfl) ?_
  refine sim_goto 8 dX10_news_39 (by decide) ?_
  exact sim_lv (am_leS (am_leS (am_leS (am_leS am_leT)))) (hrc8 _ _ _ _ _)
def f_X10_news_8  : Nat → Nat × Nat → Int32 → Int32 → Int32 → am_H → am_R
  | 0, _, _, _, _, _ => none
  | n + 1, a0, x1, x2, x3, h => m_gI (some a0) 10 4 h fun v3 => if v3 ≤ x3 then (m_ri h x2) else (m_ao (some a0) 10 fun a6 => m_bI (f_X10_newChapters a6 x1 x3 h) fun h4 v5 => if v5 = 0 then (f_X10_news_32 (f_X10_news_8  n) a0 x1 x3 (0 : Int32) x3 x2 h4) else (f_X10_news_32 (f_X10_news_8  n) a0 x1 x3 (1 : Int32) x3 x2 h4))
theorem t_X10_news_8 (d : Nat) (hd : 7 ≤ d)  : ∀ (n : Nat) (a0 : Nat × Nat) (x1 : Int32) (x2 : Int32) (x3 : Int32) (h : am_H), Sim m_X10_news d 8 [some (.inr (.inr (some a0))), some (.inl x1), some (.inl x2), some (.inl x3)] [] h (f_X10_news_8  n a0 x1 x2 x3 h) := by
  intro n
  induction n with
  | zero => intros; exact sim_none
  | succ n hrc8 =>
    intro a0 x1 x2 x3 h
    rw [f_X10_news_8]
    refine sim_iload_n dX10_news_8 rfl ?_
    refine sim_aload_n dX10_news_9 rfl ?_
    refine sim_gI 10 4 dX10_news_10 rfl wf_RX10_104 (Nat.le_of_ble_eq_true rfl) rfl (fun v3 => ?_)
    refine sim_ic_ge 42 dX10_news_13 (by decide) (fun c => ?_) (fun c => ?_)
    · refine sim_iload_n dX10_news_42 rfl ?_
      exact sim_iret dX10_news_43 rfl
    · refine sim_iload_n dX10_news_16 rfl ?_
      refine sim_iload_n dX10_news_17 rfl ?_
      refine sim_aload_n dX10_news_18 rfl ?_
      refine sim_iload_n dX10_news_19 rfl ?_
      refine sim_iload_n dX10_news_20 rfl ?_
      refine sim_ao2 (fun a6 e => ?_)
      refine sim_virt (d - 1) e dX10_news_21 (k_X10_newChapters (d - 1) (by omega) _ _ _ _) q_X10_newChapters rfl rfl wm_RX10_370 rfl rfl (by omega) (Nat.le_of_ble_eq_true rfl) am_nI (am_rI fun h4 v5 => ?_) am_eI
      refine sim_if_eq 31 dX10_news_24 (by decide) (fun c => ?_) (fun c => ?_)
      · refine sim_iconst (0) dX10_news_31 (by decide +kernel) ?_
        exact sim_lv (am_leS (am_leS (am_leN (am_leS am_leT)))) (t_X10_news_32 d (by omega) _ hrc8 _ _ _ _ _ _ _)
      · refine sim_iconst (1) dX10_news_27 (by decide +kernel) ?_
        refine sim_goto 32 dX10_news_28 (by decide) ?_
        exact sim_lv (am_leS (am_leS (am_leN (am_leS am_leT)))) (t_X10_news_32 d (by omega) _ hrc8 _ _ _ _ _ _ _)
def f_X10_news (a0 : Nat × Nat) (x1 : Int32) (h : am_H) : am_R := m_bV (f_X10_checkPerson x1 h) fun h1 => f_X10_news_8 5000 a0 x1 (0 : Int32) (0 : Int32) h1
theorem k_X10_news (d : Nat) (hd : 7 ≤ d) (a0 : Nat × Nat) (x1 : Int32) (h : am_H) : am_Con m_X10_news d [.inr (.inr (some a0)), .inl x1] h (f_X10_news a0 x1 h) := am_con (by decide +kernel) (Nat.le_of_ble_eq_true rfl) (by
  unfold f_X10_news
  refine sim_iload_n dX10_news_0 rfl ?_
  refine sim_static (d - 1) dX10_news_1 (k_X10_checkPerson (d - 1) (by omega) _ _) q_X10_checkPerson wm_RX10_82 rfl rfl (by omega) (Nat.le_of_ble_eq_true rfl) am_nV (am_rV fun h1 => ?_) am_eV
  refine sim_iconst (0) dX10_news_4 (by decide +kernel) ?_
  refine sim_istore_n dX10_news_5 (Nat.le_of_ble_eq_true rfl) ?_
  refine sim_iconst (0) dX10_news_6 (by decide +kernel) ?_
  refine sim_istore_n dX10_news_7 (Nat.le_of_ble_eq_true rfl) ?_
  exact sim_lv (am_leS (am_leS (am_leS (am_leS am_leT)))) (t_X10_news_8 d (by omega) _ _ _ _ _ _))
theorem q_X10_news : am_Cal m_X10_news 1 2 := ⟨am_mem 946 (w := Cond.code yX10_news cX10_news 4 (some .int)) (by decide +kernel) rfl, am_mem 30 (w := Cond.initialized RX10) (by decide +kernel) rfl, fun z => absurd z (by decide), fun _ => am_mem 944 (w := Cond.instanceMethod yX10_news) (by decide +kernel) rfl, fun z => absurd z (by decide), fun _ => am_mem 945 (w := Cond.selects RX10 yX10_news yX10_news) (by decide +kernel) rfl, by decide +kernel, by decide +kernel, Nat.le_of_ble_eq_true rfl⟩
abbrev m_X10_reads : am_M := (yX10_reads, cX10_reads, 7, some .int, [])
def f_X10_reads_57 (rc16 : Nat × Nat → Int32 → Int32 → Option (Nat × Nat) → Int32 → Int32 → am_H → am_R) (a0 : Nat × Nat) (x1 : Int32) (x2 : Int32) (x3 : Option (Nat × Nat)) (x4 : Int32) (x5 : Int32) (h : am_H) : am_R := rc16 a0 x1 x2 x3 x4 (x5 + 1) h
theorem t_X10_reads_57 (d : Nat) (hd : 8 ≤ d) (rc16 : Nat × Nat → Int32 → Int32 → Option (Nat × Nat) → Int32 → Int32 → am_H → am_R) (hrc16 : ∀ a0 x1 x2 x3 x4 x5 h, Sim m_X10_reads d 16 [some (.inr (.inr (some a0))), some (.inl x1), some (.inl x2), some (.inr (.inr x3)), some (.inl x4), some (.inl x5), none] [] h (rc16 a0 x1 x2 x3 x4 x5 h)) (a0 : Nat × Nat) (x1 : Int32) (x2 : Int32) (x3 : Option (Nat × Nat)) (x4 : Int32) (x5 : Int32) (h : am_H) : Sim m_X10_reads d 57 [some (.inr (.inr (some a0))), some (.inl x1), some (.inl x2), some (.inr (.inr x3)), some (.inl x4), some (.inl x5), none] [] h (f_X10_reads_57 rc16 a0 x1 x2 x3 x4 x5 h) := by
  unfold f_X10_reads_57
  refine sim_iinc (1) dX10_reads_57 rfl (by decide +kernel) (Nat.le_of_ble_eq_true rfl) ?_
  refine sim_goto 16 dX10_reads_60 (by decide) ?_
  exact sim_lv (am_leS (am_leS (am_leS (am_leS (am_leS (am_leS (am_leN am_leT))))))) (hrc16 _ _ _ _ _ _ _)
def f_X10_reads_16  : Nat → Nat × Nat → Int32 → Int32 → Option (Nat × Nat) → Int32 → Int32 → am_H → am_R
  | 0, _, _, _, _, _, _, _ => none
  | n + 1, a0, x1, x2, x3, x4, x5, h => m_gI (some a0) 10 12 h fun v6 => if v6 ≤ x5 then (m_ri h x4) else (m_gR (some a0) 10 11 h fun o7 => m_aR o7 7 x5 h fun o8 => m_gI o8 1 0 h fun v9 => if v9 = x1 then (m_ao (some a0) 10 fun a12 => m_bI (f_X10_isReadBy a12 x2 o8 x3 h) fun h10 v11 => if v11 = 0 then (f_X10_reads_57 (f_X10_reads_16  n) a0 x1 x2 x3 x4 x5 h10) else (f_X10_reads_57 (f_X10_reads_16  n) a0 x1 x2 x3 (x4 + 1) x5 h10)) else (f_X10_reads_57 (f_X10_reads_16  n) a0 x1 x2 x3 x4 x5 h))
theorem t_X10_reads_16 (d : Nat) (hd : 8 ≤ d)  : ∀ (n : Nat) (a0 : Nat × Nat) (x1 : Int32) (x2 : Int32) (x3 : Option (Nat × Nat)) (x4 : Int32) (x5 : Int32) (h : am_H), Sim m_X10_reads d 16 [some (.inr (.inr (some a0))), some (.inl x1), some (.inl x2), some (.inr (.inr x3)), some (.inl x4), some (.inl x5), none] [] h (f_X10_reads_16  n a0 x1 x2 x3 x4 x5 h) := by
  intro n
  induction n with
  | zero => intros; exact sim_none
  | succ n hrc16 =>
    intro a0 x1 x2 x3 x4 x5 h
    rw [f_X10_reads_16]
    refine sim_iload dX10_reads_16 rfl ?_
    refine sim_aload_n dX10_reads_18 rfl ?_
    refine sim_gI 10 12 dX10_reads_19 rfl wf_RX10_327 (Nat.le_of_ble_eq_true rfl) rfl (fun v6 => ?_)
    refine sim_ic_ge 63 dX10_reads_22 (by decide) (fun c => ?_) (fun c => ?_)
    · refine sim_iload dX10_reads_63 rfl ?_
      exact sim_iret dX10_reads_65 rfl
    · refine sim_aload_n dX10_reads_25 rfl ?_
      refine sim_gR 10 11 dX10_reads_26 rfl wf_RX10_61 (Nat.le_of_ble_eq_true rfl) rfl (fun o7 => ?_)
      refine sim_iload dX10_reads_29 rfl ?_
      refine sim_aR 7 rfl dX10_reads_31 (fun o8 => ?_)
      refine sim_astore dX10_reads_32 (Nat.le_of_ble_eq_true rfl) ?_
      refine sim_aload dX10_reads_34 rfl ?_
      refine sim_gI 1 0 dX10_reads_36 rfl wf_RX10_322 (Nat.le_of_ble_eq_true rfl) rfl (fun v9 => ?_)
      refine sim_iload_n dX10_reads_39 rfl ?_
      refine sim_ic_ne 57 dX10_reads_40 (by decide) (fun c => ?_) (fun c => ?_)
      · exact sim_lv (am_leS (am_leS (am_leS (am_leS (am_leS (am_leS (am_leN am_leT))))))) (t_X10_reads_57 d (by omega) _ hrc16 _ _ _ _ _ _ _)
      · refine sim_aload_n dX10_reads_43 rfl ?_
        refine sim_iload_n dX10_reads_44 rfl ?_
        refine sim_aload dX10_reads_45 rfl ?_
        refine sim_aload_n dX10_reads_47 rfl ?_
        refine sim_ao3 (fun a12 e => ?_)
        refine sim_virt (d - 1) e dX10_reads_48 (k_X10_isReadBy (d - 1) (by omega) _ _ _ _ _) q_X10_isReadBy rfl rfl wm_RX10_348 rfl rfl (by omega) (Nat.le_of_ble_eq_true rfl) am_nI (am_rI fun h10 v11 => ?_) am_eI
        refine sim_if_eq 57 dX10_reads_51 (by decide) (fun c => ?_) (fun c => ?_)
        · exact sim_lv (am_leS (am_leS (am_leS (am_leS (am_leS (am_leS (am_leN am_leT))))))) (t_X10_reads_57 d (by omega) _ hrc16 _ _ _ _ _ _ _)
        · refine sim_iinc (1) dX10_reads_54 rfl (by decide +kernel) (Nat.le_of_ble_eq_true rfl) ?_
          exact sim_lv (am_leS (am_leS (am_leS (am_leS (am_leS (am_leS (am_leN am_leT))))))) (t_X10_reads_57 d (by omega) _ hrc16 _ _ _ _ _ _ _)
def f_X10_reads (a0 : Nat × Nat) (x1 : Int32) (x2 : Int32) (h : am_H) : am_R := m_ao (some a0) 10 fun a3 => m_bR (f_X10_workAt a3 x1 h) fun h1 o2 => m_bV (f_X10_checkFace x2 h1) fun h4 => f_X10_reads_16 5000 a0 x1 x2 o2 (0 : Int32) (0 : Int32) h4
theorem k_X10_reads (d : Nat) (hd : 8 ≤ d) (a0 : Nat × Nat) (x1 : Int32) (x2 : Int32) (h : am_H) : am_Con m_X10_reads d [.inr (.inr (some a0)), .inl x1, .inl x2] h (f_X10_reads a0 x1 x2 h) := am_con (by decide +kernel) (Nat.le_of_ble_eq_true rfl) (by
  unfold f_X10_reads
  refine sim_aload_n dX10_reads_0 rfl ?_
  refine sim_iload_n dX10_reads_1 rfl ?_
  refine sim_ao1 (fun a3 e => ?_)
  refine sim_virt (d - 1) e dX10_reads_2 (k_X10_workAt (d - 1) (by omega) _ _ _) q_X10_workAt rfl rfl wm_RX10_112 rfl rfl (by omega) (Nat.le_of_ble_eq_true rfl) am_nR (am_rR fun h1 o2 => ?_) am_eR
  refine sim_astore_n dX10_reads_5 (Nat.le_of_ble_eq_true rfl) ?_
  refine sim_iload_n dX10_reads_6 rfl ?_
  refine sim_static (d - 1) dX10_reads_7 (k_X10_checkFace (d - 1) (by omega) _ _) q_X10_checkFace wm_RX10_99 rfl rfl (by omega) (Nat.le_of_ble_eq_true rfl) am_nV (am_rV fun h4 => ?_) am_eV
  refine sim_iconst (0) dX10_reads_10 (by decide +kernel) ?_
  refine sim_istore dX10_reads_11 (Nat.le_of_ble_eq_true rfl) ?_
  refine sim_iconst (0) dX10_reads_13 (by decide +kernel) ?_
  refine sim_istore dX10_reads_14 (Nat.le_of_ble_eq_true rfl) ?_
  exact sim_lv (am_leS (am_leS (am_leS (am_leS (am_leS (am_leS (am_leN am_leT))))))) (t_X10_reads_16 d (by omega) _ _ _ _ _ _ _ _))
theorem q_X10_reads : am_Cal m_X10_reads 2 2 := ⟨am_mem 925 (w := Cond.code yX10_reads cX10_reads 7 (some .int)) (by decide +kernel) rfl, am_mem 30 (w := Cond.initialized RX10) (by decide +kernel) rfl, fun z => absurd z (by decide), fun _ => am_mem 923 (w := Cond.instanceMethod yX10_reads) (by decide +kernel) rfl, fun z => absurd z (by decide), fun _ => am_mem 924 (w := Cond.selects RX10 yX10_reads yX10_reads) (by decide +kernel) rfl, by decide +kernel, by decide +kernel, Nat.le_of_ble_eq_true rfl⟩
abbrev m_X10_screen : am_M := (yX10_screen, cX10_screen, 5, some .boolean, [])
def f_X10_screen (a0 : Nat × Nat) (x1 : Int32) (x2 : Int32) (h : am_H) : am_R := m_ao (some a0) 10 fun a3 => m_bR (f_X10_workAt a3 x1 h) fun h1 o2 => m_gI o2 9 10 h1 fun v4 => m_pZ o2 9 10 x2 h1 fun h5 => m_rz h5 v4
theorem k_X10_screen (d : Nat) (hd : 8 ≤ d) (a0 : Nat × Nat) (x1 : Int32) (x2 : Int32) (h : am_H) : am_Con m_X10_screen d [.inr (.inr (some a0)), .inl x1, .inl x2] h (f_X10_screen a0 x1 x2 h) := am_con (by decide +kernel) (Nat.le_of_ble_eq_true rfl) (by
  unfold f_X10_screen
  refine sim_aload_n dX10_screen_0 rfl ?_
  refine sim_iload_n dX10_screen_1 rfl ?_
  refine sim_ao1 (fun a3 e => ?_)
  refine sim_virt (d - 1) e dX10_screen_2 (k_X10_workAt (d - 1) (by omega) _ _ _) q_X10_workAt rfl rfl wm_RX10_112 rfl rfl (by omega) (Nat.le_of_ble_eq_true rfl) am_nR (am_rR fun h1 o2 => ?_) am_eR
  refine sim_astore_n dX10_screen_5 (Nat.le_of_ble_eq_true rfl) ?_
  refine sim_aload_n dX10_screen_6 rfl ?_
  refine sim_gI 9 10 dX10_screen_7 rfl wf_RX10_315 (Nat.le_of_ble_eq_true rfl) rfl (fun v4 => ?_)
  refine sim_istore dX10_screen_10 (Nat.le_of_ble_eq_true rfl) ?_
  refine sim_aload_n dX10_screen_12 rfl ?_
  refine sim_iload_n dX10_screen_13 rfl ?_
  refine sim_pZ 9 10 dX10_screen_14 rfl wf_RX10_315 (Nat.le_of_ble_eq_true rfl) rfl (Or.inl rfl) rfl (fun h5 => ?_)
  refine sim_iload dX10_screen_17 rfl ?_
  exact sim_zret dX10_screen_19 rfl)
theorem q_X10_screen : am_Cal m_X10_screen 2 2 := ⟨am_mem 858 (w := Cond.code yX10_screen cX10_screen 5 (some .boolean)) (by decide +kernel) rfl, am_mem 30 (w := Cond.initialized RX10) (by decide +kernel) rfl, fun z => absurd z (by decide), fun _ => am_mem 856 (w := Cond.instanceMethod yX10_screen) (by decide +kernel) rfl, fun z => absurd z (by decide), fun _ => am_mem 857 (w := Cond.selects RX10 yX10_screen yX10_screen) (by decide +kernel) rfl, by decide +kernel, by decide +kernel, Nat.le_of_ble_eq_true rfl⟩
abbrev m_X10_subscribe : am_M := (yX10_subscribe, cX10_subscribe, 7, some .boolean, [])
def f_X10_subscribe_87  (s0 : Int32) (h : am_H) : am_R := m_rz h s0
theorem t_X10_subscribe_87 (d : Nat) (hd : 7 ≤ d)  (s0 : Int32) (h : am_H) : Sim m_X10_subscribe d 87 [none, none, none, none, none, none, none] [.inl s0] h (f_X10_subscribe_87  s0 h) := by
  unfold f_X10_subscribe_87
  exact sim_zret dX10_subscribe_87 rfl
def f_X10_subscribe_77  (x6 : Int32) (h : am_H) : am_R := if x6 = 0 then (f_X10_subscribe_87 (1 : Int32) h) else (f_X10_subscribe_87 (0 : Int32) h)
theorem t_X10_subscribe_77 (d : Nat) (hd : 7 ≤ d)  (x6 : Int32) (h : am_H) : Sim m_X10_subscribe d 77 [none, none, none, none, none, none, some (.inl x6)] [] h (f_X10_subscribe_77  x6 h) := by
  unfold f_X10_subscribe_77
  refine sim_iload dX10_subscribe_77 rfl ?_
  refine sim_if_ne 86 dX10_subscribe_79 (by decide) (fun c => ?_) (fun c => ?_)
  · refine sim_iconst (0) dX10_subscribe_86 (by decide +kernel) ?_
    exact sim_lv (am_leN (am_leN (am_leN (am_leN (am_leN (am_leN (am_leN am_leT))))))) (t_X10_subscribe_87 d (by omega) _ _)
  · refine sim_iconst (1) dX10_subscribe_82 (by decide +kernel) ?_
    refine sim_goto 87 dX10_subscribe_83 (by decide) ?_
    exact sim_lv (am_leN (am_leN (am_leN (am_leN (am_leN (am_leN (am_leN am_leT))))))) (t_X10_subscribe_87 d (by omega) _ _)
def f_X10_subscribe_62  (a0 : Nat × Nat) (x3 : Int32) (x5 : Option (Nat × Nat)) (s0 : Int32) (h : am_H) : am_R := if s0 = 0 then (m_gI (some a0) 10 0 h fun v13 => m_sI x5 x3 v13 h fun h14 => f_X10_subscribe_77 s0 h14) else (f_X10_subscribe_77 s0 h)
theorem t_X10_subscribe_62 (d : Nat) (hd : 7 ≤ d)  (a0 : Nat × Nat) (x3 : Int32) (x5 : Option (Nat × Nat)) (s0 : Int32) (h : am_H) : Sim m_X10_subscribe d 62 [some (.inr (.inr (some a0))), none, none, some (.inl x3), none, some (.inr (.inr x5)), none] [.inl s0] h (f_X10_subscribe_62  a0 x3 x5 s0 h) := by
  unfold f_X10_subscribe_62
  refine sim_istore dX10_subscribe_62 (Nat.le_of_ble_eq_true rfl) ?_
  refine sim_iload dX10_subscribe_64 rfl ?_
  refine sim_if_ne 77 dX10_subscribe_66 (by decide) (fun c => ?_) (fun c => ?_)
  · exact sim_lv (am_leN (am_leN (am_leN (am_leN (am_leN (am_leN (am_leS am_leT))))))) (t_X10_subscribe_77 d (by omega) _ _)
  · refine sim_aload dX10_subscribe_69 rfl ?_
    refine sim_iload_n dX10_subscribe_71 rfl ?_
    refine sim_aload_n dX10_subscribe_72 rfl ?_
    refine sim_gI 10 0 dX10_subscribe_73 rfl wf_RX10_73 (Nat.le_of_ble_eq_true rfl) rfl (fun v13 => ?_)
    refine sim_sI dX10_subscribe_76 (fun h14 => ?_)
    exact sim_lv (am_leN (am_leN (am_leN (am_leN (am_leN (am_leN (am_leS am_leT))))))) (t_X10_subscribe_77 d (by omega) _ _)
def f_X10_subscribe_45  (a0 : Nat × Nat) (x3 : Int32) (s0 : Option (Nat × Nat)) (h : am_H) : am_R := m_aI s0 0 x3 h fun v12 => if v12 = (2001 : Int32) then (f_X10_subscribe_62 a0 x3 s0 (0 : Int32) h) else (f_X10_subscribe_62 a0 x3 s0 (1 : Int32) h)
theorem t_X10_subscribe_45 (d : Nat) (hd : 7 ≤ d)  (a0 : Nat × Nat) (x3 : Int32) (s0 : Option (Nat × Nat)) (h : am_H) : Sim m_X10_subscribe d 45 [some (.inr (.inr (some a0))), none, none, some (.inl x3), none, none, none] [.inr (.inr s0)] h (f_X10_subscribe_45  a0 x3 s0 h) := by
  unfold f_X10_subscribe_45
  refine sim_astore dX10_subscribe_45 (Nat.le_of_ble_eq_true rfl) ?_
  refine sim_aload dX10_subscribe_47 rfl ?_
  refine sim_iload_n dX10_subscribe_49 rfl ?_
  refine sim_aI dX10_subscribe_50 (fun v12 => ?_)
  refine sim_sipush (2001) dX10_subscribe_51 (by decide +kernel) ?_
  refine sim_ic_eq 61 dX10_subscribe_54 (by decide) (fun c => ?_) (fun c => ?_)
  · refine sim_iconst (0) dX10_subscribe_61 (by decide +kernel) ?_
    exact sim_lv (am_leS (am_leN (am_leN (am_leS (am_leN (am_leS (am_leN am_leT))))))) (t_X10_subscribe_62 d (by omega) _ _ _ _ _)
  · refine sim_iconst (1) dX10_subscribe_57 (by decide +kernel) ?_
    refine sim_goto 62 dX10_subscribe_58 (by decide) ?_
    exact sim_lv (am_leS (am_leN (am_leN (am_leS (am_leN (am_leS (am_leN am_leT))))))) (t_X10_subscribe_62 d (by omega) _ _ _ _ _)
def f_X10_subscribe_20  (a0 : Nat × Nat) (x1 : Int32) (x2 : Int32) (x3 : Int32) (h : am_H) : am_R := m_gR (some a0) 10 2 h fun o8 => m_aR o8 4 x1 h fun o9 => if x2 = 0 then (m_gR o9 3 1 h fun o10 => f_X10_subscribe_45 a0 x3 o10 h) else (m_gR o9 3 2 h fun o11 => f_X10_subscribe_45 a0 x3 o11 h)
theorem t_X10_subscribe_20 (d : Nat) (hd : 7 ≤ d)  (a0 : Nat × Nat) (x1 : Int32) (x2 : Int32) (x3 : Int32) (h : am_H) : Sim m_X10_subscribe d 20 [some (.inr (.inr (some a0))), some (.inl x1), some (.inl x2), some (.inl x3), none, none, none] [] h (f_X10_subscribe_20  a0 x1 x2 x3 h) := by
  unfold f_X10_subscribe_20
  refine sim_aload_n dX10_subscribe_20 rfl ?_
  refine sim_gR 10 2 dX10_subscribe_21 rfl wf_RX10_15 (Nat.le_of_ble_eq_true rfl) rfl (fun o8 => ?_)
  refine sim_iload_n dX10_subscribe_24 rfl ?_
  refine sim_aR 4 rfl dX10_subscribe_25 (fun o9 => ?_)
  refine sim_astore dX10_subscribe_26 (Nat.le_of_ble_eq_true rfl) ?_
  refine sim_iload_n dX10_subscribe_28 rfl ?_
  refine sim_if_eq 40 dX10_subscribe_29 (by decide) (fun c => ?_) (fun c => ?_)
  · refine sim_aload dX10_subscribe_40 rfl ?_
    refine sim_gR 3 1 dX10_subscribe_42 rfl wf_RX10_367 (Nat.le_of_ble_eq_true rfl) rfl (fun o10 => ?_)
    exact sim_lv (am_leS (am_leN (am_leN (am_leS (am_leN (am_leN (am_leN am_leT))))))) (t_X10_subscribe_45 d (by omega) _ _ _ _)
  · refine sim_aload dX10_subscribe_32 rfl ?_
    refine sim_gR 3 2 dX10_subscribe_34 rfl wf_RX10_364 (Nat.le_of_ble_eq_true rfl) rfl (fun o11 => ?_)
    refine sim_goto 45 dX10_subscribe_37 (by decide) ?_
    exact sim_lv (am_leS (am_leN (am_leN (am_leS (am_leN (am_leN (am_leN am_leT))))))) (t_X10_subscribe_45 d (by omega) _ _ _ _)
def f_X10_subscribe (a0 : Nat × Nat) (x1 : Int32) (x2 : Int32) (x3 : Int32) (h : am_H) : am_R := m_bV (f_X10_checkPerson x1 h) fun h1 => if x2 = 0 then (m_ao (some a0) 10 fun a5 => m_bV (f_X10_checkWork a5 x3 h1) fun h3 => f_X10_subscribe_20 a0 x1 x2 x3 h3) else (m_bV (f_X10_checkPerson x3 h1) fun h6 => f_X10_subscribe_20 a0 x1 x2 x3 h6)
theorem k_X10_subscribe (d : Nat) (hd : 7 ≤ d) (a0 : Nat × Nat) (x1 : Int32) (x2 : Int32) (x3 : Int32) (h : am_H) : am_Con m_X10_subscribe d [.inr (.inr (some a0)), .inl x1, .inl x2, .inl x3] h (f_X10_subscribe a0 x1 x2 x3 h) := am_con (by decide +kernel) (Nat.le_of_ble_eq_true rfl) (by
  unfold f_X10_subscribe
  refine sim_iload_n dX10_subscribe_0 rfl ?_
  refine sim_static (d - 1) dX10_subscribe_1 (k_X10_checkPerson (d - 1) (by omega) _ _) q_X10_checkPerson wm_RX10_82 rfl rfl (by omega) (Nat.le_of_ble_eq_true rfl) am_nV (am_rV fun h1 => ?_) am_eV
  refine sim_iload_n dX10_subscribe_4 rfl ?_
  refine sim_if_eq 15 dX10_subscribe_5 (by decide) (fun c => ?_) (fun c => ?_)
  · refine sim_aload_n dX10_subscribe_15 rfl ?_
    refine sim_iload_n dX10_subscribe_16 rfl ?_
    refine sim_ao1 (fun a5 e => ?_)
    refine sim_virt (d - 1) e dX10_subscribe_17 (k_X10_checkWork (d - 1) (by omega) _ _ _) q_X10_checkWork rfl rfl wm_RX10_361 rfl rfl (by omega) (Nat.le_of_ble_eq_true rfl) am_nV (am_rV fun h3 => ?_) am_eV
    exact sim_lv (am_leS (am_leS (am_leS (am_leS (am_leN (am_leN (am_leN am_leT))))))) (t_X10_subscribe_20 d (by omega) _ _ _ _ _)
  · refine sim_iload_n dX10_subscribe_8 rfl ?_
    refine sim_static (d - 1) dX10_subscribe_9 (k_X10_checkPerson (d - 1) (by omega) _ _) q_X10_checkPerson wm_RX10_82 rfl rfl (by omega) (Nat.le_of_ble_eq_true rfl) am_nV (am_rV fun h6 => ?_) am_eV
    refine sim_goto 20 dX10_subscribe_12 (by decide) ?_
    exact sim_lv (am_leS (am_leS (am_leS (am_leS (am_leN (am_leN (am_leN am_leT))))))) (t_X10_subscribe_20 d (by omega) _ _ _ _ _))
theorem q_X10_subscribe : am_Cal m_X10_subscribe 3 2 := ⟨am_mem 942 (w := Cond.code yX10_subscribe cX10_subscribe 7 (some .boolean)) (by decide +kernel) rfl, am_mem 30 (w := Cond.initialized RX10) (by decide +kernel) rfl, fun z => absurd z (by decide), fun _ => am_mem 940 (w := Cond.instanceMethod yX10_subscribe) (by decide +kernel) rfl, fun z => absurd z (by decide), fun _ => am_mem 941 (w := Cond.selects RX10 yX10_subscribe yX10_subscribe) (by decide +kernel) rfl, by decide +kernel, by decide +kernel, Nat.le_of_ble_eq_true rfl⟩
