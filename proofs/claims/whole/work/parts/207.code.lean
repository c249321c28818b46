abbrev m_X10_screen : am_M := (yX10_screen, cX10_screen, 5, some .boolean, [])
def f_X10_screen (a0 : Nat × Nat) (x1 : Int32) (x2 : Int32) (h : am_H) : am_R := m_ao (some a0) 10 fun a3 => m_bR (f_X10_workAt a3 x1 h) fun h1 o2 => m_gI o2 9 10 h1 fun v4 => m_pZ o2 9 10 x2 h1 fun h5 => m_rz h5 v4
theorem k_X10_screen (d : Nat) (hd : 8 ≤ d) (a0 : Nat × Nat) (x1 : Int32) (x2 : Int32) (h : am_H) : am_Con m_X10_screen d [.inr (.inr (some a0)), .inl x1, .inl x2] h (f_X10_screen a0 x1 x2 h) := am_con (by decide +kernel) (Nat.le_of_ble_eq_true rfl) (by
  unfold f_X10_screen
  refine sim_aload_n dX10_screen_0 rfl ?_
  refine sim_iload_n dX10_screen_1 rfl ?_
  refine sim_ao1 (fun a3 e => ?_)
  refine sim_virt (d - 1) e dX10_screen_2 (k_X10_workAt (d - 1) (by omega) _ _ _) q_X10_workAt rfl rfl wm_RX10_112 rfl rfl (by omega) (Nat.le_of_ble_eq_true rfl) am_nR (am_rR fun h1 o2 => ?_) am_eR
  refine sim_astore_n dX10_screen_5 (Nat.le_of_ble_eq_true rfl) ?_
  refine sim_aload_n dX10_screen_6 rfl ?_
  refine sim_gI 9 10 dX10_screen_7 rfl wf_RX10_315 (Nat.le_of_ble_eq_true rfl) rfl (fun v4 => ?_)
  refine sim_istore dX10_screen_10 (Nat.le_of_ble_eq_true rfl) ?_
  refine sim_aload_n dX10_screen_12 rfl ?_
  refine sim_iload_n dX10_screen_13 rfl ?_
  refine sim_pZ 9 10 dX10_screen_14 rfl wf_RX10_315 (Nat.le_of_ble_eq_true rfl) rfl (Or.inl rfl) rfl (fun h5 => ?_)
  refine sim_iload dX10_screen_17 rfl ?_
  exact sim_zret dX10_screen_19 rfl)
theorem q_X10_screen : am_Cal m_X10_screen 2 2 := ⟨am_mem 961 (w := Cond.code yX10_screen cX10_screen 5 (some .boolean)) (by decide +kernel) rfl, am_mem 56 (w := Cond.initialized RX10) (by decide +kernel) rfl, fun z => absurd z (by decide), fun _ => am_mem 959 (w := Cond.instanceMethod yX10_screen) (by decide +kernel) rfl, fun z => absurd z (by decide), fun _ => am_mem 960 (w := Cond.selects RX10 yX10_screen yX10_screen) (by decide +kernel) rfl, by decide +kernel, by decide +kernel, Nat.le_of_ble_eq_true rfl⟩
abbrev m_L_screen : am_M := (yL_screen, cL_screen, 5, some .int, [(0, 17, 20, 21)])
def f_L_screen_16  (s0 : Int64) (s1 : Int32) (s2 : Option (Nat × Nat)) (h : am_H) : am_R := m_sL s2 s1 s0 h fun h6 => m_ri h6 (0 : Int32)
theorem t_L_screen_16 (d : Nat) (hd : 9 ≤ d)  (s0 : Int64) (s1 : Int32) (s2 : Option (Nat × Nat)) (h : am_H) : Sim m_L_screen d 16 [none, none, none, none, none] [.inr (.inl s0), .inl s1, .inr (.inr s2)] h (f_L_screen_16  s0 s1 s2 h) := by
  unfold f_L_screen_16
  refine sim_sL dL_screen_16 (fun h6 => ?_)
  refine sim_goto 24 dL_screen_17 (by decide) ?_
  refine sim_iconst (0) dL_screen_24 (by decide +kernel) ?_
  exact sim_iret dL_screen_25 rfl
def f_L_screen (x0 : Option (Nat × Nat)) (x1 : Int32) (x2 : Int32) (x3 : Option (Nat × Nat)) (h : am_H) : am_R := m_ao x0 10 fun a3 => m_bIx (f_X10_screen a3 x1 x2 h) (fun h1 v2 => if v2 = 0 then (f_L_screen_16 (0 : Int64) (0 : Int32) x3 h1) else (f_L_screen_16 (1 : Int64) (0 : Int32) x3 h1)) (fun h4 e5 => if e5 = 0 then (m_ri h4 (1 : Int32)) else none)
theorem k_L_screen (d : Nat) (hd : 9 ≤ d) (x0 : Option (Nat × Nat)) (x1 : Int32) (x2 : Int32) (x3 : Option (Nat × Nat)) (h : am_H) : am_Con m_L_screen d [.inr (.inr x0), .inl x1, .inl x2, .inr (.inr x3)] h (f_L_screen x0 x1 x2 x3 h) := am_conX (by decide +kernel) (Nat.le_of_ble_eq_true rfl) (by
  unfold f_L_screen
  refine sim_aload_n dL_screen_0 rfl ?_
  refine sim_iconst (0) dL_screen_1 (by decide +kernel) ?_
  refine sim_aload_n dL_screen_2 rfl ?_
  refine sim_iload_n dL_screen_3 rfl ?_
  refine sim_iload_n dL_screen_4 rfl ?_
  refine sim_ao2 (fun a3 e => ?_)
  refine sim_virt (d - 1) e dL_screen_5 (k_X10_screen (d - 1) (by omega) _ _ _ _) q_X10_screen rfl rfl wm_RL_103 rfl rfl (by omega) (Nat.le_of_ble_eq_true rfl) am_nIx (am_rIx fun h1 v2 => ?_) (am_eIx fun h9 k9 => ?_)
  · refine sim_if_eq 15 dL_screen_8 (by decide) (fun c => ?_) (fun c => ?_)
    · refine sim_lconst (0) dL_screen_15 (by decide +kernel) ?_
      exact sim_lv (am_leN (am_leN (am_leN (am_leN (am_leN am_leT))))) (t_L_screen_16 d (by omega) _ _ _ _)
    · refine sim_lconst (1) dL_screen_11 (by decide +kernel) ?_
      refine sim_goto 16 dL_screen_12 (by decide) ?_
      exact sim_lv (am_leN (am_leN (am_leN (am_leN (am_leN am_leT))))) (t_L_screen_16 d (by omega) _ _ _ _)
  · refine simx_case (fun cx => ?_) (fun cx => ?_)
    · subst cx
      refine simx_catch [] (0, 17, 20, 21) [] rfl ⟨by decide, by decide⟩ (by decide) wx_RL_21 wca_0 (by decide) (fun z hz => by cases hz) ?_
      refine sim_astore dL_screen_20 (Nat.le_of_ble_eq_true rfl) ?_
      refine sim_iconst (1) dL_screen_22 (by decide +kernel) ?_
      exact sim_iret dL_screen_23 rfl
    exact simx_none)
theorem q_L_screen : am_Cal m_L_screen 4 0 := ⟨am_mem 957 (w := Cond.codeWith yL_screen cL_screen 5 (some .int) [(0, 17, 20, 21)]) (by decide +kernel) rfl, am_mem 55 (w := Cond.initialized RL) (by decide +kernel) rfl, fun _ => am_mem 956 (w := Cond.static yL_screen) (by decide +kernel) rfl, fun z => absurd rfl z, fun z => absurd z (by decide), fun z => absurd z (by decide), by decide +kernel, by decide +kernel, Nat.le_of_ble_eq_true rfl⟩
abbrev m_X10_search : am_M := (yX10_search, cX10_search, 3, some .int, [])
def f_X10_search (a0 : Nat × Nat) (x1 : Int32) (x2 : Int32) (h : am_H) : am_R := m_bV (f_X10_checkFace x1 h) fun h1 => m_ao (some a0) 10 fun a5 => m_bV (f_X10_checkQuery a5 h1) fun h3 => m_ao (some a0) 10 fun a8 => m_bI (f_X10_found a8 x1 x2 h3) fun h6 v7 => m_ri h6 v7
theorem k_X10_search (d : Nat) (hd : 7 ≤ d) (a0 : Nat × Nat) (x1 : Int32) (x2 : Int32) (h : am_H) : am_Con m_X10_search d [.inr (.inr (some a0)), .inl x1, .inl x2] h (f_X10_search a0 x1 x2 h) := am_con (by decide +kernel) (Nat.le_of_ble_eq_true rfl) (by
  unfold f_X10_search
  refine sim_iload_n dX10_search_0 rfl ?_
  refine sim_static (d - 1) dX10_search_1 (k_X10_checkFace (d - 1) (by omega) _ _) q_X10_checkFace wm_RX10_99 rfl rfl (by omega) (Nat.le_of_ble_eq_true rfl) am_nV (am_rV fun h1 => ?_) am_eV
  refine sim_aload_n dX10_search_4 rfl ?_
  refine sim_ao0 (fun a5 e => ?_)
  refine sim_virt (d - 1) e dX10_search_5 (k_X10_checkQuery (d - 1) (by omega) _  _) q_X10_checkQuery rfl rfl wm_RX10_274 rfl rfl (by omega) (Nat.le_of_ble_eq_true rfl) am_nV (am_rV fun h3 => ?_) am_eV
  refine sim_aload_n dX10_search_8 rfl ?_
  refine sim_iload_n dX10_search_9 rfl ?_
  refine sim_iload_n dX10_search_10 rfl ?_
  refine sim_ao2 (fun a8 e => ?_)
  refine sim_virt (d - 1) e dX10_search_11 (k_X10_found (d - 1) (by omega) _ _ _ _) q_X10_found rfl rfl wm_RX10_277 rfl rfl (by omega) (Nat.le_of_ble_eq_true rfl) am_nI (am_rI fun h6 v7 => ?_) am_eI
  exact sim_iret dX10_search_14 rfl)
theorem q_X10_search : am_Cal m_X10_search 2 2 := ⟨am_mem 826 (w := Cond.code yX10_search cX10_search 3 (some .int)) (by decide +kernel) rfl, am_mem 56 (w := Cond.initialized RX10) (by decide +kernel) rfl, fun z => absurd z (by decide), fun _ => am_mem 824 (w := Cond.instanceMethod yX10_search) (by decide +kernel) rfl, fun z => absurd z (by decide), fun _ => am_mem 825 (w := Cond.selects RX10 yX10_search yX10_search) (by decide +kernel) rfl, by decide +kernel, by decide +kernel, Nat.le_of_ble_eq_true rfl⟩
abbrev m_L_search : am_M := (yL_search, cL_search, 5, some .int, [(0, 10, 13, 21), (0, 10, 17, 13)])
def f_L_search (x0 : Option (Nat × Nat)) (x1 : Int32) (x2 : Int32) (x3 : Option (Nat × Nat)) (h : am_H) : am_R := m_ao x0 10 fun a3 => m_bIx (f_X10_search a3 x1 x2 h) (fun h1 v2 => m_sL x3 (0 : Int32) (Int32.toInt64 v2) h1 fun h6 => m_ri h6 (0 : Int32)) (fun h4 e5 => if e5 = 0 then (m_ri h4 (1 : Int32)) else if e5 = 1 then (m_ri h4 (2 : Int32)) else none)
theorem k_L_search (d : Nat) (hd : 8 ≤ d) (x0 : Option (Nat × Nat)) (x1 : Int32) (x2 : Int32) (x3 : Option (Nat × Nat)) (h : am_H) : am_Con m_L_search d [.inr (.inr x0), .inl x1, .inl x2, .inr (.inr x3)] h (f_L_search x0 x1 x2 x3 h) := am_conX (by decide +kernel) (Nat.le_of_ble_eq_true rfl) (by
  unfold f_L_search
  refine sim_aload_n dL_search_0 rfl ?_
  refine sim_iconst (0) dL_search_1 (by decide +kernel) ?_
  refine sim_aload_n dL_search_2 rfl ?_
  refine sim_iload_n dL_search_3 rfl ?_
  refine sim_iload_n dL_search_4 rfl ?_
  refine sim_ao2 (fun a3 e => ?_)
  refine sim_virt (d - 1) e dL_search_5 (k_X10_search (d - 1) (by omega) _ _ _ _) q_X10_search rfl rfl wm_RL_90 rfl rfl (by omega) (Nat.le_of_ble_eq_true rfl) am_nIx (am_rIx fun h1 v2 => ?_) (am_eIx fun h9 k9 => ?_)
  · refine sim_i2l dL_search_8 ?_
    refine sim_sL dL_search_9 (fun h6 => ?_)
    refine sim_goto 21 dL_search_10 (by decide) ?_
    refine sim_iconst (0) dL_search_21 (by decide +kernel) ?_
    exact sim_iret dL_search_22 rfl
  · refine simx_case (fun cx => ?_) (fun cx => ?_)
    · subst cx
      refine simx_catch [] (0, 10, 13, 21) [(0, 10, 17, 13)] rfl ⟨by decide, by decide⟩ (by decide) wx_RL_21 wca_0 (by decide) (fun z hz => by cases hz) ?_
      refine sim_astore dL_search_13 (Nat.le_of_ble_eq_true rfl) ?_
      refine sim_iconst (1) dL_search_15 (by decide +kernel) ?_
      exact sim_iret dL_search_16 rfl
    refine simx_case (fun cx => ?_) (fun cx => ?_)
    · subst cx
      refine simx_catch [(0, 10, 13, 21)] (0, 10, 17, 13) [] rfl ⟨by decide, by decide⟩ (by decide) wx_RL_13 wca_1 (by decide) (fun z hz => by simp only [List.mem_cons, List.not_mem_nil, or_false] at hz; subst hz; exact ⟨by decide, 0, _, by decide, by decide, wx_RL_21⟩) ?_
      refine sim_astore dL_search_17 (Nat.le_of_ble_eq_true rfl) ?_
      refine sim_iconst (2) dL_search_19 (by decide +kernel) ?_
      exact sim_iret dL_search_20 rfl
    exact simx_none)
theorem q_L_search : am_Cal m_L_search 4 0 := ⟨am_mem 822 (w := Cond.codeWith yL_search cL_search 5 (some .int) [(0, 10, 13, 21), (0, 10, 17, 13)]) (by decide +kernel) rfl, am_mem 55 (w := Cond.initialized RL) (by decide +kernel) rfl, fun _ => am_mem 821 (w := Cond.static yL_search) (by decide +kernel) rfl, fun z => absurd rfl z, fun z => absurd z (by decide), fun z => absurd z (by decide), by decide +kernel, by decide +kernel, Nat.le_of_ble_eq_true rfl⟩
abbrev m_X10_sees : am_M := (yX10_sees, cX10_sees, 3, some .boolean, [])
def f_X10_sees (a0 : Nat × Nat) (x1 : Int32) (x2 : Int32) (h : am_H) : am_R := m_bV (f_X10_checkFace x1 h) fun h1 => m_ao (some a0) 10 fun a5 => m_bR (f_X10_workAt a5 x2 h1) fun h3 o4 => m_gI (some a0) 10 0 h3 fun v6 => m_ao o4 9 fun a9 => m_bI (f_X9_isSeenBy a9 x1 v6 h3) fun h7 v8 => m_rz h7 v8
theorem k_X10_sees (d : Nat) (hd : 8 ≤ d) (a0 : Nat × Nat) (x1 : Int32) (x2 : Int32) (h : am_H) : am_Con m_X10_sees d [.inr (.inr (some a0)), .inl x1, .inl x2] h (f_X10_sees a0 x1 x2 h) := am_con (by decide +kernel) (Nat.le_of_ble_eq_true rfl) (by
  unfold f_X10_sees
  refine sim_iload_n dX10_sees_0 rfl ?_
  refine sim_static (d - 1) dX10_sees_1 (k_X10_checkFace (d - 1) (by omega) _ _) q_X10_checkFace wm_RX10_99 rfl rfl (by omega) (Nat.le_of_ble_eq_true rfl) am_nV (am_rV fun h1 => ?_) am_eV
  refine sim_aload_n dX10_sees_4 rfl ?_
  refine sim_iload_n dX10_sees_5 rfl ?_
  refine sim_ao1 (fun a5 e => ?_)
  refine sim_virt (d - 1) e dX10_sees_6 (k_X10_workAt (d - 1) (by omega) _ _ _) q_X10_workAt rfl rfl wm_RX10_112 rfl rfl (by omega) (Nat.le_of_ble_eq_true rfl) am_nR (am_rR fun h3 o4 => ?_) am_eR
  refine sim_iload_n dX10_sees_9 rfl ?_
  refine sim_aload_n dX10_sees_10 rfl ?_
  refine sim_gI 10 0 dX10_sees_11 rfl wf_RX10_73 (Nat.le_of_ble_eq_true rfl) rfl (fun v6 => ?_)
  refine sim_ao2 (fun a9 e => ?_)
  refine sim_virt (d - 1) e dX10_sees_14 (k_X9_isSeenBy (d - 1) (by omega) _ _ _ _) q_X9_isSeenBy rfl rfl wm_RX10_173 rfl rfl (by omega) (Nat.le_of_ble_eq_true rfl) am_nI (am_rI fun h7 v8 => ?_) am_eI
  exact sim_zret dX10_sees_17 rfl)
theorem q_X10_sees : am_Cal m_X10_sees 2 2 := ⟨am_mem 646 (w := Cond.code yX10_sees cX10_sees 3 (some .boolean)) (by decide +kernel) rfl, am_mem 56 (w := Cond.initialized RX10) (by decide +kernel) rfl, fun z => absurd z (by decide), fun _ => am_mem 644 (w := Cond.instanceMethod yX10_sees) (by decide +kernel) rfl, fun z => absurd z (by decide), fun _ => am_mem 645 (w := Cond.selects RX10 yX10_sees yX10_sees) (by decide +kernel) rfl, by decide +kernel, by decide +kernel, Nat.le_of_ble_eq_true rfl⟩
abbrev m_L_sees : am_M := (yL_sees, cL_sees, 5, some .int, [(0, 17, 20, 21)])
def f_L_sees_16  (s0 : Int64) (s1 : Int32) (s2 : Option (Nat × Nat)) (h : am_H) : am_R := m_sL s2 s1 s0 h fun h6 => m_ri h6 (0 : Int32)
theorem t_L_sees_16 (d : Nat) (hd : 9 ≤ d)  (s0 : Int64) (s1 : Int32) (s2 : Option (Nat × Nat)) (h : am_H) : Sim m_L_sees d 16 [none, none, none, none, none] [.inr (.inl s0), .inl s1, .inr (.inr s2)] h (f_L_sees_16  s0 s1 s2 h) := by
  unfold f_L_sees_16
  refine sim_sL dL_sees_16 (fun h6 => ?_)
  refine sim_goto 24 dL_sees_17 (by decide) ?_
  refine sim_iconst (0) dL_sees_24 (by decide +kernel) ?_
  exact sim_iret dL_sees_25 rfl
def f_L_sees (x0 : Option (Nat × Nat)) (x1 : Int32) (x2 : Int32) (x3 : Option (Nat × Nat)) (h : am_H) : am_R := m_ao x0 10 fun a3 => m_bIx (f_X10_sees a3 x1 x2 h) (fun h1 v2 => if v2 = 0 then (f_L_sees_16 (0 : Int64) (0 : Int32) x3 h1) else (f_L_sees_16 (1 : Int64) (0 : Int32) x3 h1)) (fun h4 e5 => if e5 = 0 then (m_ri h4 (1 : Int32)) else none)
theorem k_L_sees (d : Nat) (hd : 9 ≤ d) (x0 : Option (Nat × Nat)) (x1 : Int32) (x2 : Int32) (x3 : Option (Nat × Nat)) (h : am_H) : am_Con m_L_sees d [.inr (.inr x0), .inl x1, .inl x2, .inr (.inr x3)] h (f_L_sees x0 x1 x2 x3 h) := am_conX (by decide +kernel) (Nat.le_of_ble_eq_true rfl) (by
  unfold f_L_sees
  refine sim_aload_n dL_sees_0 rfl ?_
  refine sim_iconst (0) dL_sees_1 (by decide +kernel) ?_
  refine sim_aload_n dL_sees_2 rfl ?_
  refine sim_iload_n dL_sees_3 rfl ?_
  refine sim_iload_n dL_sees_4 rfl ?_
  refine sim_ao2 (fun a3 e => ?_)
  refine sim_virt (d - 1) e dL_sees_5 (k_X10_sees (d - 1) (by omega) _ _ _ _) q_X10_sees rfl rfl wm_RL_54 rfl rfl (by omega) (Nat.le_of_ble_eq_true rfl) am_nIx (am_rIx fun h1 v2 => ?_) (am_eIx fun h9 k9 => ?_)
  · refine sim_if_eq 15 dL_sees_8 (by decide) (fun c => ?_) (fun c => ?_)
    · refine sim_lconst (0) dL_sees_15 (by decide +kernel) ?_
      exact sim_lv (am_leN (am_leN (am_leN (am_leN (am_leN am_leT))))) (t_L_sees_16 d (by omega) _ _ _ _)
    · refine sim_lconst (1) dL_sees_11 (by decide +kernel) ?_
      refine sim_goto 16 dL_sees_12 (by decide) ?_
      exact sim_lv (am_leN (am_leN (am_leN (am_leN (am_leN am_leT))))) (t_L_sees_16 d (by omega) _ _ _ _)
  · refine simx_case (fun cx => ?_) (fun cx => ?_)
    · subst cx
      refine simx_catch [] (0, 17, 20, 21) [] rfl ⟨by decide, by decide⟩ (by decide) wx_RL_21 wca_0 (by decide) (fun z hz => by cases hz) ?_
      refine sim_astore dL_sees_20 (Nat.le_of_ble_eq_true rfl) ?_
      refine sim_iconst (1) dL_sees_22 (by decide +kernel) ?_
      exact sim_iret dL_sees_23 rfl
    exact simx_none)
theorem q_L_sees : am_Cal m_L_sees 4 0 := ⟨am_mem 642 (w := Cond.codeWith yL_sees cL_sees 5 (some .int) [(0, 17, 20, 21)]) (by decide +kernel) rfl, am_mem 55 (w := Cond.initialized RL) (by decide +kernel) rfl, fun _ => am_mem 641 (w := Cond.static yL_sees) (by decide +kernel) rfl, fun z => absurd rfl z, fun z => absurd z (by decide), fun z => absurd z (by decide), by decide +kernel, by decide +kernel, Nat.le_of_ble_eq_true rfl⟩
abbrev m_X10_isWithin : am_M := (yX10_isWithin, cX10_isWithin, 2, some .boolean, [])
def f_X10_isWithin_11  (s0 : Int32) (h : am_H) : am_R := m_rz h s0
theorem t_X10_isWithin_11 (d : Nat) (hd : 0 ≤ d)  (s0 : Int32) (h : am_H) : Sim m_X10_isWithin d 11 [none, none] [.inl s0] h (f_X10_isWithin_11  s0 h) := by
  unfold f_X10_isWithin_11
  exact sim_zret dX10_isWithin_11 rfl
def f_X10_isWithin (x0 : Int32) (x1 : Int32) (h : am_H) : am_R := if (m_ushr x0 x1) = 0 then (f_X10_isWithin_11 (1 : Int32) h) else (f_X10_isWithin_11 (0 : Int32) h)
theorem k_X10_isWithin (d : Nat) (hd : 0 ≤ d) (x0 : Int32) (x1 : Int32) (h : am_H) : am_Con m_X10_isWithin d [.inl x0, .inl x1] h (f_X10_isWithin x0 x1 h) := am_con (by decide +kernel) (Nat.le_of_ble_eq_true rfl) (by
  unfold f_X10_isWithin
  refine sim_iload_n dX10_isWithin_0 rfl ?_
  refine sim_iload_n dX10_isWithin_1 rfl ?_
  refine sim_iushr dX10_isWithin_2 ?_
  refine sim_if_ne 10 dX10_isWithin_3 (by decide) (fun c => ?_) (fun c => ?_)
  · refine sim_iconst (0) dX10_isWithin_10 (by decide +kernel) ?_
    exact sim_lv (am_leN (am_leN am_leT)) (t_X10_isWithin_11 d (by omega) _ _)
  · refine sim_iconst (1) dX10_isWithin_6 (by decide +kernel) ?_
    refine sim_goto 11 dX10_isWithin_7 (by decide) ?_
    exact sim_lv (am_leN (am_leN am_leT)) (t_X10_isWithin_11 d (by omega) _ _))
theorem q_X10_isWithin : am_Cal m_X10_isWithin 2 0 := ⟨am_mem 908 (w := Cond.code yX10_isWithin cX10_isWithin 2 (some .boolean)) (by decide +kernel) rfl, am_mem 56 (w := Cond.initialized RX10) (by decide +kernel) rfl, fun _ => am_mem 907 (w := Cond.static yX10_isWithin) (by decide +kernel) rfl, fun z => absurd rfl z, fun z => absurd z (by decide), fun z => absurd z (by decide), by decide +kernel, by decide +kernel, Nat.le_of_ble_eq_true rfl⟩
abbrev m_X2_add : am_M := (yX2_add, cX2_add, 2, some .int, [])
def f_X2_add (a0 : Nat × Nat) (x1 : Option (Nat × Nat)) (h : am_H) : am_R := m_gR (some a0) 2 0 h fun o1 => m_gI (some a0) 2 1 h fun v2 => m_sR o1 8 6 v2 x1 h fun h3 => m_gI (some a0) 2 1 h3 fun v4 => m_pI (some a0) 2 1 (v4 + (1 : Int32)) h3 fun h5 => m_gI (some a0) 2 1 h5 fun v6 => m_ri h5 (v6 - (1 : Int32))
theorem k_X2_add (d : Nat) (hd : 0 ≤ d) (a0 : Nat × Nat) (x1 : Option (Nat × Nat)) (h : am_H) : am_Con m_X2_add d [.inr (.inr (some a0)), .inr (.inr x1)] h (f_X2_add a0 x1 h) := am_con (by decide +kernel) (Nat.le_of_ble_eq_true rfl) (by
  unfold f_X2_add
  refine sim_aload_n dX2_add_0 rfl ?_
  refine sim_gR 2 0 dX2_add_1 rfl wf_RX2_11 (Nat.le_of_ble_eq_true rfl) rfl (fun o1 => ?_)
  refine sim_aload_n dX2_add_4 rfl ?_
  refine sim_gI 2 1 dX2_add_5 rfl wf_RX2_24 (Nat.le_of_ble_eq_true rfl) rfl (fun v2 => ?_)
  refine sim_aload_n dX2_add_8 rfl ?_
  refine sim_sR 8 rfl dX2_add_9 (fun h3 => ?_)
  refine sim_aload_n dX2_add_10 rfl ?_
  refine sim_dup_r dX2_add_11 ?_
  refine sim_gI 2 1 dX2_add_12 rfl wf_RX2_24 (Nat.le_of_ble_eq_true rfl) rfl (fun v4 => ?_)
  refine sim_iconst (1) dX2_add_15 (by decide +kernel) ?_
  refine sim_iadd dX2_add_16 ?_
  refine sim_pI 2 1 dX2_add_17 rfl wf_RX2_24 (Nat.le_of_ble_eq_true rfl) rfl (Or.inl rfl) rfl (fun h5 => ?_)
  refine sim_aload_n dX2_add_20 rfl ?_
  refine sim_gI 2 1 dX2_add_21 rfl wf_RX2_24 (Nat.le_of_ble_eq_true rfl) rfl (fun v6 => ?_)
  refine sim_iconst (1) dX2_add_24 (by decide +kernel) ?_
  refine sim_isub dX2_add_25 ?_
  exact sim_iret dX2_add_26 rfl)
theorem q_X2_add : am_Cal m_X2_add 1 2 := ⟨am_mem 938 (w := Cond.code yX2_add cX2_add 2 (some .int)) (by decide +kernel) rfl, am_mem 61 (w := Cond.initialized RX2) (by decide +kernel) rfl, fun z => absurd z (by decide), fun _ => am_mem 936 (w := Cond.instanceMethod yX2_add) (by decide +kernel) rfl, fun z => absurd z (by decide), fun _ => am_mem 937 (w := Cond.selects RX2 yX2_add yX2_add) (by decide +kernel) rfl, by decide +kernel, by decide +kernel, Nat.le_of_ble_eq_true rfl⟩
abbrev m_X2_hasSignOf : am_M := (yX2_hasSignOf, cX2_hasSignOf, 3, some .boolean, [])
def f_X2_hasSignOf_2  : Nat → Nat × Nat → Int32 → Int32 → am_H → am_R
  | 0, _, _, _, _ => none
  | n + 1, a0, x1, x2, h => m_gI (some a0) 2 1 h fun v1 => if v1 ≤ x2 then (m_rz h (0 : Int32)) else (m_gR (some a0) 2 0 h fun o2 => m_aR o2 8 x2 h fun o3 => m_gI o3 6 0 h fun v4 => if v4 = x1 then (m_rz h (1 : Int32)) else ((f_X2_hasSignOf_2  n) a0 x1 (x2 + 1) h))
theorem t_X2_hasSignOf_2 (d : Nat) (hd : 0 ≤ d)  : ∀ (n : Nat) (a0 : Nat × Nat) (x1 : Int32) (x2 : Int32) (h : am_H), Sim m_X2_hasSignOf d 2 [some (.inr (.inr (some a0))), some (.inl x1), some (.inl x2)] [] h (f_X2_hasSignOf_2  n a0 x1 x2 h) := by
  intro n
  induction n with
  | zero => intros; exact sim_none
  | succ n hrc2 =>
    intro a0 x1 x2 h
    rw [f_X2_hasSignOf_2]
    refine sim_iload_n dX2_hasSignOf_2 rfl ?_
    refine sim_aload_n dX2_hasSignOf_3 rfl ?_
    refine sim_gI 2 1 dX2_hasSignOf_4 rfl wf_RX2_24 (Nat.le_of_ble_eq_true rfl) rfl (fun v1 => ?_)
    refine sim_ic_ge 31 dX2_hasSignOf_7 (by decide) (fun c => ?_) (fun c => ?_)
    · refine sim_iconst (0) dX2_hasSignOf_31 (by decide +kernel) ?_
      exact sim_zret dX2_hasSignOf_32 rfl
    · refine sim_aload_n dX2_hasSignOf_10 rfl ?_
      refine sim_gR 2 0 dX2_hasSignOf_11 rfl wf_RX2_11 (Nat.le_of_ble_eq_true rfl) rfl (fun o2 => ?_)
      refine sim_iload_n dX2_hasSignOf_14 rfl ?_
      refine sim_aR 8 rfl dX2_hasSignOf_15 (fun o3 => ?_)
      refine sim_gI 6 0 dX2_hasSignOf_16 rfl wf_RX2_28 (Nat.le_of_ble_eq_true rfl) rfl (fun v4 => ?_)
      refine sim_iload_n dX2_hasSignOf_19 rfl ?_
      refine sim_ic_ne 25 dX2_hasSignOf_20 (by decide) (fun c => ?_) (fun c => ?_)
      · refine sim_iinc (1) dX2_hasSignOf_25 rfl (by decide +kernel) (Nat.le_of_ble_eq_true rfl) ?_
        refine sim_goto 2 dX2_hasSignOf_28 (by decide) ?_
        exact sim_lv (am_leS (am_leS (am_leS am_leT))) (hrc2 _ _ _ _)
      · refine sim_iconst (1) dX2_hasSignOf_23 (by decide +kernel) ?_
        exact sim_zret dX2_hasSignOf_24 rfl
def f_X2_hasSignOf (a0 : Nat × Nat) (x1 : Int32) (h : am_H) : am_R := f_X2_hasSignOf_2 5000 a0 x1 (0 : Int32) h
theorem k_X2_hasSignOf (d : Nat) (hd : 0 ≤ d) (a0 : Nat × Nat) (x1 : Int32) (h : am_H) : am_Con m_X2_hasSignOf d [.inr (.inr (some a0)), .inl x1] h (f_X2_hasSignOf a0 x1 h) := am_con (by decide +kernel) (Nat.le_of_ble_eq_true rfl) (by
  unfold f_X2_hasSignOf
  refine sim_iconst (0) dX2_hasSignOf_0 (by decide +kernel) ?_
  refine sim_istore_n dX2_hasSignOf_1 (Nat.le_of_ble_eq_true rfl) ?_
  exact sim_lv (am_leS (am_leS (am_leS am_leT))) (t_X2_hasSignOf_2 d (by omega) _ _ _ _ _))
theorem q_X2_hasSignOf : am_Cal m_X2_hasSignOf 1 2 := ⟨am_mem 913 (w := Cond.code yX2_hasSignOf cX2_hasSignOf 3 (some .boolean)) (by decide +kernel) rfl, am_mem 61 (w := Cond.initialized RX2) (by decide +kernel) rfl, fun z => absurd z (by decide), fun _ => am_mem 911 (w := Cond.instanceMethod yX2_hasSignOf) (by decide +kernel) rfl, fun z => absurd z (by decide), fun _ => am_mem 912 (w := Cond.selects RX2 yX2_hasSignOf yX2_hasSignOf) (by decide +kernel) rfl, by decide +kernel, by decide +kernel, Nat.le_of_ble_eq_true rfl⟩
abbrev m_X6_init : am_M := (yX6_init, cX6_init, 5, none, [])
def f_X6_init (a0 : Nat × Nat) (x1 : Int32) (x2 : Int32) (x3 : Int32) (x4 : Int32) (h : am_H) : am_R := m_pI (some a0) 6 0 x1 h fun h1 => m_pI (some a0) 6 1 x2 h1 fun h2 => m_pI (some a0) 6 2 x3 h2 fun h3 => m_pI (some a0) 6 3 x4 h3 fun h4 => m_rt h4 none
theorem k_X6_init (d : Nat) (hd : 1 ≤ d) (a0 : Nat × Nat) (x1 : Int32) (x2 : Int32) (x3 : Int32) (x4 : Int32) (h : am_H) : am_Con m_X6_init d [.inr (.inr (some a0)), .inl x1, .inl x2, .inl x3, .inl x4] h (f_X6_init a0 x1 x2 x3 x4 h) := am_con (by decide +kernel) (Nat.le_of_ble_eq_true rfl) (by
  unfold f_X6_init
  refine sim_aload_n dX6_init_0 rfl ?_
  refine sim_obj dX6_init_1 wm_RX6_1 wobj_i wobj_c (by omega) (Nat.le_of_ble_eq_true rfl) ?_
  refine sim_aload_n dX6_init_4 rfl ?_
  refine sim_iload_n dX6_init_5 rfl ?_
  refine sim_pI 6 0 dX6_init_6 rfl wf_RX6_7 (Nat.le_of_ble_eq_true rfl) rfl (Or.inr ⟨rfl, rfl, rfl⟩) rfl (fun h1 => ?_)
  refine sim_aload_n dX6_init_9 rfl ?_
  refine sim_iload_n dX6_init_10 rfl ?_
  refine sim_pI 6 1 dX6_init_11 rfl wf_RX6_13 (Nat.le_of_ble_eq_true rfl) rfl (Or.inr ⟨rfl, rfl, rfl⟩) rfl (fun h2 => ?_)
  refine sim_aload_n dX6_init_14 rfl ?_
  refine sim_iload_n dX6_init_15 rfl ?_
  refine sim_pI 6 2 dX6_init_16 rfl wf_RX6_16 (Nat.le_of_ble_eq_true rfl) rfl (Or.inr ⟨rfl, rfl, rfl⟩) rfl (fun h3 => ?_)
  refine sim_aload_n dX6_init_19 rfl ?_
  refine sim_iload dX6_init_20 rfl ?_
  refine sim_pI 6 3 dX6_init_22 rfl wf_RX6_19 (Nat.le_of_ble_eq_true rfl) rfl (Or.inr ⟨rfl, rfl, rfl⟩) rfl (fun h4 => ?_)
  exact sim_vret dX6_init_25 rfl)
theorem q_X6_init : am_Cal m_X6_init 4 1 := ⟨am_mem 919 (w := Cond.code yX6_init cX6_init 5 none) (by decide +kernel) rfl, am_mem 76 (w := Cond.initialized RX6) (by decide +kernel) rfl, fun z => absurd z (by decide), fun _ => am_mem 918 (w := Cond.instanceMethod yX6_init) (by decide +kernel) rfl, fun _ => rfl, fun z => absurd z (by decide), by decide +kernel, by decide +kernel, Nat.le_of_ble_eq_true rfl⟩
abbrev m_X10_sign : am_M := (yX10_sign, cX10_sign, 5, some .int, [])
def f_X10_sign_76   (h : am_H) : am_R := m_ex h 2
theorem t_X10_sign_76 (d : Nat) (hd : 7 ≤ d)   (h : am_H) : Sim m_X10_sign d 76 [none, none, none, none, none] [] h (f_X10_sign_76   h) := by
  unfold f_X10_sign_76
  exact sim_throwW 2 (by decide) dX10_sign_76 dX10_sign_79 dX10_sign_80 dX10_sign_83 dX10_sign_86 wx_RX10_77 wy_2 ws_RX10_295 at_RX10_81 gd_RX10_81 (by omega) (Nat.le_of_ble_eq_true rfl)
def f_X10_sign_42   (h : am_H) : am_R := m_ex h 1
theorem t_X10_sign_42 (d : Nat) (hd : 7 ≤ d)   (h : am_H) : Sim m_X10_sign d 42 [none, none, none, none, none] [] h (f_X10_sign_42   h) := by
  unfold f_X10_sign_42
  exact sim_throwW 1 (by decide) dX10_sign_42 dX10_sign_45 dX10_sign_46 dX10_sign_49 dX10_sign_52 wx_RX10_66 wy_1 ws_RX10_289 at_RX10_70 gd_RX10_70 (by omega) (Nat.le_of_ble_eq_true rfl)
def f_X10_sign (a0 : Nat × Nat) (x1 : Int32) (x2 : Int32) (x3 : Int32) (x4 : Int32) (h : am_H) : am_R := m_bV (f_X10_checkPerson x1 h) fun h1 => m_gR (some a0) 10 7 h1 fun o3 => m_gI o3 7 0 h1 fun v4 => m_bI (f_X10_isWithin x2 v4 h1) fun h5 v6 => if v6 = 0 then (f_X10_sign_42 h5) else (m_gR (some a0) 10 7 h5 fun o7 => m_gI o7 7 0 h5 fun v8 => m_bI (f_X10_isWithin x3 v8 h5) fun h9 v10 => if v10 = 0 then (f_X10_sign_42 h9) else (m_bI (f_X10_isWithin x4 (12 : Int32) h9) fun h11 v12 => if v12 = 0 then (f_X10_sign_42 h11) else (m_gR (some a0) 10 10 h11 fun o13 => m_ao o13 2 fun a16 => m_bI (f_X2_hasSignOf a16 x1 h11) fun h14 v15 => if v15 = 0 then (m_gR (some a0) 10 10 h14 fun o17 => m_gI o17 2 1 h14 fun v18 => if v18 < (8 : Int32) then (m_gR (some a0) 10 10 h14 fun o19 => m_new 29 4 h14 fun a20 h21 => m_bW (f_X6_init a20 x1 x2 x3 x4 h21) fun h22 => m_ao o19 2 fun a26 => m_bI (f_X2_add a26 (some a20) h22) fun h24 v25 => m_ri h24 v25) else (f_X10_sign_76 h14)) else (f_X10_sign_76 h14))))
theorem k_X10_sign (d : Nat) (hd : 7 ≤ d) (a0 : Nat × Nat) (x1 : Int32) (x2 : Int32) (x3 : Int32) (x4 : Int32) (h : am_H) : am_Con m_X10_sign d [.inr (.inr (some a0)), .inl x1, .inl x2, .inl x3, .inl x4] h (f_X10_sign a0 x1 x2 x3 x4 h) := am_con (by decide +kernel) (Nat.le_of_ble_eq_true rfl) (by
  unfold f_X10_sign
  refine sim_iload_n dX10_sign_0 rfl ?_
  refine sim_static (d - 1) dX10_sign_1 (k_X10_checkPerson (d - 1) (by omega) _ _) q_X10_checkPerson wm_RX10_82 rfl rfl (by omega) (Nat.le_of_ble_eq_true rfl) am_nV (am_rV fun h1 => ?_) am_eV
  refine sim_iload_n dX10_sign_4 rfl ?_
  refine sim_aload_n dX10_sign_5 rfl ?_
  refine sim_gR 10 7 dX10_sign_6 rfl wf_RX10_34 (Nat.le_of_ble_eq_true rfl) rfl (fun o3 => ?_)
  refine sim_gI 7 0 dX10_sign_9 rfl wf_RX10_180 (Nat.le_of_ble_eq_true rfl) rfl (fun v4 => ?_)
  refine sim_static (d - 1) dX10_sign_12 (k_X10_isWithin (d - 1) (by omega) _ _ _) q_X10_isWithin wm_RX10_286 rfl rfl (by omega) (Nat.le_of_ble_eq_true rfl) am_nI (am_rI fun h5 v6 => ?_) am_eI
  refine sim_if_eq 42 dX10_sign_15 (by decide) (fun c => ?_) (fun c => ?_)
  · exact sim_lv (am_leN (am_leN (am_leN (am_leN (am_leN am_leT))))) (t_X10_sign_42 d (by omega) _)
  · refine sim_iload_n dX10_sign_18 rfl ?_
    refine sim_aload_n dX10_sign_19 rfl ?_
    refine sim_gR 10 7 dX10_sign_20 rfl wf_RX10_34 (Nat.le_of_ble_eq_true rfl) rfl (fun o7 => ?_)
    refine sim_gI 7 0 dX10_sign_23 rfl wf_RX10_180 (Nat.le_of_ble_eq_true rfl) rfl (fun v8 => ?_)
    refine sim_static (d - 1) dX10_sign_26 (k_X10_isWithin (d - 1) (by omega) _ _ _) q_X10_isWithin wm_RX10_286 rfl rfl (by omega) (Nat.le_of_ble_eq_true rfl) am_nI (am_rI fun h9 v10 => ?_) am_eI
    refine sim_if_eq 42 dX10_sign_29 (by decide) (fun c => ?_) (fun c => ?_)
    · exact sim_lv (am_leN (am_leN (am_leN (am_leN (am_leN am_leT))))) (t_X10_sign_42 d (by omega) _)
    · refine sim_iload dX10_sign_32 rfl ?_
      refine sim_bipush (12) dX10_sign_34 (by decide +kernel) ?_
      refine sim_static (d - 1) dX10_sign_36 (k_X10_isWithin (d - 1) (by omega) _ _ _) q_X10_isWithin wm_RX10_286 rfl rfl (by omega) (Nat.le_of_ble_eq_true rfl) am_nI (am_rI fun h11 v12 => ?_) am_eI
      refine sim_if_ne 53 dX10_sign_39 (by decide) (fun c => ?_) (fun c => ?_)
      · refine sim_aload_n dX10_sign_53 rfl ?_
        refine sim_gR 10 10 dX10_sign_54 rfl wf_RX10_55 (Nat.le_of_ble_eq_true rfl) rfl (fun o13 => ?_)
        refine sim_iload_n dX10_sign_57 rfl ?_
        refine sim_ao1 (fun a16 e => ?_)
        refine sim_virt (d - 1) e dX10_sign_58 (k_X2_hasSignOf (d - 1) (by omega) _ _ _) q_X2_hasSignOf rfl rfl wm_RX10_291 rfl rfl (by omega) (Nat.le_of_ble_eq_true rfl) am_nI (am_rI fun h14 v15 => ?_) am_eI
        refine sim_if_ne 76 dX10_sign_61 (by decide) (fun c => ?_) (fun c => ?_)
        · exact sim_lv (am_leN (am_leN (am_leN (am_leN (am_leN am_leT))))) (t_X10_sign_76 d (by omega) _)
        · refine sim_aload_n dX10_sign_64 rfl ?_
          refine sim_gR 10 10 dX10_sign_65 rfl wf_RX10_55 (Nat.le_of_ble_eq_true rfl) rfl (fun o17 => ?_)
          refine sim_gI 2 1 dX10_sign_68 rfl wf_RX10_294 (Nat.le_of_ble_eq_true rfl) rfl (fun v18 => ?_)
          refine sim_bipush (8) dX10_sign_71 (by decide +kernel) ?_
          refine sim_ic_lt 87 dX10_sign_73 (by decide) (fun c => ?_) (fun c => ?_)
          · refine sim_aload_n dX10_sign_87 rfl ?_
            refine sim_gR 10 10 dX10_sign_88 rfl wf_RX10_55 (Nat.le_of_ble_eq_true rfl) rfl (fun o19 => ?_)
            refine sim_nw 29 6 4 dX10_sign_91 rfl rfl wc_RX10_297 wi_RX6 wz_RX6 (fun a20 h21 => ?_)
            refine sim_dup_r dX10_sign_94 ?_
            refine sim_iload_n dX10_sign_95 rfl ?_
            refine sim_iload_n dX10_sign_96 rfl ?_
            refine sim_iload_n dX10_sign_97 rfl ?_
            refine sim_iload dX10_sign_98 rfl ?_
            refine sim_ctor (d - 1) dX10_sign_100 (k_X6_init (d - 1) (by omega) _ _ _ _ _ _) q_X6_init wm_RX10_299 rfl rfl (by omega) (Nat.le_of_ble_eq_true rfl) am_nW am_xW (am_rW fun h22 => ?_)
            refine sim_ao1 (fun a26 e => ?_)
            refine sim_virt (d - 1) e dX10_sign_103 (k_X2_add (d - 1) (by omega) _ _ _) q_X2_add rfl rfl wm_RX10_302 rfl rfl (by omega) (Nat.le_of_ble_eq_true rfl) am_nI (am_rI fun h24 v25 => ?_) am_eI
            exact sim_iret dX10_sign_106 rfl
          · exact sim_lv (am_leN (am_leN (am_leN (am_leN (am_leN am_leT))))) (t_X10_sign_76 d (by omega) _)
      · exact sim_lv (am_leN (am_leN (am_leN (am_leN (am_leN am_leT))))) (t_X10_sign_42 d (by omega) _))
theorem q_X10_sign : am_Cal m_X10_sign 4 2 := ⟨am_mem 905 (w := Cond.code yX10_sign cX10_sign 5 (some .int)) (by decide +kernel) rfl, am_mem 56 (w := Cond.initialized RX10) (by decide +kernel) rfl, fun z => absurd z (by decide), fun _ => am_mem 903 (w := Cond.instanceMethod yX10_sign) (by decide +kernel) rfl, fun z => absurd z (by decide), fun _ => am_mem 904 (w := Cond.selects RX10 yX10_sign yX10_sign) (by decide +kernel) rfl, by decide +kernel, by decide +kernel, Nat.le_of_ble_eq_true rfl⟩
abbrev m_L_sign : am_M := (yL_sign, cL_sign, 7, some .int, [(0, 14, 17, 21), (0, 14, 21, 13), (0, 14, 25, 15)])
def f_L_sign (x0 : Option (Nat × Nat)) (x1 : Int32) (x2 : Int32) (x3 : Int32) (x4 : Int32) (x5 : Option (Nat × Nat)) (h : am_H) : am_R := m_ao x0 10 fun a3 => m_bIx (f_X10_sign a3 x1 x2 x3 x4 h) (fun h1 v2 => m_sL x5 (0 : Int32) (Int32.toInt64 v2) h1 fun h6 => m_ri h6 (0 : Int32)) (fun h4 e5 => if e5 = 0 then (m_ri h4 (1 : Int32)) else if e5 = 1 then (m_ri h4 (2 : Int32)) else if e5 = 2 then (m_ri h4 (3 : Int32)) else none)
theorem k_L_sign (d : Nat) (hd : 8 ≤ d) (x0 : Option (Nat × Nat)) (x1 : Int32) (x2 : Int32) (x3 : Int32) (x4 : Int32) (x5 : Option (Nat × Nat)) (h : am_H) : am_Con m_L_sign d [.inr (.inr x0), .inl x1, .inl x2, .inl x3, .inl x4, .inr (.inr x5)] h (f_L_sign x0 x1 x2 x3 x4 x5 h) := am_conX (by decide +kernel) (Nat.le_of_ble_eq_true rfl) (by
  unfold f_L_sign
  refine sim_aload dL_sign_0 rfl ?_
  refine sim_iconst (0) dL_sign_2 (by decide +kernel) ?_
  refine sim_aload_n dL_sign_3 rfl ?_
  refine sim_iload_n dL_sign_4 rfl ?_
  refine sim_iload_n dL_sign_5 rfl ?_
  refine sim_iload_n dL_sign_6 rfl ?_
  refine sim_iload dL_sign_7 rfl ?_
  refine sim_ao4 (fun a3 e => ?_)
  refine sim_virt (d - 1) e dL_sign_9 (k_X10_sign (d - 1) (by omega) _ _ _ _ _ _) q_X10_sign rfl rfl wm_RL_96 rfl rfl (by omega) (Nat.le_of_ble_eq_true rfl) am_nIx (am_rIx fun h1 v2 => ?_) (am_eIx fun h9 k9 => ?_)
  · refine sim_i2l dL_sign_12 ?_
    refine sim_sL dL_sign_13 (fun h6 => ?_)
    refine sim_goto 29 dL_sign_14 (by decide) ?_
    refine sim_iconst (0) dL_sign_29 (by decide +kernel) ?_
    exact sim_iret dL_sign_30 rfl
  · refine simx_case (fun cx => ?_) (fun cx => ?_)
    · subst cx
      refine simx_catch [] (0, 14, 17, 21) [(0, 14, 21, 13), (0, 14, 25, 15)] rfl ⟨by decide, by decide⟩ (by decide) wx_RL_21 wca_0 (by decide) (fun z hz => by cases hz) ?_
      refine sim_astore dL_sign_17 (Nat.le_of_ble_eq_true rfl) ?_
      refine sim_iconst (1) dL_sign_19 (by decide +kernel) ?_
      exact sim_iret dL_sign_20 rfl
    refine simx_case (fun cx => ?_) (fun cx => ?_)
    · subst cx
      refine simx_catch [(0, 14, 17, 21)] (0, 14, 21, 13) [(0, 14, 25, 15)] rfl ⟨by decide, by decide⟩ (by decide) wx_RL_13 wca_1 (by decide) (fun z hz => by simp only [List.mem_cons, List.not_mem_nil, or_false] at hz; subst hz; exact ⟨by decide, 0, _, by decide, by decide, wx_RL_21⟩) ?_
      refine sim_astore dL_sign_21 (Nat.le_of_ble_eq_true rfl) ?_
      refine sim_iconst (2) dL_sign_23 (by decide +kernel) ?_
      exact sim_iret dL_sign_24 rfl
    refine simx_case (fun cx => ?_) (fun cx => ?_)
    · subst cx
      refine simx_catch [(0, 14, 17, 21), (0, 14, 21, 13)] (0, 14, 25, 15) [] rfl ⟨by decide, by decide⟩ (by decide) wx_RL_15 wca_2 (by decide) (fun z hz => by
        simp only [List.mem_cons, List.not_mem_nil, or_false] at hz
        rcases hz with rfl | rfl
        · exact ⟨by decide, 0, _, by decide, by decide, wx_RL_21⟩
        · exact ⟨by decide, 1, _, by decide, by decide, wx_RL_13⟩) ?_
      refine sim_astore dL_sign_25 (Nat.le_of_ble_eq_true rfl) ?_
      refine sim_iconst (3) dL_sign_27 (by decide +kernel) ?_
      exact sim_iret dL_sign_28 rfl
    exact simx_none)
theorem q_L_sign : am_Cal m_L_sign 6 0 := ⟨am_mem 901 (w := Cond.codeWith yL_sign cL_sign 7 (some .int) [(0, 14, 17, 21), (0, 14, 21, 13), (0, 14, 25, 15)]) (by decide +kernel) rfl, am_mem 55 (w := Cond.initialized RL) (by decide +kernel) rfl, fun _ => am_mem 900 (w := Cond.static yL_sign) (by decide +kernel) rfl, fun z => absurd rfl z, fun z => absurd z (by decide), fun z => absurd z (by decide), by decide +kernel, by decide +kernel, Nat.le_of_ble_eq_true rfl⟩
abbrev m_X10_subscribe : am_M := (yX10_subscribe, cX10_subscribe, 7, some .boolean, [])
def f_X10_subscribe_87  (s0 : Int32) (h : am_H) : am_R := m_rz h s0
theorem t_X10_subscribe_87 (d : Nat) (hd : 7 ≤ d)  (s0 : Int32) (h : am_H) : Sim m_X10_subscribe d 87 [none, none, none, none, none, none, none] [.inl s0] h (f_X10_subscribe_87  s0 h) := by
  unfold f_X10_subscribe_87
  exact sim_zret dX10_subscribe_87 rfl
def f_X10_subscribe_77  (x6 : Int32) (h : am_H) : am_R := if x6 = 0 then (f_X10_subscribe_87 (1 : Int32) h) else (f_X10_subscribe_87 (0 : Int32) h)
theorem t_X10_subscribe_77 (d : Nat) (hd : 7 ≤ d)  (x6 : Int32) (h : am_H) : Sim m_X10_subscribe d 77 [none, none, none, none, none, none, some (.inl x6)] [] h (f_X10_subscribe_77  x6 h) := by
  unfold f_X10_subscribe_77
  refine sim_iload dX10_subscribe_77 rfl ?_
  refine sim_if_ne 86 dX10_subscribe_79 (by decide) (fun c => ?_) (fun c => ?_)
  · refine sim_iconst (0) dX10_subscribe_86 (by decide +kernel) ?_
    exact sim_lv (am_leN (am_leN (am_leN (am_leN (am_leN (am_leN (am_leN am_leT))))))) (t_X10_subscribe_87 d (by omega) _ _)
  · refine sim_iconst (1) dX10_subscribe_82 (by decide +kernel) ?_
    refine sim_goto 87 dX10_subscribe_83 (by decide) ?_
    exact sim_lv (am_leN (am_leN (am_leN (am_leN (am_leN (am_leN (am_leN am_leT))))))) (t_X10_subscribe_87 d (by omega) _ _)
def f_X10_subscribe_62  (a0 : Nat × Nat) (x3 : Int32) (x5 : Option (Nat × Nat)) (s0 : Int32) (h : am_H) : am_R := if s0 = 0 then (m_gI (some a0) 10 0 h fun v13 => m_sI x5 x3 v13 h fun h14 => f_X10_subscribe_77 s0 h14) else (f_X10_subscribe_77 s0 h)
theorem t_X10_subscribe_62 (d : Nat) (hd : 7 ≤ d)  (a0 : Nat × Nat) (x3 : Int32) (x5 : Option (Nat × Nat)) (s0 : Int32) (h : am_H) : Sim m_X10_subscribe d 62 [some (.inr (.inr (some a0))), none, none, some (.inl x3), none, some (.inr (.inr x5)), none] [.inl s0] h (f_X10_subscribe_62  a0 x3 x5 s0 h) := by
  unfold f_X10_subscribe_62
  refine sim_istore dX10_subscribe_62 (Nat.le_of_ble_eq_true rfl) ?_
  refine sim_iload dX10_subscribe_64 rfl ?_
  refine sim_if_ne 77 dX10_subscribe_66 (by decide) (fun c => ?_) (fun c => ?_)
  · exact sim_lv (am_leN (am_leN (am_leN (am_leN (am_leN (am_leN (am_leS am_leT))))))) (t_X10_subscribe_77 d (by omega) _ _)
  · refine sim_aload dX10_subscribe_69 rfl ?_
    refine sim_iload_n dX10_subscribe_71 rfl ?_
    refine sim_aload_n dX10_subscribe_72 rfl ?_
    refine sim_gI 10 0 dX10_subscribe_73 rfl wf_RX10_73 (Nat.le_of_ble_eq_true rfl) rfl (fun v13 => ?_)
    refine sim_sI dX10_subscribe_76 (fun h14 => ?_)
    exact sim_lv (am_leN (am_leN (am_leN (am_leN (am_leN (am_leN (am_leS am_leT))))))) (t_X10_subscribe_77 d (by omega) _ _)
def f_X10_subscribe_45  (a0 : Nat × Nat) (x3 : Int32) (s0 : Option (Nat × Nat)) (h : am_H) : am_R := m_aI s0 0 x3 h fun v12 => if v12 = (2001 : Int32) then (f_X10_subscribe_62 a0 x3 s0 (0 : Int32) h) else (f_X10_subscribe_62 a0 x3 s0 (1 : Int32) h)
theorem t_X10_subscribe_45 (d : Nat) (hd : 7 ≤ d)  (a0 : Nat × Nat) (x3 : Int32) (s0 : Option (Nat × Nat)) (h : am_H) : Sim m_X10_subscribe d 45 [some (.inr (.inr (some a0))), none, none, some (.inl x3), none, none, none] [.inr (.inr s0)] h (f_X10_subscribe_45  a0 x3 s0 h) := by
  unfold f_X10_subscribe_45
  refine sim_astore dX10_subscribe_45 (Nat.le_of_ble_eq_true rfl) ?_
  refine sim_aload dX10_subscribe_47 rfl ?_
  refine sim_iload_n dX10_subscribe_49 rfl ?_
  refine sim_aI dX10_subscribe_50 (fun v12 => ?_)
  refine sim_sipush (2001) dX10_subscribe_51 (by decide +kernel) ?_
  refine sim_ic_eq 61 dX10_subscribe_54 (by decide) (fun c => ?_) (fun c => ?_)
  · refine sim_iconst (0) dX10_subscribe_61 (by decide +kernel) ?_
    exact sim_lv (am_leS (am_leN (am_leN (am_leS (am_leN (am_leS (am_leN am_leT))))))) (t_X10_subscribe_62 d (by omega) _ _ _ _ _)
  · refine sim_iconst (1) dX10_subscribe_57 (by decide +kernel) ?_
    refine sim_goto 62 dX10_subscribe_58 (by decide) ?_
    exact sim_lv (am_leS (am_leN (am_leN (am_leS (am_leN (am_leS (am_leN am_leT))))))) (t_X10_subscribe_62 d (by omega) _ _ _ _ _)
def f_X10_subscribe_20  (a0 : Nat × Nat) (x1 : Int32) (x2 : Int32) (x3 : Int32) (h : am_H) : am_R := m_gR (some a0) 10 2 h fun o8 => m_aR o8 4 x1 h fun o9 => if x2 = 0 then (m_gR o9 3 1 h fun o10 => f_X10_subscribe_45 a0 x3 o10 h) else (m_gR o9 3 2 h fun o11 => f_X10_subscribe_45 a0 x3 o11 h)
theorem t_X10_subscribe_20 (d : Nat) (hd : 7 ≤ d)  (a0 : Nat × Nat) (x1 : Int32) (x2 : Int32) (x3 : Int32) (h : am_H) : Sim m_X10_subscribe d 20 [some (.inr (.inr (some a0))), some (.inl x1), some (.inl x2), some (.inl x3), none, none, none] [] h (f_X10_subscribe_20  a0 x1 x2 x3 h) := by
  unfold f_X10_subscribe_20
  refine sim_aload_n dX10_subscribe_20 rfl ?_
  refine sim_gR 10 2 dX10_subscribe_21 rfl wf_RX10_15 (Nat.le_of_ble_eq_true rfl) rfl (fun o8 => ?_)
  refine sim_iload_n dX10_subscribe_24 rfl ?_
  refine sim_aR 4 rfl dX10_subscribe_25 (fun o9 => ?_)
  refine sim_astore dX10_subscribe_26 (Nat.le_of_ble_eq_true rfl) ?_
  refine sim_iload_n dX10_subscribe_28 rfl ?_
  refine sim_if_eq 40 dX10_subscribe_29 (by decide) (fun c => ?_) (fun c => ?_)
  · refine sim_aload dX10_subscribe_40 rfl ?_
    refine sim_gR 3 1 dX10_subscribe_42 rfl wf_RX10_367 (Nat.le_of_ble_eq_true rfl) rfl (fun o10 => ?_)
    exact sim_lv (am_leS (am_leN (am_leN (am_leS (am_leN (am_leN (am_leN am_leT))))))) (t_X10_subscribe_45 d (by omega) _ _ _ _)
  · refine sim_aload dX10_subscribe_32 rfl ?_
    refine sim_gR 3 2 dX10_subscribe_34 rfl wf_RX10_364 (Nat.le_of_ble_eq_true rfl) rfl (fun o11 => ?_)
    refine sim_goto 45 dX10_subscribe_37 (by decide) ?_
    exact sim_lv (am_leS (am_leN (am_leN (am_leS (am_leN (am_leN (am_leN am_leT))))))) (t_X10_subscribe_45 d (by omega) _ _ _ _)
def f_X10_subscribe (a0 : Nat × Nat) (x1 : Int32) (x2 : Int32) (x3 : Int32) (h : am_H) : am_R := m_bV (f_X10_checkPerson x1 h) fun h1 => if x2 = 0 then (m_ao (some a0) 10 fun a5 => m_bV (f_X10_checkWork a5 x3 h1) fun h3 => f_X10_subscribe_20 a0 x1 x2 x3 h3) else (m_bV (f_X10_checkPerson x3 h1) fun h6 => f_X10_subscribe_20 a0 x1 x2 x3 h6)
theorem k_X10_subscribe (d : Nat) (hd : 7 ≤ d) (a0 : Nat × Nat) (x1 : Int32) (x2 : Int32) (x3 : Int32) (h : am_H) : am_Con m_X10_subscribe d [.inr (.inr (some a0)), .inl x1, .inl x2, .inl x3] h (f_X10_subscribe a0 x1 x2 x3 h) := am_con (by decide +kernel) (Nat.le_of_ble_eq_true rfl) (by
  unfold f_X10_subscribe
  refine sim_iload_n dX10_subscribe_0 rfl ?_
  refine sim_static (d - 1) dX10_subscribe_1 (k_X10_checkPerson (d - 1) (by omega) _ _) q_X10_checkPerson wm_RX10_82 rfl rfl (by omega) (Nat.le_of_ble_eq_true rfl) am_nV (am_rV fun h1 => ?_) am_eV
  refine sim_iload_n dX10_subscribe_4 rfl ?_
  refine sim_if_eq 15 dX10_subscribe_5 (by decide) (fun c => ?_) (fun c => ?_)
  · refine sim_aload_n dX10_subscribe_15 rfl ?_
    refine sim_iload_n dX10_subscribe_16 rfl ?_
    refine sim_ao1 (fun a5 e => ?_)
    refine sim_virt (d - 1) e dX10_subscribe_17 (k_X10_checkWork (d - 1) (by omega) _ _ _) q_X10_checkWork rfl rfl wm_RX10_361 rfl rfl (by omega) (Nat.le_of_ble_eq_true rfl) am_nV (am_rV fun h3 => ?_) am_eV
    exact sim_lv (am_leS (am_leS (am_leS (am_leS (am_leN (am_leN (am_leN am_leT))))))) (t_X10_subscribe_20 d (by omega) _ _ _ _ _)
  · refine sim_iload_n dX10_subscribe_8 rfl ?_
    refine sim_static (d - 1) dX10_subscribe_9 (k_X10_checkPerson (d - 1) (by omega) _ _) q_X10_checkPerson wm_RX10_82 rfl rfl (by omega) (Nat.le_of_ble_eq_true rfl) am_nV (am_rV fun h6 => ?_) am_eV
    refine sim_goto 20 dX10_subscribe_12 (by decide) ?_
    exact sim_lv (am_leS (am_leS (am_leS (am_leS (am_leN (am_leN (am_leN am_leT))))))) (t_X10_subscribe_20 d (by omega) _ _ _ _ _))
theorem q_X10_subscribe : am_Cal m_X10_subscribe 3 2 := ⟨am_mem 1063 (w := Cond.code yX10_subscribe cX10_subscribe 7 (some .boolean)) (by decide +kernel) rfl, am_mem 56 (w := Cond.initialized RX10) (by decide +kernel) rfl, fun z => absurd z (by decide), fun _ => am_mem 1061 (w := Cond.instanceMethod yX10_subscribe) (by decide +kernel) rfl, fun z => absurd z (by decide), fun _ => am_mem 1062 (w := Cond.selects RX10 yX10_subscribe yX10_subscribe) (by decide +kernel) rfl, by decide +kernel, by decide +kernel, Nat.le_of_ble_eq_true rfl⟩
abbrev m_L_subscribe : am_M := (yL_subscribe, cL_subscribe, 6, some .int, [(0, 19, 22, 21)])
def f_L_subscribe_18  (s0 : Int64) (s1 : Int32) (s2 : Option (Nat × Nat)) (h : am_H) : am_R := m_sL s2 s1 s0 h fun h6 => m_ri h6 (0 : Int32)
theorem t_L_subscribe_18 (d : Nat) (hd : 8 ≤ d)  (s0 : Int64) (s1 : Int32) (s2 : Option (Nat × Nat)) (h : am_H) : Sim m_L_subscribe d 18 [none, none, none, none, none, none] [.inr (.inl s0), .inl s1, .inr (.inr s2)] h (f_L_subscribe_18  s0 s1 s2 h) := by
  unfold f_L_subscribe_18
  refine sim_sL dL_subscribe_18 (fun h6 => ?_)
  refine sim_goto 26 dL_subscribe_19 (by decide) ?_
  refine sim_iconst (0) dL_subscribe_26 (by decide +kernel) ?_
  exact sim_iret dL_subscribe_27 rfl
def f_L_subscribe (x0 : Option (Nat × Nat)) (x1 : Int32) (x2 : Int32) (x3 : Int32) (x4 : Option (Nat × Nat)) (h : am_H) : am_R := m_ao x0 10 fun a3 => m_bIx (f_X10_subscribe a3 x1 x2 x3 h) (fun h1 v2 => if v2 = 0 then (f_L_subscribe_18 (0 : Int64) (0 : Int32) x4 h1) else (f_L_subscribe_18 (1 : Int64) (0 : Int32) x4 h1)) (fun h4 e5 => if e5 = 0 then (m_ri h4 (1 : Int32)) else none)
theorem k_L_subscribe (d : Nat) (hd : 8 ≤ d) (x0 : Option (Nat × Nat)) (x1 : Int32) (x2 : Int32) (x3 : Int32) (x4 : Option (Nat × Nat)) (h : am_H) : am_Con m_L_subscribe d [.inr (.inr x0), .inl x1, .inl x2, .inl x3, .inr (.inr x4)] h (f_L_subscribe x0 x1 x2 x3 x4 h) := am_conX (by decide +kernel) (Nat.le_of_ble_eq_true rfl) (by
  unfold f_L_subscribe
  refine sim_aload dL_subscribe_0 rfl ?_
  refine sim_iconst (0) dL_subscribe_2 (by decide +kernel) ?_
  refine sim_aload_n dL_subscribe_3 rfl ?_
  refine sim_iload_n dL_subscribe_4 rfl ?_
  refine sim_iload_n dL_subscribe_5 rfl ?_
  refine sim_iload_n dL_subscribe_6 rfl ?_
  refine sim_ao3 (fun a3 e => ?_)
  refine sim_virt (d - 1) e dL_subscribe_7 (k_X10_subscribe (d - 1) (by omega) _ _ _ _ _) q_X10_subscribe rfl rfl wm_RL_122 rfl rfl (by omega) (Nat.le_of_ble_eq_true rfl) am_nIx (am_rIx fun h1 v2 => ?_) (am_eIx fun h9 k9 => ?_)
  · refine sim_if_eq 17 dL_subscribe_10 (by decide) (fun c => ?_) (fun c => ?_)
    · refine sim_lconst (0) dL_subscribe_17 (by decide +kernel) ?_
      exact sim_lv (am_leN (am_leN (am_leN (am_leN (am_leN (am_leN am_leT)))))) (t_L_subscribe_18 d (by omega) _ _ _ _)
    · refine sim_lconst (1) dL_subscribe_13 (by decide +kernel) ?_
      refine sim_goto 18 dL_subscribe_14 (by decide) ?_
      exact sim_lv (am_leN (am_leN (am_leN (am_leN (am_leN (am_leN am_leT)))))) (t_L_subscribe_18 d (by omega) _ _ _ _)
  · refine simx_case (fun cx => ?_) (fun cx => ?_)
    · subst cx
      refine simx_catch [] (0, 19, 22, 21) [] rfl ⟨by decide, by decide⟩ (by decide) wx_RL_21 wca_0 (by decide) (fun z hz => by cases hz) ?_
      refine sim_astore dL_subscribe_22 (Nat.le_of_ble_eq_true rfl) ?_
      refine sim_iconst (1) dL_subscribe_24 (by decide +kernel) ?_
      exact sim_iret dL_subscribe_25 rfl
    exact simx_none)
theorem q_L_subscribe : am_Cal m_L_subscribe 5 0 := ⟨am_mem 1059 (w := Cond.codeWith yL_subscribe cL_subscribe 6 (some .int) [(0, 19, 22, 21)]) (by decide +kernel) rfl, am_mem 55 (w := Cond.initialized RL) (by decide +kernel) rfl, fun _ => am_mem 1058 (w := Cond.static yL_subscribe) (by decide +kernel) rfl, fun z => absurd rfl z, fun z => absurd z (by decide), fun z => absurd z (by decide), by decide +kernel, by decide +kernel, Nat.le_of_ble_eq_true rfl⟩
abbrev m_X7_add : am_M := (yX7_add, cX7_add, 1, some .int, [])
def f_X7_add (a0 : Nat × Nat) (h : am_H) : am_R := m_gR (some a0) 7 1 h fun o1 => m_gI (some a0) 7 0 h fun v2 => m_sI o1 v2 (-1 : Int32) h fun h3 => m_gI (some a0) 7 0 h3 fun v4 => m_pI (some a0) 7 0 (v4 + (1 : Int32)) h3 fun h5 => m_gI (some a0) 7 0 h5 fun v6 => m_ri h5 (v6 - (1 : Int32))
theorem k_X7_add (d : Nat) (hd : 0 ≤ d) (a0 : Nat × Nat) (h : am_H) : am_Con m_X7_add d [.inr (.inr (some a0))] h (f_X7_add a0 h) := am_con (by decide +kernel) (Nat.le_of_ble_eq_true rfl) (by
  unfold f_X7_add
  refine sim_aload_n dX7_add_0 rfl ?_
  refine sim_gR 7 1 dX7_add_1 rfl wf_RX7_9 (Nat.le_of_ble_eq_true rfl) rfl (fun o1 => ?_)
  refine sim_aload_n dX7_add_4 rfl ?_
  refine sim_gI 7 0 dX7_add_5 rfl wf_RX7_21 (Nat.le_of_ble_eq_true rfl) rfl (fun v2 => ?_)
  refine sim_iconst (-1) dX7_add_8 (by decide +kernel) ?_
  refine sim_sI dX7_add_9 (fun h3 => ?_)
  refine sim_aload_n dX7_add_10 rfl ?_
  refine sim_dup_r dX7_add_11 ?_
  refine sim_gI 7 0 dX7_add_12 rfl wf_RX7_21 (Nat.le_of_ble_eq_true rfl) rfl (fun v4 => ?_)
  refine sim_iconst (1) dX7_add_15 (by decide +kernel) ?_
  refine sim_iadd dX7_add_16 ?_
  refine sim_pI 7 0 dX7_add_17 rfl wf_RX7_21 (Nat.le_of_ble_eq_true rfl) rfl (Or.inl rfl) rfl (fun h5 => ?_)
  refine sim_aload_n dX7_add_20 rfl ?_
  refine sim_gI 7 0 dX7_add_21 rfl wf_RX7_21 (Nat.le_of_ble_eq_true rfl) rfl (fun v6 => ?_)
  refine sim_iconst (1) dX7_add_24 (by decide +kernel) ?_
  refine sim_isub dX7_add_25 ?_
  exact sim_iret dX7_add_26 rfl)
theorem q_X7_add : am_Cal m_X7_add 0 2 := ⟨am_mem 676 (w := Cond.code yX7_add cX7_add 1 (some .int)) (by decide +kernel) rfl, am_mem 57 (w := Cond.initialized RX7) (by decide +kernel) rfl, fun z => absurd z (by decide), fun _ => am_mem 674 (w := Cond.instanceMethod yX7_add) (by decide +kernel) rfl, fun z => absurd z (by decide), fun _ => am_mem 675 (w := Cond.selects RX7 yX7_add yX7_add) (by decide +kernel) rfl, by decide +kernel, by decide +kernel, Nat.le_of_ble_eq_true rfl⟩
abbrev m_X10_tag : am_M := (yX10_tag, cX10_tag, 1, some .int, [])
def f_X10_tag (a0 : Nat × Nat) (h : am_H) : am_R := m_gR (some a0) 10 7 h fun o1 => m_gI o1 7 0 h fun v2 => if v2 < (30 : Int32) then (m_gR (some a0) 10 7 h fun o3 => m_ao o3 7 fun a6 => m_bI (f_X7_add a6 h) fun h4 v5 => m_ri h4 v5) else (m_ex h 2)
theorem k_X10_tag (d : Nat) (hd : 6 ≤ d) (a0 : Nat × Nat) (h : am_H) : am_Con m_X10_tag d [.inr (.inr (some a0))] h (f_X10_tag a0 h) := am_con (by decide +kernel) (Nat.le_of_ble_eq_true rfl) (by
  unfold f_X10_tag
  refine sim_aload_n dX10_tag_0 rfl ?_
  refine sim_gR 10 7 dX10_tag_1 rfl wf_RX10_34 (Nat.le_of_ble_eq_true rfl) rfl (fun o1 => ?_)
  refine sim_gI 7 0 dX10_tag_4 rfl wf_RX10_180 (Nat.le_of_ble_eq_true rfl) rfl (fun v2 => ?_)
  refine sim_bipush (30) dX10_tag_7 (by decide +kernel) ?_
  refine sim_ic_lt 22 dX10_tag_9 (by decide) (fun c => ?_) (fun c => ?_)
  · refine sim_aload_n dX10_tag_22 rfl ?_
    refine sim_gR 10 7 dX10_tag_23 rfl wf_RX10_34 (Nat.le_of_ble_eq_true rfl) rfl (fun o3 => ?_)
    refine sim_ao0 (fun a6 e => ?_)
    refine sim_virt (d - 1) e dX10_tag_26 (k_X7_add (d - 1) (by omega) _  _) q_X7_add rfl rfl wm_RX10_185 rfl rfl (by omega) (Nat.le_of_ble_eq_true rfl) am_nI (am_rI fun h4 v5 => ?_) am_eI
    exact sim_iret dX10_tag_29 rfl
  · exact sim_throw 2 (by decide) dX10_tag_12 dX10_tag_15 dX10_tag_16 dX10_tag_18 dX10_tag_21 wx_RX10_77 wy_2 ws_RX10_183 at_RX10_81 gd_RX10_81 (by omega) (Nat.le_of_ble_eq_true rfl))
theorem q_X10_tag : am_Cal m_X10_tag 0 2 := ⟨am_mem 671 (w := Cond.code yX10_tag cX10_tag 1 (some .int)) (by decide +kernel) rfl, am_mem 56 (w := Cond.initialized RX10) (by decide +kernel) rfl, fun z => absurd z (by decide), fun _ => am_mem 669 (w := Cond.instanceMethod yX10_tag) (by decide +kernel) rfl, fun z => absurd z (by decide), fun _ => am_mem 670 (w := Cond.selects RX10 yX10_tag yX10_tag) (by decide +kernel) rfl, by decide +kernel, by decide +kernel, Nat.le_of_ble_eq_true rfl⟩
abbrev m_L_tag : am_M := (yL_tag, cL_tag, 3, some .int, [(0, 8, 11, 15)])
def f_L_tag (x0 : Option (Nat × Nat)) (x1 : Option (Nat × Nat)) (h : am_H) : am_R := m_ao x0 10 fun a3 => m_bIx (f_X10_tag a3 h) (fun h1 v2 => m_sL x1 (0 : Int32) (Int32.toInt64 v2) h1 fun h6 => m_ri h6 (0 : Int32)) (fun h4 e5 => if e5 = 2 then (m_ri h4 (1 : Int32)) else none)
theorem k_L_tag (d : Nat) (hd : 7 ≤ d) (x0 : Option (Nat × Nat)) (x1 : Option (Nat × Nat)) (h : am_H) : am_Con m_L_tag d [.inr (.inr x0), .inr (.inr x1)] h (f_L_tag x0 x1 h) := am_conX (by decide +kernel) (Nat.le_of_ble_eq_true rfl) (by
  unfold f_L_tag
  refine sim_aload_n dL_tag_0 rfl ?_
  refine sim_iconst (0) dL_tag_1 (by decide +kernel) ?_
  refine sim_aload_n dL_tag_2 rfl ?_
  refine sim_ao0 (fun a3 e => ?_)
  refine sim_virt (d - 1) e dL_tag_3 (k_X10_tag (d - 1) (by omega) _  _) q_X10_tag rfl rfl wm_RL_60 rfl rfl (by omega) (Nat.le_of_ble_eq_true rfl) am_nIx (am_rIx fun h1 v2 => ?_) (am_eIx fun h9 k9 => ?_)
  · refine sim_i2l dL_tag_6 ?_
    refine sim_sL dL_tag_7 (fun h6 => ?_)
    refine sim_goto 14 dL_tag_8 (by decide) ?_
    refine sim_iconst (0) dL_tag_14 (by decide +kernel) ?_
    exact sim_iret dL_tag_15 rfl
  · refine simx_case (fun cx => ?_) (fun cx => ?_)
    · subst cx
      refine simx_catch [] (0, 8, 11, 15) [] rfl ⟨by decide, by decide⟩ (by decide) wx_RL_15 wca_2 (by decide) (fun z hz => by cases hz) ?_
      refine sim_astore_n dL_tag_11 (Nat.le_of_ble_eq_true rfl) ?_
      refine sim_iconst (1) dL_tag_12 (by decide +kernel) ?_
      exact sim_iret dL_tag_13 rfl
    exact simx_none)
theorem q_L_tag : am_Cal m_L_tag 2 0 := ⟨am_mem 667 (w := Cond.codeWith yL_tag cL_tag 3 (some .int) [(0, 8, 11, 15)]) (by decide +kernel) rfl, am_mem 55 (w := Cond.initialized RL) (by decide +kernel) rfl, fun _ => am_mem 666 (w := Cond.static yL_tag) (by decide +kernel) rfl, fun z => absurd rfl z, fun z => absurd z (by decide), fun z => absurd z (by decide), by decide +kernel, by decide +kernel, Nat.le_of_ble_eq_true rfl⟩
abbrev m_X10_characterAt : am_M := (yX10_characterAt, cX10_characterAt, 3, some .char, [])
def f_X10_characterAt (x0 : Int64) (x2 : Int32) (h : am_H) : am_R := m_rc h (m_i2c (Int64.toInt32 ((m_lushr x0 ((8 : Int32) * x2)) &&& (255 : Int64))))
theorem k_X10_characterAt (d : Nat) (hd : 0 ≤ d) (x0 : Int64) (x2 : Int32) (h : am_H) : am_Con m_X10_characterAt d [.inr (.inl x0), .inl x2] h (f_X10_characterAt x0 x2 h) := am_con (by decide +kernel) (Nat.le_of_ble_eq_true rfl) (by
  unfold f_X10_characterAt
  refine sim_lload_n dX10_characterAt_0 rfl ?_
  refine sim_bipush (8) dX10_characterAt_1 (by decide +kernel) ?_
  refine sim_iload_n dX10_characterAt_3 rfl ?_
  refine sim_imul dX10_characterAt_4 ?_
  refine sim_lushr dX10_characterAt_5 ?_
  refine sim_ldc2 (255) dX10_characterAt_6 wl_RX10_391 ?_
  refine sim_land dX10_characterAt_9 ?_
  refine sim_l2i dX10_characterAt_10 ?_
  refine sim_i2c dX10_characterAt_11 ?_
  exact sim_cret dX10_characterAt_12 rfl)
theorem q_X10_characterAt : am_Cal m_X10_characterAt 2 0 := ⟨am_mem 807 (w := Cond.code yX10_characterAt cX10_characterAt 3 (some .char)) (by decide +kernel) rfl, am_mem 56 (w := Cond.initialized RX10) (by decide +kernel) rfl, fun _ => am_mem 806 (w := Cond.static yX10_characterAt) (by decide +kernel) rfl, fun z => absurd rfl z, fun z => absurd z (by decide), fun z => absurd z (by decide), by decide +kernel, by decide +kernel, Nat.le_of_ble_eq_true rfl⟩
abbrev m_X8_add : am_M := (yX8_add, cX8_add, 2, none, [])
def f_X8_add (a0 : Nat × Nat) (x1 : Int32) (h : am_H) : am_R := m_gR (some a0) 8 0 h fun o1 => m_gI (some a0) 8 1 h fun v2 => m_sC o1 v2 x1 h fun h3 => m_gI (some a0) 8 1 h3 fun v4 => m_pI (some a0) 8 1 (v4 + (1 : Int32)) h3 fun h5 => m_rt h5 none
theorem k_X8_add (d : Nat) (hd : 0 ≤ d) (a0 : Nat × Nat) (x1 : Int32) (h : am_H) : am_Con m_X8_add d [.inr (.inr (some a0)), .inl x1] h (f_X8_add a0 x1 h) := am_con (by decide +kernel) (Nat.le_of_ble_eq_true rfl) (by
  unfold f_X8_add
  refine sim_aload_n dX8_add_0 rfl ?_
  refine sim_gR 8 0 dX8_add_1 rfl wf_RX8_9 (Nat.le_of_ble_eq_true rfl) rfl (fun o1 => ?_)
  refine sim_aload_n dX8_add_4 rfl ?_
  refine sim_gI 8 1 dX8_add_5 rfl wf_RX8_30 (Nat.le_of_ble_eq_true rfl) rfl (fun v2 => ?_)
  refine sim_iload_n dX8_add_8 rfl ?_
  refine sim_sC dX8_add_9 (fun h3 => ?_)
  refine sim_aload_n dX8_add_10 rfl ?_
  refine sim_dup_r dX8_add_11 ?_
  refine sim_gI 8 1 dX8_add_12 rfl wf_RX8_30 (Nat.le_of_ble_eq_true rfl) rfl (fun v4 => ?_)
  refine sim_iconst (1) dX8_add_15 (by decide +kernel) ?_
  refine sim_iadd dX8_add_16 ?_
  refine sim_pI 8 1 dX8_add_17 rfl wf_RX8_30 (Nat.le_of_ble_eq_true rfl) rfl (Or.inl rfl) rfl (fun h5 => ?_)
  exact sim_vret dX8_add_20 rfl)
theorem q_X8_add : am_Cal m_X8_add 1 2 := ⟨am_mem 819 (w := Cond.code yX8_add cX8_add 2 none) (by decide +kernel) rfl, am_mem 58 (w := Cond.initialized RX8) (by decide +kernel) rfl, fun z => absurd z (by decide), fun _ => am_mem 817 (w := Cond.instanceMethod yX8_add) (by decide +kernel) rfl, fun z => absurd z (by decide), fun _ => am_mem 818 (w := Cond.selects RX8 yX8_add yX8_add) (by decide +kernel) rfl, by decide +kernel, by decide +kernel, Nat.le_of_ble_eq_true rfl⟩
abbrev m_X8_holds : am_M := (yX8_holds, cX8_holds, 1, some .boolean, [])
def f_X8_holds_49  (s0 : Int32) (h : am_H) : am_R := m_rz h s0
theorem t_X8_holds_49 (d : Nat) (hd : 1 ≤ d)  (s0 : Int32) (h : am_H) : Sim m_X8_holds d 49 [none] [.inl s0] h (f_X8_holds_49  s0 h) := by
  unfold f_X8_holds_49
  exact sim_zret dX8_holds_49 rfl
def f_X8_holds_44   (h : am_H) : am_R := f_X8_holds_49 (1 : Int32) h
theorem t_X8_holds_44 (d : Nat) (hd : 1 ≤ d)   (h : am_H) : Sim m_X8_holds d 44 [none] [] h (f_X8_holds_44   h) := by
  unfold f_X8_holds_44
  refine sim_iconst (1) dX8_holds_44 (by decide +kernel) ?_
  refine sim_goto 49 dX8_holds_45 (by decide) ?_
  exact sim_lv (am_leN am_leT) (t_X8_holds_49 d (by omega) _ _)
def f_X8_holds (x0 : Int32) (h : am_H) : am_R := m_bI (f_X4_isFigure x0 h) fun h1 v2 => if v2 = 0 then (m_bI (f_X4_figuresOf x0 h1) fun h3 v4 => if 0 < v4 then (f_X8_holds_44 h3) else (if x0 = (38 : Int32) then (f_X8_holds_44 h3) else (if x0 = (124 : Int32) then (f_X8_holds_44 h3) else (if x0 = (33 : Int32) then (f_X8_holds_44 h3) else (if x0 = (40 : Int32) then (f_X8_holds_44 h3) else (if x0 = (41 : Int32) then (f_X8_holds_44 h3) else (f_X8_holds_49 (0 : Int32) h3))))))) else (f_X8_holds_44 h1)
theorem k_X8_holds (d : Nat) (hd : 1 ≤ d) (x0 : Int32) (h : am_H) : am_Con m_X8_holds d [.inl x0] h (f_X8_holds x0 h) := am_con (by decide +kernel) (Nat.le_of_ble_eq_true rfl) (by
  unfold f_X8_holds
  refine sim_iload_n dX8_holds_0 rfl ?_
  refine sim_static (d - 1) dX8_holds_1 (k_X4_isFigure (d - 1) (by omega) _ _) q_X4_isFigure wm_RX8_22 rfl rfl (by omega) (Nat.le_of_ble_eq_true rfl) am_nI (am_rI fun h1 v2 => ?_) am_eI
  refine sim_if_ne 44 dX8_holds_4 (by decide) (fun c => ?_) (fun c => ?_)
  · exact sim_lv (am_leN am_leT) (t_X8_holds_44 d (by omega) _)
  · refine sim_iload_n dX8_holds_7 rfl ?_
    refine sim_static (d - 1) dX8_holds_8 (k_X4_figuresOf (d - 1) (by omega) _ _) q_X4_figuresOf wm_RX8_26 rfl rfl (by omega) (Nat.le_of_ble_eq_true rfl) am_nI (am_rI fun h3 v4 => ?_) am_eI
    refine sim_if_gt 44 dX8_holds_11 (by decide) (fun c => ?_) (fun c => ?_)
    · exact sim_lv (am_leN am_leT) (t_X8_holds_44 d (by omega) _)
    · refine sim_iload_n dX8_holds_14 rfl ?_
      refine sim_bipush (38) dX8_holds_15 (by decide +kernel) ?_
      refine sim_ic_eq 44 dX8_holds_17 (by decide) (fun c => ?_) (fun c => ?_)
      · exact sim_lv (am_leN am_leT) (t_X8_holds_44 d (by omega) _)
      · refine sim_iload_n dX8_holds_20 rfl ?_
        refine sim_bipush (124) dX8_holds_21 (by decide +kernel) ?_
        refine sim_ic_eq 44 dX8_holds_23 (by decide) (fun c => ?_) (fun c => ?_)
        · exact sim_lv (am_leN am_leT) (t_X8_holds_44 d (by omega) _)
        · refine sim_iload_n dX8_holds_26 rfl ?_
          refine sim_bipush (33) dX8_holds_27 (by decide +kernel) ?_
          refine sim_ic_eq 44 dX8_holds_29 (by decide) (fun c => ?_) (fun c => ?_)
          · exact sim_lv (am_leN am_leT) (t_X8_holds_44 d (by omega) _)
          · refine sim_iload_n dX8_holds_32 rfl ?_
            refine sim_bipush (40) dX8_holds_33 (by decide +kernel) ?_
            refine sim_ic_eq 44 dX8_holds_35 (by decide) (fun c => ?_) (fun c => ?_)
            · exact sim_lv (am_leN am_leT) (t_X8_holds_44 d (by omega) _)
            · refine sim_iload_n dX8_holds_38 rfl ?_
              refine sim_bipush (41) dX8_holds_39 (by decide +kernel) ?_
              refine sim_ic_ne 48 dX8_holds_41 (by decide) (fun c => ?_) (fun c => ?_)
              · refine sim_iconst (0) dX8_holds_48 (by decide +kernel) ?_
                exact sim_lv (am_leN am_leT) (t_X8_holds_49 d (by omega) _ _)
              · exact sim_lv (am_leN am_leT) (t_X8_holds_44 d (by omega) _))
theorem q_X8_holds : am_Cal m_X8_holds 1 0 := ⟨am_mem 811 (w := Cond.code yX8_holds cX8_holds 1 (some .boolean)) (by decide +kernel) rfl, am_mem 58 (w := Cond.initialized RX8) (by decide +kernel) rfl, fun _ => am_mem 810 (w := Cond.static yX8_holds) (by decide +kernel) rfl, fun z => absurd rfl z, fun z => absurd z (by decide), fun z => absurd z (by decide), by decide +kernel, by decide +kernel, Nat.le_of_ble_eq_true rfl⟩
