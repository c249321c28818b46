abbrev m_X10_merge : am_M := (yX10_merge, cX10_merge, 4, some .int, [])
def f_X10_merge_70   (h : am_H) : am_R := m_ex h 2
theorem t_X10_merge_70 (d : Nat) (hd : 7 ≤ d)   (h : am_H) : Sim m_X10_merge d 70 [none, none, none, none] [] h (f_X10_merge_70   h) := by
  unfold f_X10_merge_70
  exact sim_throw 2 (by decide) dX10_merge_70 dX10_merge_73 dX10_merge_74 dX10_merge_76 dX10_merge_79 wx_RX10_77 wy_2 ws_RX10_206 at_RX10_81 gd_RX10_81 (by omega) (Nat.le_of_ble_eq_true rfl)
def f_X10_merge (a0 : Nat × Nat) (x1 : Int32) (x2 : Int32) (h : am_H) : am_R := m_ao (some a0) 10 fun a3 => m_bV (f_X10_checkTag a3 x1 h) fun h1 => m_ao (some a0) 10 fun a6 => m_bV (f_X10_checkTag a6 x2 h1) fun h4 => if x1 = x2 then (m_ex h4 1) else (m_gR (some a0) 10 7 h4 fun o7 => m_ao o7 7 fun a10 => m_bI (f_X7_kindOf a10 x1 h4) fun h8 v9 => m_gR (some a0) 10 7 h8 fun o11 => m_ao o11 7 fun a14 => m_bI (f_X7_kindOf a14 x2 h8) fun h12 v13 => if v13 = (1 : Int32) then (m_gR (some a0) 10 7 h12 fun o15 => m_ao o15 7 fun a18 => m_bI (f_X7_isAbove a18 x1 x2 h12) fun h16 v17 => if v17 = 0 then (m_gR (some a0) 10 7 h16 fun o19 => m_ao o19 7 fun a22 => m_bI (f_X7_isAbove a22 x2 x1 h16) fun h20 v21 => if v21 = 0 then (m_gR (some a0) 10 7 h20 fun o23 => m_ao o23 7 fun a26 => m_bV (f_X7_makeAlias a26 x1 x2 h20) fun h24 => m_ao (some a0) 10 fun a29 => m_bV (f_X10_letTaggedWorksWait a29 h24) fun h27 => m_ri h27 v9) else (f_X10_merge_70 h20)) else (f_X10_merge_70 h16)) else (f_X10_merge_70 h12))
theorem k_X10_merge (d : Nat) (hd : 7 ≤ d) (a0 : Nat × Nat) (x1 : Int32) (x2 : Int32) (h : am_H) : am_Con m_X10_merge d [.inr (.inr (some a0)), .inl x1, .inl x2] h (f_X10_merge a0 x1 x2 h) := am_con (by decide +kernel) (Nat.le_of_ble_eq_true rfl) (by
  unfold f_X10_merge
  refine sim_aload_n dX10_merge_0 rfl ?_
  refine sim_iload_n dX10_merge_1 rfl ?_
  refine sim_ao1 (fun a3 e => ?_)
  refine sim_virt (d - 1) e dX10_merge_2 (k_X10_checkTag (d - 1) (by omega) _ _ _) q_X10_checkTag rfl rfl wm_RX10_189 rfl rfl (by omega) (Nat.le_of_ble_eq_true rfl) am_nV (am_rV fun h1 => ?_) am_eV
  refine sim_aload_n dX10_merge_5 rfl ?_
  refine sim_iload_n dX10_merge_6 rfl ?_
  refine sim_ao1 (fun a6 e => ?_)
  refine sim_virt (d - 1) e dX10_merge_7 (k_X10_checkTag (d - 1) (by omega) _ _ _) q_X10_checkTag rfl rfl wm_RX10_189 rfl rfl (by omega) (Nat.le_of_ble_eq_true rfl) am_nV (am_rV fun h4 => ?_) am_eV
  refine sim_iload_n dX10_merge_10 rfl ?_
  refine sim_iload_n dX10_merge_11 rfl ?_
  refine sim_ic_ne 25 dX10_merge_12 (by decide) (fun c => ?_) (fun c => ?_)
  · refine sim_aload_n dX10_merge_25 rfl ?_
    refine sim_gR 10 7 dX10_merge_26 rfl wf_RX10_34 (Nat.le_of_ble_eq_true rfl) rfl (fun o7 => ?_)
    refine sim_iload_n dX10_merge_29 rfl ?_
    refine sim_ao1 (fun a10 e => ?_)
    refine sim_virt (d - 1) e dX10_merge_30 (k_X7_kindOf (d - 1) (by omega) _ _ _) q_X7_kindOf rfl rfl wm_RX10_192 rfl rfl (by omega) (Nat.le_of_ble_eq_true rfl) am_nI (am_rI fun h8 v9 => ?_) am_eI
    refine sim_istore_n dX10_merge_33 (Nat.le_of_ble_eq_true rfl) ?_
    refine sim_aload_n dX10_merge_34 rfl ?_
    refine sim_gR 10 7 dX10_merge_35 rfl wf_RX10_34 (Nat.le_of_ble_eq_true rfl) rfl (fun o11 => ?_)
    refine sim_iload_n dX10_merge_38 rfl ?_
    refine sim_ao1 (fun a14 e => ?_)
    refine sim_virt (d - 1) e dX10_merge_39 (k_X7_kindOf (d - 1) (by omega) _ _ _) q_X7_kindOf rfl rfl wm_RX10_192 rfl rfl (by omega) (Nat.le_of_ble_eq_true rfl) am_nI (am_rI fun h12 v13 => ?_) am_eI
    refine sim_iconst (1) dX10_merge_42 (by decide +kernel) ?_
    refine sim_ic_ne 70 dX10_merge_43 (by decide) (fun c => ?_) (fun c => ?_)
    · exact sim_lv (am_leN (am_leN (am_leN (am_leN am_leT)))) (t_X10_merge_70 d (by omega) _)
    · refine sim_aload_n dX10_merge_46 rfl ?_
      refine sim_gR 10 7 dX10_merge_47 rfl wf_RX10_34 (Nat.le_of_ble_eq_true rfl) rfl (fun o15 => ?_)
      refine sim_iload_n dX10_merge_50 rfl ?_
      refine sim_iload_n dX10_merge_51 rfl ?_
      refine sim_ao2 (fun a18 e => ?_)
      refine sim_virt (d - 1) e dX10_merge_52 (k_X7_isAbove (d - 1) (by omega) _ _ _ _) q_X7_isAbove rfl rfl wm_RX10_203 rfl rfl (by omega) (Nat.le_of_ble_eq_true rfl) am_nI (am_rI fun h16 v17 => ?_) am_eI
      refine sim_if_ne 70 dX10_merge_55 (by decide) (fun c => ?_) (fun c => ?_)
      · exact sim_lv (am_leN (am_leN (am_leN (am_leN am_leT)))) (t_X10_merge_70 d (by omega) _)
      · refine sim_aload_n dX10_merge_58 rfl ?_
        refine sim_gR 10 7 dX10_merge_59 rfl wf_RX10_34 (Nat.le_of_ble_eq_true rfl) rfl (fun o19 => ?_)
        refine sim_iload_n dX10_merge_62 rfl ?_
        refine sim_iload_n dX10_merge_63 rfl ?_
        refine sim_ao2 (fun a22 e => ?_)
        refine sim_virt (d - 1) e dX10_merge_64 (k_X7_isAbove (d - 1) (by omega) _ _ _ _) q_X7_isAbove rfl rfl wm_RX10_203 rfl rfl (by omega) (Nat.le_of_ble_eq_true rfl) am_nI (am_rI fun h20 v21 => ?_) am_eI
        refine sim_if_eq 80 dX10_merge_67 (by decide) (fun c => ?_) (fun c => ?_)
        · refine sim_aload_n dX10_merge_80 rfl ?_
          refine sim_gR 10 7 dX10_merge_81 rfl wf_RX10_34 (Nat.le_of_ble_eq_true rfl) rfl (fun o23 => ?_)
          refine sim_iload_n dX10_merge_84 rfl ?_
          refine sim_iload_n dX10_merge_85 rfl ?_
          refine sim_ao2 (fun a26 e => ?_)
          refine sim_virt (d - 1) e dX10_merge_86 (k_X7_makeAlias (d - 1) (by omega) _ _ _ _) q_X7_makeAlias rfl rfl wm_RX10_208 rfl rfl (by omega) (Nat.le_of_ble_eq_true rfl) am_nV (am_rV fun h24 => ?_) am_eV
          refine sim_aload_n dX10_merge_89 rfl ?_
          refine sim_ao0 (fun a29 e => ?_)
          refine sim_virt (d - 1) e dX10_merge_90 (k_X10_letTaggedWorksWait (d - 1) (by omega) _  _) q_X10_letTaggedWorksWait rfl rfl wm_RX10_200 rfl rfl (by omega) (Nat.le_of_ble_eq_true rfl) am_nV (am_rV fun h27 => ?_) am_eV
          refine sim_iload_n dX10_merge_93 rfl ?_
          exact sim_iret dX10_merge_94 rfl
        · exact sim_lv (am_leN (am_leN (am_leN (am_leN am_leT)))) (t_X10_merge_70 d (by omega) _)
  · exact sim_throw 1 (by decide) dX10_merge_15 dX10_merge_18 dX10_merge_19 dX10_merge_21 dX10_merge_24 wx_RX10_66 wy_1 ws_RX10_86 at_RX10_70 gd_RX10_70 (by omega) (Nat.le_of_ble_eq_true rfl))
theorem q_X10_merge : am_Cal m_X10_merge 2 2 := ⟨am_mem 708 (w := Cond.code yX10_merge cX10_merge 4 (some .int)) (by decide +kernel) rfl, am_mem 56 (w := Cond.initialized RX10) (by decide +kernel) rfl, fun z => absurd z (by decide), fun _ => am_mem 706 (w := Cond.instanceMethod yX10_merge) (by decide +kernel) rfl, fun z => absurd z (by decide), fun _ => am_mem 707 (w := Cond.selects RX10 yX10_merge yX10_merge) (by decide +kernel) rfl, by decide +kernel, by decide +kernel, Nat.le_of_ble_eq_true rfl⟩
abbrev m_L_merge : am_M := (yL_merge, cL_merge, 5, some .int, [(0, 10, 13, 21), (0, 10, 17, 13), (0, 10, 21, 15)])
def f_L_merge (x0 : Option (Nat × Nat)) (x1 : Int32) (x2 : Int32) (x3 : Option (Nat × Nat)) (h : am_H) : am_R := m_ao x0 10 fun a3 => m_bIx (f_X10_merge a3 x1 x2 h) (fun h1 v2 => m_sL x3 (0 : Int32) (Int32.toInt64 v2) h1 fun h6 => m_ri h6 (0 : Int32)) (fun h4 e5 => if e5 = 0 then (m_ri h4 (1 : Int32)) else if e5 = 1 then (m_ri h4 (2 : Int32)) else if e5 = 2 then (m_ri h4 (3 : Int32)) else none)
theorem k_L_merge (d : Nat) (hd : 8 ≤ d) (x0 : Option (Nat × Nat)) (x1 : Int32) (x2 : Int32) (x3 : Option (Nat × Nat)) (h : am_H) : am_Con m_L_merge d [.inr (.inr x0), .inl x1, .inl x2, .inr (.inr x3)] h (f_L_merge x0 x1 x2 x3 h) := am_conX (by decide +kernel) (Nat.le_of_ble_eq_true rfl) (by
  unfold f_L_merge
  refine sim_aload_n dL_merge_0 rfl ?_
  refine sim_iconst (0) dL_merge_1 (by decide +kernel) ?_
  refine sim_aload_n dL_merge_2 rfl ?_
  refine sim_iload_n dL_merge_3 rfl ?_
  refine sim_iload_n dL_merge_4 rfl ?_
  refine sim_ao2 (fun a3 e => ?_)
  refine sim_virt (d - 1) e dL_merge_5 (k_X10_merge (d - 1) (by omega) _ _ _ _) q_X10_merge rfl rfl wm_RL_67 rfl rfl (by omega) (Nat.le_of_ble_eq_true rfl) am_nIx (am_rIx fun h1 v2 => ?_) (am_eIx fun h9 k9 => ?_)
  · refine sim_i2l dL_merge_8 ?_
    refine sim_sL dL_merge_9 (fun h6 => ?_)
    refine sim_goto 25 dL_merge_10 (by decide) ?_
    refine sim_iconst (0) dL_merge_25 (by decide +kernel) ?_
    exact sim_iret dL_merge_26 rfl
  · refine simx_case (fun cx => ?_) (fun cx => ?_)
    · subst cx
      refine simx_catch [] (0, 10, 13, 21) [(0, 10, 17, 13), (0, 10, 21, 15)] rfl ⟨by decide, by decide⟩ (by decide) wx_RL_21 wca_0 (by decide) (fun z hz => by cases hz) ?_
      refine sim_astore dL_merge_13 (Nat.le_of_ble_eq_true rfl) ?_
      refine sim_iconst (1) dL_merge_15 (by decide +kernel) ?_
      exact sim_iret dL_merge_16 rfl
    refine simx_case (fun cx => ?_) (fun cx => ?_)
    · subst cx
      refine simx_catch [(0, 10, 13, 21)] (0, 10, 17, 13) [(0, 10, 21, 15)] rfl ⟨by decide, by decide⟩ (by decide) wx_RL_13 wca_1 (by decide) (fun z hz => by simp only [List.mem_cons, List.not_mem_nil, or_false] at hz; subst hz; exact ⟨by decide, 0, _, by decide, by decide, wx_RL_21⟩) ?_
      refine sim_astore dL_merge_17 (Nat.le_of_ble_eq_true rfl) ?_
      refine sim_iconst (2) dL_merge_19 (by decide +kernel) ?_
      exact sim_iret dL_merge_20 rfl
    refine simx_case (fun cx => ?_) (fun cx => ?_)
    · subst cx
      refine simx_catch [(0, 10, 13, 21), (0, 10, 17, 13)] (0, 10, 21, 15) [] rfl ⟨by decide, by decide⟩ (by decide) wx_RL_15 wca_2 (by decide) (fun z hz => by
        simp only [List.mem_cons, List.not_mem_nil, or_false] at hz
        rcases hz with rfl | rfl
        · exact ⟨by decide, 0, _, by decide, by decide, wx_RL_21⟩
        · exact ⟨by decide, 1, _, by decide, by decide, wx_RL_13⟩) ?_
      refine sim_astore dL_merge_21 (Nat.le_of_ble_eq_true rfl) ?_
      refine sim_iconst (3) dL_merge_23 (by decide +kernel) ?_
      exact sim_iret dL_merge_24 rfl
    exact simx_none)
theorem q_L_merge : am_Cal m_L_merge 4 0 := ⟨am_mem 704 (w := Cond.codeWith yL_merge cL_merge 5 (some .int) [(0, 10, 13, 21), (0, 10, 17, 13), (0, 10, 21, 15)]) (by decide +kernel) rfl, am_mem 55 (w := Cond.initialized RL) (by decide +kernel) rfl, fun _ => am_mem 703 (w := Cond.static yL_merge) (by decide +kernel) rfl, fun z => absurd rfl z, fun z => absurd z (by decide), fun z => absurd z (by decide), by decide +kernel, by decide +kernel, Nat.le_of_ble_eq_true rfl⟩
abbrev m_X10_news : am_M := (yX10_news, cX10_news, 4, some .int, [])
def f_X10_news_32 (rc8 : Nat × Nat → Int32 → Int32 → Int32 → am_H → am_R) (a0 : Nat × Nat) (x1 : Int32) (x3 : Int32) (s0 : Int32) (s1 : Int32) (s2 : Int32) (h : am_H) : am_R := m_bI (f_X10_with s2 s1 s0 h) fun h7 v8 => rc8 a0 x1 v8 (x3 + 1) h7
theorem t_X10_news_32 (d : Nat) (hd : 7 ≤ d) (rc8 : Nat × Nat → Int32 → Int32 → Int32 → am_H → am_R) (hrc8 : ∀ a0 x1 x2 x3 h, Sim m_X10_news d 8 [some (.inr (.inr (some a0))), some (.inl x1), some (.inl x2), some (.inl x3)] [] h (rc8 a0 x1 x2 x3 h)) (a0 : Nat × Nat) (x1 : Int32) (x3 : Int32) (s0 : Int32) (s1 : Int32) (s2 : Int32) (h : am_H) : Sim m_X10_news d 32 [some (.inr (.inr (some a0))), some (.inl x1), none, some (.inl x3)] [.inl s0, .inl s1, .inl s2] h (f_X10_news_32 rc8 a0 x1 x3 s0 s1 s2 h) := by
  unfold f_X10_news_32
  refine sim_static (d - 1) dX10_news_32 (k_X10_with (d - 1) (by omega) _ _ _ _) q_X10_with wm_RX10_95 rfl rfl (by omega) (Nat.le_of_ble_eq_true rfl) am_nI (am_rI fun h7 v8 => ?_) am_eI
  refine sim_istore_n dX10_news_35 (Nat.le_of_ble_eq_true rfl) ?_
  refine sim_iinc (1) dX10_news_36 rfl (by decide +kernel) (Nat.le_of_ble_eq_true rfl) ?_
  refine sim_goto 8 dX10_news_39 (by decide) ?_
  exact sim_lv (am_leS (am_leS (am_leS (am_leS am_leT)))) (hrc8 _ _ _ _ _)
def f_X10_news_8  : Nat → Nat × Nat → Int32 → Int32 → Int32 → am_H → am_R
  | 0, _, _, _, _, _ => none
  | n + 1, a0, x1, x2, x3, h => m_gI (some a0) 10 4 h fun v3 => if v3 ≤ x3 then (m_ri h x2) else (m_ao (some a0) 10 fun a6 => m_bI (f_X10_newChapters a6 x1 x3 h) fun h4 v5 => if v5 = 0 then (f_X10_news_32 (f_X10_news_8  n) a0 x1 x3 (0 : Int32) x3 x2 h4) else (f_X10_news_32 (f_X10_news_8  n) a0 x1 x3 (1 : Int32) x3 x2 h4))
theorem t_X10_news_8 (d : Nat) (hd : 7 ≤ d)  : ∀ (n : Nat) (a0 : Nat × Nat) (x1 : Int32) (x2 : Int32) (x3 : Int32) (h : am_H), Sim m_X10_news d 8 [some (.inr (.inr (some a0))), some (.inl x1), some (.inl x2), some (.inl x3)] [] h (f_X10_news_8  n a0 x1 x2 x3 h) := by
  intro n
  induction n with
  | zero => intros; exact sim_none
  | succ n hrc8 =>
    intro a0 x1 x2 x3 h
    rw [f_X10_news_8]
    refine sim_iload_n dX10_news_8 rfl ?_
    refine sim_aload_n dX10_news_9 rfl ?_
    refine sim_gI 10 4 dX10_news_10 rfl wf_RX10_104 (Nat.le_of_ble_eq_true rfl) rfl (fun v3 => ?_)
    refine sim_ic_ge 42 dX10_news_13 (by decide) (fun c => ?_) (fun c => ?_)
    · refine sim_iload_n dX10_news_42 rfl ?_
      exact sim_iret dX10_news_43 rfl
    · refine sim_iload_n dX10_news_16 rfl ?_
      refine sim_iload_n dX10_news_17 rfl ?_
      refine sim_aload_n dX10_news_18 rfl ?_
      refine sim_iload_n dX10_news_19 rfl ?_
      refine sim_iload_n dX10_news_20 rfl ?_
      refine sim_ao2 (fun a6 e => ?_)
      refine sim_virt (d - 1) e dX10_news_21 (k_X10_newChapters (d - 1) (by omega) _ _ _ _) q_X10_newChapters rfl rfl wm_RX10_370 rfl rfl (by omega) (Nat.le_of_ble_eq_true rfl) am_nI (am_rI fun h4 v5 => ?_) am_eI
      refine sim_if_eq 31 dX10_news_24 (by decide) (fun c => ?_) (fun c => ?_)
      · refine sim_iconst (0) dX10_news_31 (by decide +kernel) ?_
        exact sim_lv (am_leS (am_leS (am_leN (am_leS am_leT)))) (t_X10_news_32 d (by omega) _ hrc8 _ _ _ _ _ _ _)
      · refine sim_iconst (1) dX10_news_27 (by decide +kernel) ?_
        refine sim_goto 32 dX10_news_28 (by decide) ?_
        exact sim_lv (am_leS (am_leS (am_leN (am_leS am_leT)))) (t_X10_news_32 d (by omega) _ hrc8 _ _ _ _ _ _ _)
def f_X10_news (a0 : Nat × Nat) (x1 : Int32) (h : am_H) : am_R := m_bV (f_X10_checkPerson x1 h) fun h1 => f_X10_news_8 5000 a0 x1 (0 : Int32) (0 : Int32) h1
theorem k_X10_news (d : Nat) (hd : 7 ≤ d) (a0 : Nat × Nat) (x1 : Int32) (h : am_H) : am_Con m_X10_news d [.inr (.inr (some a0)), .inl x1] h (f_X10_news a0 x1 h) := am_con (by decide +kernel) (Nat.le_of_ble_eq_true rfl) (by
  unfold f_X10_news
  refine sim_iload_n dX10_news_0 rfl ?_
  refine sim_static (d - 1) dX10_news_1 (k_X10_checkPerson (d - 1) (by omega) _ _) q_X10_checkPerson wm_RX10_82 rfl rfl (by omega) (Nat.le_of_ble_eq_true rfl) am_nV (am_rV fun h1 => ?_) am_eV
  refine sim_iconst (0) dX10_news_4 (by decide +kernel) ?_
  refine sim_istore_n dX10_news_5 (Nat.le_of_ble_eq_true rfl) ?_
  refine sim_iconst (0) dX10_news_6 (by decide +kernel) ?_
  refine sim_istore_n dX10_news_7 (Nat.le_of_ble_eq_true rfl) ?_
  exact sim_lv (am_leS (am_leS (am_leS (am_leS am_leT)))) (t_X10_news_8 d (by omega) _ _ _ _ _ _))
theorem q_X10_news : am_Cal m_X10_news 1 2 := ⟨am_mem 1070 (w := Cond.code yX10_news cX10_news 4 (some .int)) (by decide +kernel) rfl, am_mem 56 (w := Cond.initialized RX10) (by decide +kernel) rfl, fun z => absurd z (by decide), fun _ => am_mem 1068 (w := Cond.instanceMethod yX10_news) (by decide +kernel) rfl, fun z => absurd z (by decide), fun _ => am_mem 1069 (w := Cond.selects RX10 yX10_news yX10_news) (by decide +kernel) rfl, by decide +kernel, by decide +kernel, Nat.le_of_ble_eq_true rfl⟩
abbrev m_L_news : am_M := (yL_news, cL_news, 4, some .int, [(0, 9, 12, 21)])
def f_L_news (x0 : Option (Nat × Nat)) (x1 : Int32) (x2 : Option (Nat × Nat)) (h : am_H) : am_R := m_ao x0 10 fun a3 => m_bIx (f_X10_news a3 x1 h) (fun h1 v2 => m_sL x2 (0 : Int32) (Int32.toInt64 v2) h1 fun h6 => m_ri h6 (0 : Int32)) (fun h4 e5 => if e5 = 0 then (m_ri h4 (1 : Int32)) else none)
theorem k_L_news (d : Nat) (hd : 8 ≤ d) (x0 : Option (Nat × Nat)) (x1 : Int32) (x2 : Option (Nat × Nat)) (h : am_H) : am_Con m_L_news d [.inr (.inr x0), .inl x1, .inr (.inr x2)] h (f_L_news x0 x1 x2 h) := am_conX (by decide +kernel) (Nat.le_of_ble_eq_true rfl) (by
  unfold f_L_news
  refine sim_aload_n dL_news_0 rfl ?_
  refine sim_iconst (0) dL_news_1 (by decide +kernel) ?_
  refine sim_aload_n dL_news_2 rfl ?_
  refine sim_iload_n dL_news_3 rfl ?_
  refine sim_ao1 (fun a3 e => ?_)
  refine sim_virt (d - 1) e dL_news_4 (k_X10_news (d - 1) (by omega) _ _ _) q_X10_news rfl rfl wm_RL_126 rfl rfl (by omega) (Nat.le_of_ble_eq_true rfl) am_nIx (am_rIx fun h1 v2 => ?_) (am_eIx fun h9 k9 => ?_)
  · refine sim_i2l dL_news_7 ?_
    refine sim_sL dL_news_8 (fun h6 => ?_)
    refine sim_goto 15 dL_news_9 (by decide) ?_
    refine sim_iconst (0) dL_news_15 (by decide +kernel) ?_
    exact sim_iret dL_news_16 rfl
  · refine simx_case (fun cx => ?_) (fun cx => ?_)
    · subst cx
      refine simx_catch [] (0, 9, 12, 21) [] rfl ⟨by decide, by decide⟩ (by decide) wx_RL_21 wca_0 (by decide) (fun z hz => by cases hz) ?_
      refine sim_astore_n dL_news_12 (Nat.le_of_ble_eq_true rfl) ?_
      refine sim_iconst (1) dL_news_13 (by decide +kernel) ?_
      exact sim_iret dL_news_14 rfl
    exact simx_none)
theorem q_L_news : am_Cal m_L_news 3 0 := ⟨am_mem 1066 (w := Cond.codeWith yL_news cL_news 4 (some .int) [(0, 9, 12, 21)]) (by decide +kernel) rfl, am_mem 55 (w := Cond.initialized RL) (by decide +kernel) rfl, fun _ => am_mem 1065 (w := Cond.static yL_news) (by decide +kernel) rfl, fun z => absurd rfl z, fun z => absurd z (by decide), fun z => absurd z (by decide), by decide +kernel, by decide +kernel, Nat.le_of_ble_eq_true rfl⟩
abbrev m_X10_countFiledUnder : am_M := (yX10_countFiledUnder, cX10_countFiledUnder, 4, some .int, [])
def f_X10_countFiledUnder_34 (rc4 : Nat × Nat → Int32 → Int32 → Int32 → am_H → am_R) (a0 : Nat × Nat) (x1 : Int32) (x3 : Int32) (s0 : Int32) (s1 : Int32) (h : am_H) : am_R := rc4 a0 x1 (s1 + s0) (x3 + 1) h
theorem t_X10_countFiledUnder_34 (d : Nat) (hd : 1 ≤ d) (rc4 : Nat × Nat → Int32 → Int32 → Int32 → am_H → am_R) (hrc4 : ∀ a0 x1 x2 x3 h, Sim m_X10_countFiledUnder d 4 [some (.inr (.inr (some a0))), some (.inl x1), some (.inl x2), some (.inl x3)] [] h (rc4 a0 x1 x2 x3 h)) (a0 : Nat × Nat) (x1 : Int32) (x3 : Int32) (s0 : Int32) (s1 : Int32) (h : am_H) : Sim m_X10_countFiledUnder d 34 [some (.inr (.inr (some a0))), some (.inl x1), none, some (.inl x3)] [.inl s0, .inl s1] h (f_X10_countFiledUnder_34 rc4 a0 x1 x3 s0 s1 h) := by
  unfold f_X10_countFiledUnder_34
  refine sim_iadd dX10_countFiledUnder_34 ?_
  refine sim_istore_n dX10_countFiledUnder_35 (Nat.le_of_ble_eq_true rfl) ?_
  refine sim_iinc (1) dX10_countFiledUnder_36 rfl (by decide +kernel) (Nat.le_of_ble_eq_true rfl) ?_
  refine sim_goto 4 dX10_countFiledUnder_39 (by decide) ?_
  exact sim_lv (am_leS (am_leS (am_leS (am_leS am_leT)))) (hrc4 _ _ _ _ _)
def f_X10_countFiledUnder_4  : Nat → Nat × Nat → Int32 → Int32 → Int32 → am_H → am_R
  | 0, _, _, _, _, _ => none
  | n + 1, a0, x1, x2, x3, h => m_gI (some a0) 10 4 h fun v1 => if v1 ≤ x3 then (m_ri h x2) else (m_gR (some a0) 10 3 h fun o2 => m_aR o2 5 x3 h fun o3 => m_gI o3 9 8 h fun v4 => m_bI (f_X10_has v4 x1 h) fun h5 v6 => if v6 = 0 then (f_X10_countFiledUnder_34 (f_X10_countFiledUnder_4  n) a0 x1 x3 (0 : Int32) x2 h5) else (f_X10_countFiledUnder_34 (f_X10_countFiledUnder_4  n) a0 x1 x3 (1 : Int32) x2 h5))
theorem t_X10_countFiledUnder_4 (d : Nat) (hd : 1 ≤ d)  : ∀ (n : Nat) (a0 : Nat × Nat) (x1 : Int32) (x2 : Int32) (x3 : Int32) (h : am_H), Sim m_X10_countFiledUnder d 4 [some (.inr (.inr (some a0))), some (.inl x1), some (.inl x2), some (.inl x3)] [] h (f_X10_countFiledUnder_4  n a0 x1 x2 x3 h) := by
  intro n
  induction n with
  | zero => intros; exact sim_none
  | succ n hrc4 =>
    intro a0 x1 x2 x3 h
    rw [f_X10_countFiledUnder_4]
    refine sim_iload_n dX10_countFiledUnder_4 rfl ?_
    refine sim_aload_n dX10_countFiledUnder_5 rfl ?_
    refine sim_gI 10 4 dX10_countFiledUnder_6 rfl wf_RX10_104 (Nat.le_of_ble_eq_true rfl) rfl (fun v1 => ?_)
    refine sim_ic_ge 42 dX10_countFiledUnder_9 (by decide) (fun c => ?_) (fun c => ?_)
    · refine sim_iload_n dX10_countFiledUnder_42 rfl ?_
      exact sim_iret dX10_countFiledUnder_43 rfl
    · refine sim_iload_n dX10_countFiledUnder_12 rfl ?_
      refine sim_aload_n dX10_countFiledUnder_13 rfl ?_
      refine sim_gR 10 3 dX10_countFiledUnder_14 rfl wf_RX10_21 (Nat.le_of_ble_eq_true rfl) rfl (fun o2 => ?_)
      refine sim_iload_n dX10_countFiledUnder_17 rfl ?_
      refine sim_aR 5 rfl dX10_countFiledUnder_18 (fun o3 => ?_)
      refine sim_gI 9 8 dX10_countFiledUnder_19 rfl wf_RX10_388 (Nat.le_of_ble_eq_true rfl) rfl (fun v4 => ?_)
      refine sim_iload_n dX10_countFiledUnder_22 rfl ?_
      refine sim_static (d - 1) dX10_countFiledUnder_23 (k_X10_has (d - 1) (by omega) _ _ _) q_X10_has wm_RX10_91 rfl rfl (by omega) (Nat.le_of_ble_eq_true rfl) am_nI (am_rI fun h5 v6 => ?_) am_eI
      refine sim_if_eq 33 dX10_countFiledUnder_26 (by decide) (fun c => ?_) (fun c => ?_)
      · refine sim_iconst (0) dX10_countFiledUnder_33 (by decide +kernel) ?_
        exact sim_lv (am_leS (am_leS (am_leN (am_leS am_leT)))) (t_X10_countFiledUnder_34 d (by omega) _ hrc4 _ _ _ _ _ _)
      · refine sim_iconst (1) dX10_countFiledUnder_29 (by decide +kernel) ?_
        refine sim_goto 34 dX10_countFiledUnder_30 (by decide) ?_
        exact sim_lv (am_leS (am_leS (am_leN (am_leS am_leT)))) (t_X10_countFiledUnder_34 d (by omega) _ hrc4 _ _ _ _ _ _)
def f_X10_countFiledUnder (a0 : Nat × Nat) (x1 : Int32) (h : am_H) : am_R := f_X10_countFiledUnder_4 5000 a0 x1 (0 : Int32) (0 : Int32) h
theorem k_X10_countFiledUnder (d : Nat) (hd : 1 ≤ d) (a0 : Nat × Nat) (x1 : Int32) (h : am_H) : am_Con m_X10_countFiledUnder d [.inr (.inr (some a0)), .inl x1] h (f_X10_countFiledUnder a0 x1 h) := am_con (by decide +kernel) (Nat.le_of_ble_eq_true rfl) (by
  unfold f_X10_countFiledUnder
  refine sim_iconst (0) dX10_countFiledUnder_0 (by decide +kernel) ?_
  refine sim_istore_n dX10_countFiledUnder_1 (Nat.le_of_ble_eq_true rfl) ?_
  refine sim_iconst (0) dX10_countFiledUnder_2 (by decide +kernel) ?_
  refine sim_istore_n dX10_countFiledUnder_3 (Nat.le_of_ble_eq_true rfl) ?_
  exact sim_lv (am_leS (am_leS (am_leS (am_leS am_leT)))) (t_X10_countFiledUnder_4 d (by omega) _ _ _ _ _ _))
theorem q_X10_countFiledUnder : am_Cal m_X10_countFiledUnder 1 2 := ⟨am_mem 764 (w := Cond.code yX10_countFiledUnder cX10_countFiledUnder 4 (some .int)) (by decide +kernel) rfl, am_mem 56 (w := Cond.initialized RX10) (by decide +kernel) rfl, fun z => absurd z (by decide), fun _ => am_mem 763 (w := Cond.instanceMethod yX10_countFiledUnder) (by decide +kernel) rfl, fun z => absurd z (by decide), fun _ => am_mem 12 (w := Cond.selects RX10 yX10_countFiledUnder yX10_countFiledUnder) (by decide +kernel) rfl, by decide +kernel, by decide +kernel, Nat.le_of_ble_eq_true rfl⟩
abbrev m_X10_countWith : am_M := (yX10_countWith, cX10_countWith, 4, some .int, [])
def f_X10_countWith_34 (rc4 : Nat × Nat → Int32 → Int32 → Int32 → am_H → am_R) (a0 : Nat × Nat) (x1 : Int32) (x3 : Int32) (s0 : Int32) (s1 : Int32) (h : am_H) : am_R := rc4 a0 x1 (s1 + s0) (x3 + 1) h
theorem t_X10_countWith_34 (d : Nat) (hd : 1 ≤ d) (rc4 : Nat × Nat → Int32 → Int32 → Int32 → am_H → am_R) (hrc4 : ∀ a0 x1 x2 x3 h, Sim m_X10_countWith d 4 [some (.inr (.inr (some a0))), some (.inl x1), some (.inl x2), some (.inl x3)] [] h (rc4 a0 x1 x2 x3 h)) (a0 : Nat × Nat) (x1 : Int32) (x3 : Int32) (s0 : Int32) (s1 : Int32) (h : am_H) : Sim m_X10_countWith d 34 [some (.inr (.inr (some a0))), some (.inl x1), none, some (.inl x3)] [.inl s0, .inl s1] h (f_X10_countWith_34 rc4 a0 x1 x3 s0 s1 h) := by
  unfold f_X10_countWith_34
  refine sim_iadd dX10_countWith_34 ?_
  refine sim_istore_n dX10_countWith_35 (Nat.le_of_ble_eq_true rfl) ?_
  refine sim_iinc (1) dX10_countWith_36 rfl (by decide +kernel) (Nat.le_of_ble_eq_true rfl) ?_
  refine sim_goto 4 dX10_countWith_39 (by decide) ?_
  exact sim_lv (am_leS (am_leS (am_leS (am_leS am_leT)))) (hrc4 _ _ _ _ _)
def f_X10_countWith_4  : Nat → Nat × Nat → Int32 → Int32 → Int32 → am_H → am_R
  | 0, _, _, _, _, _ => none
  | n + 1, a0, x1, x2, x3, h => m_gI (some a0) 10 4 h fun v1 => if v1 ≤ x3 then (m_ri h x2) else (m_gR (some a0) 10 3 h fun o2 => m_aR o2 5 x3 h fun o3 => m_gI o3 9 7 h fun v4 => m_bI (f_X10_has v4 x1 h) fun h5 v6 => if v6 = 0 then (f_X10_countWith_34 (f_X10_countWith_4  n) a0 x1 x3 (0 : Int32) x2 h5) else (f_X10_countWith_34 (f_X10_countWith_4  n) a0 x1 x3 (1 : Int32) x2 h5))
theorem t_X10_countWith_4 (d : Nat) (hd : 1 ≤ d)  : ∀ (n : Nat) (a0 : Nat × Nat) (x1 : Int32) (x2 : Int32) (x3 : Int32) (h : am_H), Sim m_X10_countWith d 4 [some (.inr (.inr (some a0))), some (.inl x1), some (.inl x2), some (.inl x3)] [] h (f_X10_countWith_4  n a0 x1 x2 x3 h) := by
  intro n
  induction n with
  | zero => intros; exact sim_none
  | succ n hrc4 =>
    intro a0 x1 x2 x3 h
    rw [f_X10_countWith_4]
    refine sim_iload_n dX10_countWith_4 rfl ?_
    refine sim_aload_n dX10_countWith_5 rfl ?_
    refine sim_gI 10 4 dX10_countWith_6 rfl wf_RX10_104 (Nat.le_of_ble_eq_true rfl) rfl (fun v1 => ?_)
    refine sim_ic_ge 42 dX10_countWith_9 (by decide) (fun c => ?_) (fun c => ?_)
    · refine sim_iload_n dX10_countWith_42 rfl ?_
      exact sim_iret dX10_countWith_43 rfl
    · refine sim_iload_n dX10_countWith_12 rfl ?_
      refine sim_aload_n dX10_countWith_13 rfl ?_
      refine sim_gR 10 3 dX10_countWith_14 rfl wf_RX10_21 (Nat.le_of_ble_eq_true rfl) rfl (fun o2 => ?_)
      refine sim_iload_n dX10_countWith_17 rfl ?_
      refine sim_aR 5 rfl dX10_countWith_18 (fun o3 => ?_)
      refine sim_gI 9 7 dX10_countWith_19 rfl wf_RX10_234 (Nat.le_of_ble_eq_true rfl) rfl (fun v4 => ?_)
      refine sim_iload_n dX10_countWith_22 rfl ?_
      refine sim_static (d - 1) dX10_countWith_23 (k_X10_has (d - 1) (by omega) _ _ _) q_X10_has wm_RX10_91 rfl rfl (by omega) (Nat.le_of_ble_eq_true rfl) am_nI (am_rI fun h5 v6 => ?_) am_eI
      refine sim_if_eq 33 dX10_countWith_26 (by decide) (fun c => ?_) (fun c => ?_)
      · refine sim_iconst (0) dX10_countWith_33 (by decide +kernel) ?_
        exact sim_lv (am_leS (am_leS (am_leN (am_leS am_leT)))) (t_X10_countWith_34 d (by omega) _ hrc4 _ _ _ _ _ _)
      · refine sim_iconst (1) dX10_countWith_29 (by decide +kernel) ?_
        refine sim_goto 34 dX10_countWith_30 (by decide) ?_
        exact sim_lv (am_leS (am_leS (am_leN (am_leS am_leT)))) (t_X10_countWith_34 d (by omega) _ hrc4 _ _ _ _ _ _)
def f_X10_countWith (a0 : Nat × Nat) (x1 : Int32) (h : am_H) : am_R := f_X10_countWith_4 5000 a0 x1 (0 : Int32) (0 : Int32) h
theorem k_X10_countWith (d : Nat) (hd : 1 ≤ d) (a0 : Nat × Nat) (x1 : Int32) (h : am_H) : am_Con m_X10_countWith d [.inr (.inr (some a0)), .inl x1] h (f_X10_countWith a0 x1 h) := am_con (by decide +kernel) (Nat.le_of_ble_eq_true rfl) (by
  unfold f_X10_countWith
  refine sim_iconst (0) dX10_countWith_0 (by decide +kernel) ?_
  refine sim_istore_n dX10_countWith_1 (Nat.le_of_ble_eq_true rfl) ?_
  refine sim_iconst (0) dX10_countWith_2 (by decide +kernel) ?_
  refine sim_istore_n dX10_countWith_3 (Nat.le_of_ble_eq_true rfl) ?_
  exact sim_lv (am_leS (am_leS (am_leS (am_leS am_leT)))) (t_X10_countWith_4 d (by omega) _ _ _ _ _ _))
theorem q_X10_countWith : am_Cal m_X10_countWith 1 2 := ⟨am_mem 760 (w := Cond.code yX10_countWith cX10_countWith 4 (some .int)) (by decide +kernel) rfl, am_mem 56 (w := Cond.initialized RX10) (by decide +kernel) rfl, fun z => absurd z (by decide), fun _ => am_mem 759 (w := Cond.instanceMethod yX10_countWith) (by decide +kernel) rfl, fun z => absurd z (by decide), fun _ => am_mem 11 (w := Cond.selects RX10 yX10_countWith yX10_countWith) (by decide +kernel) rfl, by decide +kernel, by decide +kernel, Nat.le_of_ble_eq_true rfl⟩
abbrev m_X7_aboveOf : am_M := (yX7_aboveOf, cX7_aboveOf, 2, some .int, [])
def f_X7_aboveOf (a0 : Nat × Nat) (x1 : Int32) (h : am_H) : am_R := m_gR (some a0) 7 3 h fun o1 => m_aI o1 0 x1 h fun v2 => m_ri h v2
theorem k_X7_aboveOf (d : Nat) (hd : 0 ≤ d) (a0 : Nat × Nat) (x1 : Int32) (h : am_H) : am_Con m_X7_aboveOf d [.inr (.inr (some a0)), .inl x1] h (f_X7_aboveOf a0 x1 h) := am_con (by decide +kernel) (Nat.le_of_ble_eq_true rfl) (by
  unfold f_X7_aboveOf
  refine sim_aload_n dX7_aboveOf_0 rfl ?_
  refine sim_gR 7 3 dX7_aboveOf_1 rfl wf_RX7_18 (Nat.le_of_ble_eq_true rfl) rfl (fun o1 => ?_)
  refine sim_iload_n dX7_aboveOf_4 rfl ?_
  refine sim_aI dX7_aboveOf_5 (fun v2 => ?_)
  exact sim_iret dX7_aboveOf_6 rfl)
theorem q_X7_aboveOf : am_Cal m_X7_aboveOf 1 2 := ⟨am_mem 756 (w := Cond.code yX7_aboveOf cX7_aboveOf 2 (some .int)) (by decide +kernel) rfl, am_mem 57 (w := Cond.initialized RX7) (by decide +kernel) rfl, fun z => absurd z (by decide), fun _ => am_mem 754 (w := Cond.instanceMethod yX7_aboveOf) (by decide +kernel) rfl, fun z => absurd z (by decide), fun _ => am_mem 755 (w := Cond.selects RX7 yX7_aboveOf yX7_aboveOf) (by decide +kernel) rfl, by decide +kernel, by decide +kernel, Nat.le_of_ble_eq_true rfl⟩
abbrev m_X7_meaningOf : am_M := (yX7_meaningOf, cX7_meaningOf, 2, some .int, [])
def f_X7_meaningOf (a0 : Nat × Nat) (x1 : Int32) (h : am_H) : am_R := m_gR (some a0) 7 1 h fun o1 => m_aI o1 0 x1 h fun v2 => m_ri h v2
theorem k_X7_meaningOf (d : Nat) (hd : 0 ≤ d) (a0 : Nat × Nat) (x1 : Int32) (h : am_H) : am_Con m_X7_meaningOf d [.inr (.inr (some a0)), .inl x1] h (f_X7_meaningOf a0 x1 h) := am_con (by decide +kernel) (Nat.le_of_ble_eq_true rfl) (by
  unfold f_X7_meaningOf
  refine sim_aload_n dX7_meaningOf_0 rfl ?_
  refine sim_gR 7 1 dX7_meaningOf_1 rfl wf_RX7_9 (Nat.le_of_ble_eq_true rfl) rfl (fun o1 => ?_)
  refine sim_iload_n dX7_meaningOf_4 rfl ?_
  refine sim_aI dX7_meaningOf_5 (fun v2 => ?_)
  exact sim_iret dX7_meaningOf_6 rfl)
theorem q_X7_meaningOf : am_Cal m_X7_meaningOf 1 2 := ⟨am_mem 752 (w := Cond.code yX7_meaningOf cX7_meaningOf 2 (some .int)) (by decide +kernel) rfl, am_mem 57 (w := Cond.initialized RX7) (by decide +kernel) rfl, fun z => absurd z (by decide), fun _ => am_mem 750 (w := Cond.instanceMethod yX7_meaningOf) (by decide +kernel) rfl, fun z => absurd z (by decide), fun _ => am_mem 751 (w := Cond.selects RX7 yX7_meaningOf yX7_meaningOf) (by decide +kernel) rfl, by decide +kernel, by decide +kernel, Nat.le_of_ble_eq_true rfl⟩
abbrev m_X10_ofTag : am_M := (yX10_ofTag, cX10_ofTag, 3, some .int, [])
def f_X10_ofTag (a0 : Nat × Nat) (x1 : Int32) (x2 : Int32) (h : am_H) : am_R := m_ao (some a0) 10 fun a3 => m_bV (f_X10_checkTag a3 x1 h) fun h1 => if x2 = 0 then (m_gR (some a0) 10 7 h1 fun o4 => m_ao o4 7 fun a7 => m_bI (f_X7_kindOf a7 x1 h1) fun h5 v6 => m_ri h5 v6) else if x2 = 1 then (m_gR (some a0) 10 7 h1 fun o8 => m_ao o8 7 fun a11 => m_bI (f_X7_meaningOf a11 x1 h1) fun h9 v10 => m_ri h9 v10) else if x2 = 2 then (m_gR (some a0) 10 7 h1 fun o12 => m_ao o12 7 fun a15 => m_bI (f_X7_aboveOf a15 x1 h1) fun h13 v14 => m_ri h13 v14) else if x2 = 3 then (m_ao (some a0) 10 fun a18 => m_bI (f_X10_countWith a18 x1 h1) fun h16 v17 => m_ri h16 v17) else if x2 = 4 then (m_ao (some a0) 10 fun a21 => m_bI (f_X10_countFiledUnder a21 x1 h1) fun h19 v20 => m_ri h19 v20) else (m_ex h1 1)
theorem k_X10_ofTag (d : Nat) (hd : 7 ≤ d) (a0 : Nat × Nat) (x1 : Int32) (x2 : Int32) (h : am_H) : am_Con m_X10_ofTag d [.inr (.inr (some a0)), .inl x1, .inl x2] h (f_X10_ofTag a0 x1 x2 h) := am_con (by decide +kernel) (Nat.le_of_ble_eq_true rfl) (by
  unfold f_X10_ofTag
  refine sim_aload_n dX10_ofTag_0 rfl ?_
  refine sim_iload_n dX10_ofTag_1 rfl ?_
  refine sim_ao1 (fun a3 e => ?_)
  refine sim_virt (d - 1) e dX10_ofTag_2 (k_X10_checkTag (d - 1) (by omega) _ _ _) q_X10_checkTag rfl rfl wm_RX10_189 rfl rfl (by omega) (Nat.le_of_ble_eq_true rfl) am_nV (am_rV fun h1 => ?_) am_eV
  refine sim_iload_n dX10_ofTag_5 rfl ?_
  refine sim_case (fun c6_0 => ?_) (fun c6_0 => ?_)
  · refine sim_tableIn (off := 34) (0) 40 c6_0 dX10_ofTag_6 (by decide +kernel) (by decide +kernel) (by decide +kernel) (by decide) ?_
    refine sim_aload_n dX10_ofTag_40 rfl ?_
    refine sim_gR 10 7 dX10_ofTag_41 rfl wf_RX10_34 (Nat.le_of_ble_eq_true rfl) rfl (fun o4 => ?_)
    refine sim_iload_n dX10_ofTag_44 rfl ?_
    refine sim_ao1 (fun a7 e => ?_)
    refine sim_virt (d - 1) e dX10_ofTag_45 (k_X7_kindOf (d - 1) (by omega) _ _ _) q_X7_kindOf rfl rfl wm_RX10_192 rfl rfl (by omega) (Nat.le_of_ble_eq_true rfl) am_nI (am_rI fun h5 v6 => ?_) am_eI
    exact sim_iret dX10_ofTag_48 rfl
  refine sim_case (fun c6_1 => ?_) (fun c6_1 => ?_)
  · refine sim_tableIn (off := 43) (1) 49 c6_1 dX10_ofTag_6 (by decide +kernel) (by decide +kernel) (by decide +kernel) (by decide) ?_
    refine sim_aload_n dX10_ofTag_49 rfl ?_
    refine sim_gR 10 7 dX10_ofTag_50 rfl wf_RX10_34 (Nat.le_of_ble_eq_true rfl) rfl (fun o8 => ?_)
    refine sim_iload_n dX10_ofTag_53 rfl ?_
    refine sim_ao1 (fun a11 e => ?_)
    refine sim_virt (d - 1) e dX10_ofTag_54 (k_X7_meaningOf (d - 1) (by omega) _ _ _) q_X7_meaningOf rfl rfl wm_RX10_220 rfl rfl (by omega) (Nat.le_of_ble_eq_true rfl) am_nI (am_rI fun h9 v10 => ?_) am_eI
    exact sim_iret dX10_ofTag_57 rfl
  refine sim_case (fun c6_2 => ?_) (fun c6_2 => ?_)
  · refine sim_tableIn (off := 52) (2) 58 c6_2 dX10_ofTag_6 (by decide +kernel) (by decide +kernel) (by decide +kernel) (by decide) ?_
    refine sim_aload_n dX10_ofTag_58 rfl ?_
    refine sim_gR 10 7 dX10_ofTag_59 rfl wf_RX10_34 (Nat.le_of_ble_eq_true rfl) rfl (fun o12 => ?_)
    refine sim_iload_n dX10_ofTag_62 rfl ?_
    refine sim_ao1 (fun a15 e => ?_)
    refine sim_virt (d - 1) e dX10_ofTag_63 (k_X7_aboveOf (d - 1) (by omega) _ _ _) q_X7_aboveOf rfl rfl wm_RX10_223 rfl rfl (by omega) (Nat.le_of_ble_eq_true rfl) am_nI (am_rI fun h13 v14 => ?_) am_eI
    exact sim_iret dX10_ofTag_66 rfl
  refine sim_case (fun c6_3 => ?_) (fun c6_3 => ?_)
  · refine sim_tableIn (off := 61) (3) 67 c6_3 dX10_ofTag_6 (by decide +kernel) (by decide +kernel) (by decide +kernel) (by decide) ?_
    refine sim_aload_n dX10_ofTag_67 rfl ?_
    refine sim_iload_n dX10_ofTag_68 rfl ?_
    refine sim_ao1 (fun a18 e => ?_)
    refine sim_virt (d - 1) e dX10_ofTag_69 (k_X10_countWith (d - 1) (by omega) _ _ _) q_X10_countWith rfl rfl wm_RX10_226 rfl rfl (by omega) (Nat.le_of_ble_eq_true rfl) am_nI (am_rI fun h16 v17 => ?_) am_eI
    exact sim_iret dX10_ofTag_72 rfl
  refine sim_case (fun c6_4 => ?_) (fun c6_4 => ?_)
  · refine sim_tableIn (off := 67) (4) 73 c6_4 dX10_ofTag_6 (by decide +kernel) (by decide +kernel) (by decide +kernel) (by decide) ?_
    refine sim_aload_n dX10_ofTag_73 rfl ?_
    refine sim_iload_n dX10_ofTag_74 rfl ?_
    refine sim_ao1 (fun a21 e => ?_)
    refine sim_virt (d - 1) e dX10_ofTag_75 (k_X10_countFiledUnder (d - 1) (by omega) _ _ _) q_X10_countFiledUnder rfl rfl wm_RX10_229 rfl rfl (by omega) (Nat.le_of_ble_eq_true rfl) am_nI (am_rI fun h19 v20 => ?_) am_eI
    exact sim_iret dX10_ofTag_78 rfl
  refine sim_tableOut 79 dX10_ofTag_6 ((am_out (N := 5) (by decide) (lt_s (lt_s (lt_s (lt_s (lt_s lt_0 c6_0) c6_1) c6_2) c6_3) c6_4)).imp id (fun z => by omega)) (by decide) ?_
  exact sim_throw 1 (by decide) dX10_ofTag_79 dX10_ofTag_82 dX10_ofTag_83 dX10_ofTag_85 dX10_ofTag_88 wx_RX10_66 wy_1 ws_RX10_232 at_RX10_70 gd_RX10_70 (by omega) (Nat.le_of_ble_eq_true rfl))
theorem q_X10_ofTag : am_Cal m_X10_ofTag 2 2 := ⟨am_mem 748 (w := Cond.code yX10_ofTag cX10_ofTag 3 (some .int)) (by decide +kernel) rfl, am_mem 56 (w := Cond.initialized RX10) (by decide +kernel) rfl, fun z => absurd z (by decide), fun _ => am_mem 746 (w := Cond.instanceMethod yX10_ofTag) (by decide +kernel) rfl, fun z => absurd z (by decide), fun _ => am_mem 747 (w := Cond.selects RX10 yX10_ofTag yX10_ofTag) (by decide +kernel) rfl, by decide +kernel, by decide +kernel, Nat.le_of_ble_eq_true rfl⟩
abbrev m_L_ofTag : am_M := (yL_ofTag, cL_ofTag, 5, some .int, [(0, 10, 13, 21), (0, 10, 17, 13)])
def f_L_ofTag (x0 : Option (Nat × Nat)) (x1 : Int32) (x2 : Int32) (x3 : Option (Nat × Nat)) (h : am_H) : am_R := m_ao x0 10 fun a3 => m_bIx (f_X10_ofTag a3 x1 x2 h) (fun h1 v2 => m_sL x3 (0 : Int32) (Int32.toInt64 v2) h1 fun h6 => m_ri h6 (0 : Int32)) (fun h4 e5 => if e5 = 0 then (m_ri h4 (1 : Int32)) else if e5 = 1 then (m_ri h4 (2 : Int32)) else none)
theorem k_L_ofTag (d : Nat) (hd : 8 ≤ d) (x0 : Option (Nat × Nat)) (x1 : Int32) (x2 : Int32) (x3 : Option (Nat × Nat)) (h : am_H) : am_Con m_L_ofTag d [.inr (.inr x0), .inl x1, .inl x2, .inr (.inr x3)] h (f_L_ofTag x0 x1 x2 x3 h) := am_conX (by decide +kernel) (Nat.le_of_ble_eq_true rfl) (by
  unfold f_L_ofTag
  refine sim_aload_n dL_ofTag_0 rfl ?_
  refine sim_iconst (0) dL_ofTag_1 (by decide +kernel) ?_
  refine sim_aload_n dL_ofTag_2 rfl ?_
  refine sim_iload_n dL_ofTag_3 rfl ?_
  refine sim_iload_n dL_ofTag_4 rfl ?_
  refine sim_ao2 (fun a3 e => ?_)
  refine sim_virt (d - 1) e dL_ofTag_5 (k_X10_ofTag (d - 1) (by omega) _ _ _ _) q_X10_ofTag rfl rfl wm_RL_73 rfl rfl (by omega) (Nat.le_of_ble_eq_true rfl) am_nIx (am_rIx fun h1 v2 => ?_) (am_eIx fun h9 k9 => ?_)
  · refine sim_i2l dL_ofTag_8 ?_
    refine sim_sL dL_ofTag_9 (fun h6 => ?_)
    refine sim_goto 21 dL_ofTag_10 (by decide) ?_
    refine sim_iconst (0) dL_ofTag_21 (by decide +kernel) ?_
    exact sim_iret dL_ofTag_22 rfl
  · refine simx_case (fun cx => ?_) (fun cx => ?_)
    · subst cx
      refine simx_catch [] (0, 10, 13, 21) [(0, 10, 17, 13)] rfl ⟨by decide, by decide⟩ (by decide) wx_RL_21 wca_0 (by decide) (fun z hz => by cases hz) ?_
      refine sim_astore dL_ofTag_13 (Nat.le_of_ble_eq_true rfl) ?_
      refine sim_iconst (1) dL_ofTag_15 (by decide +kernel) ?_
      exact sim_iret dL_ofTag_16 rfl
    refine simx_case (fun cx => ?_) (fun cx => ?_)
    · subst cx
      refine simx_catch [(0, 10, 13, 21)] (0, 10, 17, 13) [] rfl ⟨by decide, by decide⟩ (by decide) wx_RL_13 wca_1 (by decide) (fun z hz => by simp only [List.mem_cons, List.not_mem_nil, or_false] at hz; subst hz; exact ⟨by decide, 0, _, by decide, by decide, wx_RL_21⟩) ?_
      refine sim_astore dL_ofTag_17 (Nat.le_of_ble_eq_true rfl) ?_
      refine sim_iconst (2) dL_ofTag_19 (by decide +kernel) ?_
      exact sim_iret dL_ofTag_20 rfl
    exact simx_none)
theorem q_L_ofTag : am_Cal m_L_ofTag 4 0 := ⟨am_mem 744 (w := Cond.codeWith yL_ofTag cL_ofTag 5 (some .int) [(0, 10, 13, 21), (0, 10, 17, 13)]) (by decide +kernel) rfl, am_mem 55 (w := Cond.initialized RL) (by decide +kernel) rfl, fun _ => am_mem 743 (w := Cond.static yL_ofTag) (by decide +kernel) rfl, fun z => absurd rfl z, fun z => absurd z (by decide), fun z => absurd z (by decide), by decide +kernel, by decide +kernel, Nat.le_of_ble_eq_true rfl⟩
abbrev m_X10_owners : am_M := (yX10_owners, cX10_owners, 3, some .int, [])
def f_X10_owners (a0 : Nat × Nat) (x1 : Int32) (x2 : Int32) (h : am_H) : am_R := m_bV (f_X10_checkFace x1 h) fun h1 => m_ao (some a0) 10 fun a5 => m_bR (f_X10_workAt a5 x2 h1) fun h3 o4 => m_gI (some a0) 10 0 h3 fun v6 => m_ao o4 9 fun a9 => m_bI (f_X9_ownersToldTo a9 x1 v6 h3) fun h7 v8 => m_ri h7 v8
theorem k_X10_owners (d : Nat) (hd : 8 ≤ d) (a0 : Nat × Nat) (x1 : Int32) (x2 : Int32) (h : am_H) : am_Con m_X10_owners d [.inr (.inr (some a0)), .inl x1, .inl x2] h (f_X10_owners a0 x1 x2 h) := am_con (by decide +kernel) (Nat.le_of_ble_eq_true rfl) (by
  unfold f_X10_owners
  refine sim_iload_n dX10_owners_0 rfl ?_
  refine sim_static (d - 1) dX10_owners_1 (k_X10_checkFace (d - 1) (by omega) _ _) q_X10_checkFace wm_RX10_99 rfl rfl (by omega) (Nat.le_of_ble_eq_true rfl) am_nV (am_rV fun h1 => ?_) am_eV
  refine sim_aload_n dX10_owners_4 rfl ?_
  refine sim_iload_n dX10_owners_5 rfl ?_
  refine sim_ao1 (fun a5 e => ?_)
  refine sim_virt (d - 1) e dX10_owners_6 (k_X10_workAt (d - 1) (by omega) _ _ _) q_X10_workAt rfl rfl wm_RX10_112 rfl rfl (by omega) (Nat.le_of_ble_eq_true rfl) am_nR (am_rR fun h3 o4 => ?_) am_eR
  refine sim_iload_n dX10_owners_9 rfl ?_
  refine sim_aload_n dX10_owners_10 rfl ?_
  refine sim_gI 10 0 dX10_owners_11 rfl wf_RX10_73 (Nat.le_of_ble_eq_true rfl) rfl (fun v6 => ?_)
  refine sim_ao2 (fun a9 e => ?_)
  refine sim_virt (d - 1) e dX10_owners_14 (k_X9_ownersToldTo (d - 1) (by omega) _ _ _ _) q_X9_ownersToldTo rfl rfl wm_RX10_176 rfl rfl (by omega) (Nat.le_of_ble_eq_true rfl) am_nI (am_rI fun h7 v8 => ?_) am_eI
  exact sim_iret dX10_owners_17 rfl)
theorem q_X10_owners : am_Cal m_X10_owners 2 2 := ⟨am_mem 659 (w := Cond.code yX10_owners cX10_owners 3 (some .int)) (by decide +kernel) rfl, am_mem 56 (w := Cond.initialized RX10) (by decide +kernel) rfl, fun z => absurd z (by decide), fun _ => am_mem 657 (w := Cond.instanceMethod yX10_owners) (by decide +kernel) rfl, fun z => absurd z (by decide), fun _ => am_mem 658 (w := Cond.selects RX10 yX10_owners yX10_owners) (by decide +kernel) rfl, by decide +kernel, by decide +kernel, Nat.le_of_ble_eq_true rfl⟩
abbrev m_L_owners : am_M := (yL_owners, cL_owners, 5, some .int, [(0, 10, 13, 21)])
def f_L_owners (x0 : Option (Nat × Nat)) (x1 : Int32) (x2 : Int32) (x3 : Option (Nat × Nat)) (h : am_H) : am_R := m_ao x0 10 fun a3 => m_bIx (f_X10_owners a3 x1 x2 h) (fun h1 v2 => m_sL x3 (0 : Int32) (Int32.toInt64 v2) h1 fun h6 => m_ri h6 (0 : Int32)) (fun h4 e5 => if e5 = 0 then (m_ri h4 (1 : Int32)) else none)
theorem k_L_owners (d : Nat) (hd : 9 ≤ d) (x0 : Option (Nat × Nat)) (x1 : Int32) (x2 : Int32) (x3 : Option (Nat × Nat)) (h : am_H) : am_Con m_L_owners d [.inr (.inr x0), .inl x1, .inl x2, .inr (.inr x3)] h (f_L_owners x0 x1 x2 x3 h) := am_conX (by decide +kernel) (Nat.le_of_ble_eq_true rfl) (by
  unfold f_L_owners
  refine sim_aload_n dL_owners_0 rfl ?_
  refine sim_iconst (0) dL_owners_1 (by decide +kernel) ?_
  refine sim_aload_n dL_owners_2 rfl ?_
  refine sim_iload_n dL_owners_3 rfl ?_
  refine sim_iload_n dL_owners_4 rfl ?_
  refine sim_ao2 (fun a3 e => ?_)
  refine sim_virt (d - 1) e dL_owners_5 (k_X10_owners (d - 1) (by omega) _ _ _ _) q_X10_owners rfl rfl wm_RL_57 rfl rfl (by omega) (Nat.le_of_ble_eq_true rfl) am_nIx (am_rIx fun h1 v2 => ?_) (am_eIx fun h9 k9 => ?_)
  · refine sim_i2l dL_owners_8 ?_
    refine sim_sL dL_owners_9 (fun h6 => ?_)
    refine sim_goto 17 dL_owners_10 (by decide) ?_
    refine sim_iconst (0) dL_owners_17 (by decide +kernel) ?_
    exact sim_iret dL_owners_18 rfl
  · refine simx_case (fun cx => ?_) (fun cx => ?_)
    · subst cx
      refine simx_catch [] (0, 10, 13, 21) [] rfl ⟨by decide, by decide⟩ (by decide) wx_RL_21 wca_0 (by decide) (fun z hz => by cases hz) ?_
      refine sim_astore dL_owners_13 (Nat.le_of_ble_eq_true rfl) ?_
      refine sim_iconst (1) dL_owners_15 (by decide +kernel) ?_
      exact sim_iret dL_owners_16 rfl
    exact simx_none)
theorem q_L_owners : am_Cal m_L_owners 4 0 := ⟨am_mem 655 (w := Cond.codeWith yL_owners cL_owners 5 (some .int) [(0, 10, 13, 21)]) (by decide +kernel) rfl, am_mem 55 (w := Cond.initialized RL) (by decide +kernel) rfl, fun _ => am_mem 654 (w := Cond.static yL_owners) (by decide +kernel) rfl, fun z => absurd rfl z, fun z => absurd z (by decide), fun z => absurd z (by decide), by decide +kernel, by decide +kernel, Nat.le_of_ble_eq_true rfl⟩
abbrev m_X7_isParent : am_M := (yX7_isParent, cX7_isParent, 3, some .boolean, [])
def f_X7_isParent (a0 : Nat × Nat) (x1 : Int32) (x2 : Int32) (h : am_H) : am_R := m_gR (some a0) 7 2 h fun o1 => m_aI o1 0 x2 h fun v2 => m_bJ (f_X10_has v2 x1 h) fun h3 v4 => m_rz h3 v4
theorem k_X7_isParent (d : Nat) (hd : 1 ≤ d) (a0 : Nat × Nat) (x1 : Int32) (x2 : Int32) (h : am_H) : am_Con m_X7_isParent d [.inr (.inr (some a0)), .inl x1, .inl x2] h (f_X7_isParent a0 x1 x2 h) := am_con (by decide +kernel) (Nat.le_of_ble_eq_true rfl) (by
  unfold f_X7_isParent
  refine sim_aload_n dX7_isParent_0 rfl ?_
  refine sim_gR 7 2 dX7_isParent_1 rfl wf_RX7_15 (Nat.le_of_ble_eq_true rfl) rfl (fun o1 => ?_)
  refine sim_iload_n dX7_isParent_4 rfl ?_
  refine sim_aI dX7_isParent_5 (fun v2 => ?_)
  refine sim_iload_n dX7_isParent_6 rfl ?_
  refine sim_staticN (d - 1) dX7_isParent_7 (k_X10_has (d - 1) (by omega) _ _ _) q_X10_has wn_RX7_25 rfl rfl (by omega) (Nat.le_of_ble_eq_true rfl) am_nJ am_xJ (am_rJ fun h3 v4 => ?_)
  exact sim_zret dX7_isParent_10 rfl)
theorem q_X7_isParent : am_Cal m_X7_isParent 2 2 := ⟨am_mem 737 (w := Cond.code yX7_isParent cX7_isParent 3 (some .boolean)) (by decide +kernel) rfl, am_mem 57 (w := Cond.initialized RX7) (by decide +kernel) rfl, fun z => absurd z (by decide), fun _ => am_mem 735 (w := Cond.instanceMethod yX7_isParent) (by decide +kernel) rfl, fun z => absurd z (by decide), fun _ => am_mem 736 (w := Cond.selects RX7 yX7_isParent yX7_isParent) (by decide +kernel) rfl, by decide +kernel, by decide +kernel, Nat.le_of_ble_eq_true rfl⟩
abbrev m_X7_setParent : am_M := (yX7_setParent, cX7_setParent, 4, none, [])
def f_X7_setParent (a0 : Nat × Nat) (x1 : Int32) (x2 : Int32) (x3 : Int32) (h : am_H) : am_R := m_gR (some a0) 7 2 h fun o1 => m_gR (some a0) 7 2 h fun o2 => m_aI o2 0 x1 h fun v3 => m_bJ (f_X10_with v3 x2 x3 h) fun h4 v5 => m_sI o1 x1 v5 h4 fun h6 => m_ao (some a0) 7 fun a9 => m_bV (f_X7_findAbove a9 h6) fun h7 => m_rt h7 none
theorem k_X7_setParent (d : Nat) (hd : 3 ≤ d) (a0 : Nat × Nat) (x1 : Int32) (x2 : Int32) (x3 : Int32) (h : am_H) : am_Con m_X7_setParent d [.inr (.inr (some a0)), .inl x1, .inl x2, .inl x3] h (f_X7_setParent a0 x1 x2 x3 h) := am_con (by decide +kernel) (Nat.le_of_ble_eq_true rfl) (by
  unfold f_X7_setParent
  refine sim_aload_n dX7_setParent_0 rfl ?_
  refine sim_gR 7 2 dX7_setParent_1 rfl wf_RX7_15 (Nat.le_of_ble_eq_true rfl) rfl (fun o1 => ?_)
  refine sim_iload_n dX7_setParent_4 rfl ?_
  refine sim_aload_n dX7_setParent_5 rfl ?_
  refine sim_gR 7 2 dX7_setParent_6 rfl wf_RX7_15 (Nat.le_of_ble_eq_true rfl) rfl (fun o2 => ?_)
  refine sim_iload_n dX7_setParent_9 rfl ?_
  refine sim_aI dX7_setParent_10 (fun v3 => ?_)
  refine sim_iload_n dX7_setParent_11 rfl ?_
  refine sim_iload_n dX7_setParent_12 rfl ?_
  refine sim_staticN (d - 1) dX7_setParent_13 (k_X10_with (d - 1) (by omega) _ _ _ _) q_X10_with wn_RX7_29 rfl rfl (by omega) (Nat.le_of_ble_eq_true rfl) am_nJ am_xJ (am_rJ fun h4 v5 => ?_)
  refine sim_sI dX7_setParent_16 (fun h6 => ?_)
  refine sim_aload_n dX7_setParent_17 rfl ?_
  refine sim_ao0 (fun a9 e => ?_)
  refine sim_virt (d - 1) e dX7_setParent_18 (k_X7_findAbove (d - 1) (by omega) _  _) q_X7_findAbove rfl rfl wm_RX7_33 rfl rfl (by omega) (Nat.le_of_ble_eq_true rfl) am_nV (am_rV fun h7 => ?_) am_eV
  exact sim_vret dX7_setParent_21 rfl)
theorem q_X7_setParent : am_Cal m_X7_setParent 3 2 := ⟨am_mem 741 (w := Cond.code yX7_setParent cX7_setParent 4 none) (by decide +kernel) rfl, am_mem 57 (w := Cond.initialized RX7) (by decide +kernel) rfl, fun z => absurd z (by decide), fun _ => am_mem 739 (w := Cond.instanceMethod yX7_setParent) (by decide +kernel) rfl, fun z => absurd z (by decide), fun _ => am_mem 740 (w := Cond.selects RX7 yX7_setParent yX7_setParent) (by decide +kernel) rfl, by decide +kernel, by decide +kernel, Nat.le_of_ble_eq_true rfl⟩
abbrev m_X10_parent : am_M := (yX10_parent, cX10_parent, 5, some .boolean, [])
def f_X10_parent_106  (x4 : Int32) (h : am_H) : am_R := m_rz h x4
theorem t_X10_parent_106 (d : Nat) (hd : 7 ≤ d)  (x4 : Int32) (h : am_H) : Sim m_X10_parent d 106 [none, none, none, none, some (.inl x4)] [] h (f_X10_parent_106  x4 h) := by
  unfold f_X10_parent_106
  refine sim_iload dX10_parent_106 rfl ?_
  exact sim_zret dX10_parent_108 rfl
def f_X10_parent_75  (a0 : Nat × Nat) (x1 : Int32) (x2 : Int32) (x3 : Int32) (h : am_H) : am_R := m_gR (some a0) 10 7 h fun o19 => m_ao o19 7 fun a22 => m_bI (f_X7_isParent a22 x2 x1 h) fun h20 v21 => if v21 = x3 then (f_X10_parent_106 v21 h20) else (m_gR (some a0) 10 7 h20 fun o23 => m_ao o23 7 fun a26 => m_bV (f_X7_setParent a26 x1 x2 x3 h20) fun h24 => m_ao (some a0) 10 fun a29 => m_bV (f_X10_letTaggedWorksWait a29 h24) fun h27 => f_X10_parent_106 v21 h27)
theorem t_X10_parent_75 (d : Nat) (hd : 7 ≤ d)  (a0 : Nat × Nat) (x1 : Int32) (x2 : Int32) (x3 : Int32) (h : am_H) : Sim m_X10_parent d 75 [some (.inr (.inr (some a0))), some (.inl x1), some (.inl x2), some (.inl x3), none] [] h (f_X10_parent_75  a0 x1 x2 x3 h) := by
  unfold f_X10_parent_75
  refine sim_aload_n dX10_parent_75 rfl ?_
  refine sim_gR 10 7 dX10_parent_76 rfl wf_RX10_34 (Nat.le_of_ble_eq_true rfl) rfl (fun o19 => ?_)
  refine sim_iload_n dX10_parent_79 rfl ?_
  refine sim_iload_n dX10_parent_80 rfl ?_
  refine sim_ao2 (fun a22 e => ?_)
  refine sim_virt (d - 1) e dX10_parent_81 (k_X7_isParent (d - 1) (by omega) _ _ _ _) q_X7_isParent rfl rfl wm_RX10_213 rfl rfl (by omega) (Nat.le_of_ble_eq_true rfl) am_nI (am_rI fun h20 v21 => ?_) am_eI
  refine sim_istore dX10_parent_84 (Nat.le_of_ble_eq_true rfl) ?_
  refine sim_iload dX10_parent_86 rfl ?_
  refine sim_iload_n dX10_parent_88 rfl ?_
  refine sim_ic_eq 106 dX10_parent_89 (by decide) (fun c => ?_) (fun c => ?_)
  · exact sim_lv (am_leN (am_leN (am_leN (am_leN (am_leS am_leT))))) (t_X10_parent_106 d (by omega) _ _)
  · refine sim_aload_n dX10_parent_92 rfl ?_
    refine sim_gR 10 7 dX10_parent_93 rfl wf_RX10_34 (Nat.le_of_ble_eq_true rfl) rfl (fun o23 => ?_)
    refine sim_iload_n dX10_parent_96 rfl ?_
    refine sim_iload_n dX10_parent_97 rfl ?_
    refine sim_iload_n dX10_parent_98 rfl ?_
    refine sim_ao3 (fun a26 e => ?_)
    refine sim_virt (d - 1) e dX10_parent_99 (k_X7_setParent (d - 1) (by omega) _ _ _ _ _) q_X7_setParent rfl rfl wm_RX10_216 rfl rfl (by omega) (Nat.le_of_ble_eq_true rfl) am_nV (am_rV fun h24 => ?_) am_eV
    refine sim_aload_n dX10_parent_102 rfl ?_
    refine sim_ao0 (fun a29 e => ?_)
    refine sim_virt (d - 1) e dX10_parent_103 (k_X10_letTaggedWorksWait (d - 1) (by omega) _  _) q_X10_letTaggedWorksWait rfl rfl wm_RX10_200 rfl rfl (by omega) (Nat.le_of_ble_eq_true rfl) am_nV (am_rV fun h27 => ?_) am_eV
    exact sim_lv (am_leN (am_leN (am_leN (am_leN (am_leS am_leT))))) (t_X10_parent_106 d (by omega) _ _)
def f_X10_parent_65   (h : am_H) : am_R := m_ex h 2
theorem t_X10_parent_65 (d : Nat) (hd : 7 ≤ d)   (h : am_H) : Sim m_X10_parent d 65 [none, none, none, none, none] [] h (f_X10_parent_65   h) := by
  unfold f_X10_parent_65
  exact sim_throw 2 (by decide) dX10_parent_65 dX10_parent_68 dX10_parent_69 dX10_parent_71 dX10_parent_74 wx_RX10_77 wy_2 ws_RX10_211 at_RX10_81 gd_RX10_81 (by omega) (Nat.le_of_ble_eq_true rfl)
def f_X10_parent (a0 : Nat × Nat) (x1 : Int32) (x2 : Int32) (x3 : Int32) (h : am_H) : am_R := m_ao (some a0) 10 fun a3 => m_bV (f_X10_checkTag a3 x1 h) fun h1 => m_ao (some a0) 10 fun a6 => m_bV (f_X10_checkTag a6 x2 h1) fun h4 => if x1 = x2 then (m_ex h4 1) else (m_gR (some a0) 10 7 h4 fun o7 => m_ao o7 7 fun a10 => m_bI (f_X7_kindOf a10 x1 h4) fun h8 v9 => if v9 = (1 : Int32) then (m_gR (some a0) 10 7 h8 fun o11 => m_ao o11 7 fun a14 => m_bI (f_X7_kindOf a14 x2 h8) fun h12 v13 => if v13 = (1 : Int32) then (if x3 = 0 then (f_X10_parent_75 a0 x1 x2 x3 h12) else (m_gR (some a0) 10 7 h12 fun o15 => m_ao o15 7 fun a18 => m_bI (f_X7_isAbove a18 x1 x2 h12) fun h16 v17 => if v17 = 0 then (f_X10_parent_75 a0 x1 x2 x3 h16) else (f_X10_parent_65 h16))) else (f_X10_parent_65 h12)) else (f_X10_parent_65 h8))
theorem k_X10_parent (d : Nat) (hd : 7 ≤ d) (a0 : Nat × Nat) (x1 : Int32) (x2 : Int32) (x3 : Int32) (h : am_H) : am_Con m_X10_parent d [.inr (.inr (some a0)), .inl x1, .inl x2, .inl x3] h (f_X10_parent a0 x1 x2 x3 h) := am_con (by decide +kernel) (Nat.le_of_ble_eq_true rfl) (by
  unfold f_X10_parent
  refine sim_aload_n dX10_parent_0 rfl ?_
  refine sim_iload_n dX10_parent_1 rfl ?_
  refine sim_ao1 (fun a3 e => ?_)
  refine sim_virt (d - 1) e dX10_parent_2 (k_X10_checkTag (d - 1) (by omega) _ _ _) q_X10_checkTag rfl rfl wm_RX10_189 rfl rfl (by omega) (Nat.le_of_ble_eq_true rfl) am_nV (am_rV fun h1 => ?_) am_eV
  refine sim_aload_n dX10_parent_5 rfl ?_
  refine sim_iload_n dX10_parent_6 rfl ?_
  refine sim_ao1 (fun a6 e => ?_)
  refine sim_virt (d - 1) e dX10_parent_7 (k_X10_checkTag (d - 1) (by omega) _ _ _) q_X10_checkTag rfl rfl wm_RX10_189 rfl rfl (by omega) (Nat.le_of_ble_eq_true rfl) am_nV (am_rV fun h4 => ?_) am_eV
  refine sim_iload_n dX10_parent_10 rfl ?_
  refine sim_iload_n dX10_parent_11 rfl ?_
  refine sim_ic_ne 25 dX10_parent_12 (by decide) (fun c => ?_) (fun c => ?_)
  · refine sim_aload_n dX10_parent_25 rfl ?_
    refine sim_gR 10 7 dX10_parent_26 rfl wf_RX10_34 (Nat.le_of_ble_eq_true rfl) rfl (fun o7 => ?_)
    refine sim_iload_n dX10_parent_29 rfl ?_
    refine sim_ao1 (fun a10 e => ?_)
    refine sim_virt (d - 1) e dX10_parent_30 (k_X7_kindOf (d - 1) (by omega) _ _ _) q_X7_kindOf rfl rfl wm_RX10_192 rfl rfl (by omega) (Nat.le_of_ble_eq_true rfl) am_nI (am_rI fun h8 v9 => ?_) am_eI
    refine sim_iconst (1) dX10_parent_33 (by decide +kernel) ?_
    refine sim_ic_ne 65 dX10_parent_34 (by decide) (fun c => ?_) (fun c => ?_)
    · exact sim_lv (am_leN (am_leN (am_leN (am_leN (am_leN am_leT))))) (t_X10_parent_65 d (by omega) _)
    · refine sim_aload_n dX10_parent_37 rfl ?_
      refine sim_gR 10 7 dX10_parent_38 rfl wf_RX10_34 (Nat.le_of_ble_eq_true rfl) rfl (fun o11 => ?_)
      refine sim_iload_n dX10_parent_41 rfl ?_
      refine sim_ao1 (fun a14 e => ?_)
      refine sim_virt (d - 1) e dX10_parent_42 (k_X7_kindOf (d - 1) (by omega) _ _ _) q_X7_kindOf rfl rfl wm_RX10_192 rfl rfl (by omega) (Nat.le_of_ble_eq_true rfl) am_nI (am_rI fun h12 v13 => ?_) am_eI
      refine sim_iconst (1) dX10_parent_45 (by decide +kernel) ?_
      refine sim_ic_ne 65 dX10_parent_46 (by decide) (fun c => ?_) (fun c => ?_)
      · exact sim_lv (am_leN (am_leN (am_leN (am_leN (am_leN am_leT))))) (t_X10_parent_65 d (by omega) _)
      · refine sim_iload_n dX10_parent_49 rfl ?_
        refine sim_if_eq 75 dX10_parent_50 (by decide) (fun c => ?_) (fun c => ?_)
        · exact sim_lv (am_leS (am_leS (am_leS (am_leS (am_leN am_leT))))) (t_X10_parent_75 d (by omega) _ _ _ _ _)
        · refine sim_aload_n dX10_parent_53 rfl ?_
          refine sim_gR 10 7 dX10_parent_54 rfl wf_RX10_34 (Nat.le_of_ble_eq_true rfl) rfl (fun o15 => ?_)
          refine sim_iload_n dX10_parent_57 rfl ?_
          refine sim_iload_n dX10_parent_58 rfl ?_
          refine sim_ao2 (fun a18 e => ?_)
          refine sim_virt (d - 1) e dX10_parent_59 (k_X7_isAbove (d - 1) (by omega) _ _ _ _) q_X7_isAbove rfl rfl wm_RX10_203 rfl rfl (by omega) (Nat.le_of_ble_eq_true rfl) am_nI (am_rI fun h16 v17 => ?_) am_eI
          refine sim_if_eq 75 dX10_parent_62 (by decide) (fun c => ?_) (fun c => ?_)
          · exact sim_lv (am_leS (am_leS (am_leS (am_leS (am_leN am_leT))))) (t_X10_parent_75 d (by omega) _ _ _ _ _)
          · exact sim_lv (am_leN (am_leN (am_leN (am_leN (am_leN am_leT))))) (t_X10_parent_65 d (by omega) _)
  · exact sim_throw 1 (by decide) dX10_parent_15 dX10_parent_18 dX10_parent_19 dX10_parent_21 dX10_parent_24 wx_RX10_66 wy_1 ws_RX10_86 at_RX10_70 gd_RX10_70 (by omega) (Nat.le_of_ble_eq_true rfl))
theorem q_X10_parent : am_Cal m_X10_parent 3 2 := ⟨am_mem 732 (w := Cond.code yX10_parent cX10_parent 5 (some .boolean)) (by decide +kernel) rfl, am_mem 56 (w := Cond.initialized RX10) (by decide +kernel) rfl, fun z => absurd z (by decide), fun _ => am_mem 730 (w := Cond.instanceMethod yX10_parent) (by decide +kernel) rfl, fun z => absurd z (by decide), fun _ => am_mem 731 (w := Cond.selects RX10 yX10_parent yX10_parent) (by decide +kernel) rfl, by decide +kernel, by decide +kernel, Nat.le_of_ble_eq_true rfl⟩
abbrev m_L_parent : am_M := (yL_parent, cL_parent, 6, some .int, [(0, 19, 22, 21), (0, 19, 26, 13), (0, 19, 30, 15)])
def f_L_parent_18  (s0 : Int64) (s1 : Int32) (s2 : Option (Nat × Nat)) (h : am_H) : am_R := m_sL s2 s1 s0 h fun h6 => m_ri h6 (0 : Int32)
theorem t_L_parent_18 (d : Nat) (hd : 8 ≤ d)  (s0 : Int64) (s1 : Int32) (s2 : Option (Nat × Nat)) (h : am_H) : Sim m_L_parent d 18 [none, none, none, none, none, none] [.inr (.inl s0), .inl s1, .inr (.inr s2)] h (f_L_parent_18  s0 s1 s2 h) := by
  unfold f_L_parent_18
  refine sim_sL dL_parent_18 (fun h6 => ?_)
  refine sim_goto 34 dL_parent_19 (by decide) ?_
  refine sim_iconst (0) dL_parent_34 (by decide +kernel) ?_
  exact sim_iret dL_parent_35 rfl
def f_L_parent (x0 : Option (Nat × Nat)) (x1 : Int32) (x2 : Int32) (x3 : Int32) (x4 : Option (Nat × Nat)) (h : am_H) : am_R := m_ao x0 10 fun a3 => m_bIx (f_X10_parent a3 x1 x2 x3 h) (fun h1 v2 => if v2 = 0 then (f_L_parent_18 (0 : Int64) (0 : Int32) x4 h1) else (f_L_parent_18 (1 : Int64) (0 : Int32) x4 h1)) (fun h4 e5 => if e5 = 0 then (m_ri h4 (1 : Int32)) else if e5 = 1 then (m_ri h4 (2 : Int32)) else if e5 = 2 then (m_ri h4 (3 : Int32)) else none)
theorem k_L_parent (d : Nat) (hd : 8 ≤ d) (x0 : Option (Nat × Nat)) (x1 : Int32) (x2 : Int32) (x3 : Int32) (x4 : Option (Nat × Nat)) (h : am_H) : am_Con m_L_parent d [.inr (.inr x0), .inl x1, .inl x2, .inl x3, .inr (.inr x4)] h (f_L_parent x0 x1 x2 x3 x4 h) := am_conX (by decide +kernel) (Nat.le_of_ble_eq_true rfl) (by
  unfold f_L_parent
  refine sim_aload dL_parent_0 rfl ?_
  refine sim_iconst (0) dL_parent_2 (by decide +kernel) ?_
  refine sim_aload_n dL_parent_3 rfl ?_
  refine sim_iload_n dL_parent_4 rfl ?_
  refine sim_iload_n dL_parent_5 rfl ?_
  refine sim_iload_n dL_parent_6 rfl ?_
  refine sim_ao3 (fun a3 e => ?_)
  refine sim_virt (d - 1) e dL_parent_7 (k_X10_parent (d - 1) (by omega) _ _ _ _ _) q_X10_parent rfl rfl wm_RL_70 rfl rfl (by omega) (Nat.le_of_ble_eq_true rfl) am_nIx (am_rIx fun h1 v2 => ?_) (am_eIx fun h9 k9 => ?_)
  · refine sim_if_eq 17 dL_parent_10 (by decide) (fun c => ?_) (fun c => ?_)
    · refine sim_lconst (0) dL_parent_17 (by decide +kernel) ?_
      exact sim_lv (am_leN (am_leN (am_leN (am_leN (am_leN (am_leN am_leT)))))) (t_L_parent_18 d (by omega) _ _ _ _)
    · refine sim_lconst (1) dL_parent_13 (by decide +kernel) ?_
      refine sim_goto 18 dL_parent_14 (by decide) ?_
      exact sim_lv (am_leN (am_leN (am_leN (am_leN (am_leN (am_leN am_leT)))))) (t_L_parent_18 d (by omega) _ _ _ _)
  · refine simx_case (fun cx => ?_) (fun cx => ?_)
    · subst cx
      refine simx_catch [] (0, 19, 22, 21) [(0, 19, 26, 13), (0, 19, 30, 15)] rfl ⟨by decide, by decide⟩ (by decide) wx_RL_21 wca_0 (by decide) (fun z hz => by cases hz) ?_
      refine sim_astore dL_parent_22 (Nat.le_of_ble_eq_true rfl) ?_
      refine sim_iconst (1) dL_parent_24 (by decide +kernel) ?_
      exact sim_iret dL_parent_25 rfl
    refine simx_case (fun cx => ?_) (fun cx => ?_)
    · subst cx
      refine simx_catch [(0, 19, 22, 21)] (0, 19, 26, 13) [(0, 19, 30, 15)] rfl ⟨by decide, by decide⟩ (by decide) wx_RL_13 wca_1 (by decide) (fun z hz => by simp only [List.mem_cons, List.not_mem_nil, or_false] at hz; subst hz; exact ⟨by decide, 0, _, by decide, by decide, wx_RL_21⟩) ?_
      refine sim_astore dL_parent_26 (Nat.le_of_ble_eq_true rfl) ?_
      refine sim_iconst (2) dL_parent_28 (by decide +kernel) ?_
      exact sim_iret dL_parent_29 rfl
    refine simx_case (fun cx => ?_) (fun cx => ?_)
    · subst cx
      refine simx_catch [(0, 19, 22, 21), (0, 19, 26, 13)] (0, 19, 30, 15) [] rfl ⟨by decide, by decide⟩ (by decide) wx_RL_15 wca_2 (by decide) (fun z hz => by
        simp only [List.mem_cons, List.not_mem_nil, or_false] at hz
        rcases hz with rfl | rfl
        · exact ⟨by decide, 0, _, by decide, by decide, wx_RL_21⟩
        · exact ⟨by decide, 1, _, by decide, by decide, wx_RL_13⟩) ?_
      refine sim_astore dL_parent_30 (Nat.le_of_ble_eq_true rfl) ?_
      refine sim_iconst (3) dL_parent_32 (by decide +kernel) ?_
      exact sim_iret dL_parent_33 rfl
    exact simx_none)
theorem q_L_parent : am_Cal m_L_parent 5 0 := ⟨am_mem 728 (w := Cond.codeWith yL_parent cL_parent 6 (some .int) [(0, 19, 22, 21), (0, 19, 26, 13), (0, 19, 30, 15)]) (by decide +kernel) rfl, am_mem 55 (w := Cond.initialized RL) (by decide +kernel) rfl, fun _ => am_mem 727 (w := Cond.static yL_parent) (by decide +kernel) rfl, fun z => absurd rfl z, fun z => absurd z (by decide), fun z => absurd z (by decide), by decide +kernel, by decide +kernel, Nat.le_of_ble_eq_true rfl⟩
abbrev m_X10_pass : am_M := (yX10_pass, cX10_pass, 2, some .int, [])
def f_X10_pass_11   (h : am_H) : am_R := m_ex h 1
theorem t_X10_pass_11 (d : Nat) (hd : 6 ≤ d)   (h : am_H) : Sim m_X10_pass d 11 [none, none] [] h (f_X10_pass_11   h) := by
  unfold f_X10_pass_11
  exact sim_throw 1 (by decide) dX10_pass_11 dX10_pass_14 dX10_pass_15 dX10_pass_17 dX10_pass_20 wx_RX10_66 wy_1 ws_RX10_68 at_RX10_70 gd_RX10_70 (by omega) (Nat.le_of_ble_eq_true rfl)
def f_X10_pass (a0 : Nat × Nat) (x1 : Int32) (h : am_H) : am_R := if x1 < (1 : Int32) then (f_X10_pass_11 h) else (if x1 ≤ (100 : Int32) then (m_gI (some a0) 10 0 h fun v1 => if (v1 + x1) ≤ (2000 : Int32) then (m_gI (some a0) 10 0 h fun v2 => m_pI (some a0) 10 0 (v2 + x1) h fun h3 => m_gI (some a0) 10 0 h3 fun v4 => m_ri h3 v4) else (m_ex h 2)) else (f_X10_pass_11 h))
theorem k_X10_pass (d : Nat) (hd : 6 ≤ d) (a0 : Nat × Nat) (x1 : Int32) (h : am_H) : am_Con m_X10_pass d [.inr (.inr (some a0)), .inl x1] h (f_X10_pass a0 x1 h) := am_con (by decide +kernel) (Nat.le_of_ble_eq_true rfl) (by
  unfold f_X10_pass
  refine sim_iload_n dX10_pass_0 rfl ?_
  refine sim_iconst (1) dX10_pass_1 (by decide +kernel) ?_
  refine sim_ic_lt 11 dX10_pass_2 (by decide) (fun c => ?_) (fun c => ?_)
  · exact sim_lv (am_leN (am_leN am_leT)) (t_X10_pass_11 d (by omega) _)
  · refine sim_iload_n dX10_pass_5 rfl ?_
    refine sim_bipush (100) dX10_pass_6 (by decide +kernel) ?_
    refine sim_ic_le 21 dX10_pass_8 (by decide) (fun c => ?_) (fun c => ?_)
    · refine sim_aload_n dX10_pass_21 rfl ?_
      refine sim_gI 10 0 dX10_pass_22 rfl wf_RX10_73 (Nat.le_of_ble_eq_true rfl) rfl (fun v1 => ?_)
      refine sim_iload_n dX10_pass_25 rfl ?_
      refine sim_iadd dX10_pass_26 ?_
      refine sim_sipush (2000) dX10_pass_27 (by decide +kernel) ?_
      refine sim_ic_le 43 dX10_pass_30 (by decide) (fun c => ?_) (fun c => ?_)
      · refine sim_aload_n dX10_pass_43 rfl ?_
        refine sim_dup_r dX10_pass_44 ?_
        refine sim_gI 10 0 dX10_pass_45 rfl wf_RX10_73 (Nat.le_of_ble_eq_true rfl) rfl (fun v2 => ?_)
        refine sim_iload_n dX10_pass_48 rfl ?_
        refine sim_iadd dX10_pass_49 ?_
        refine sim_pI 10 0 dX10_pass_50 rfl wf_RX10_73 (Nat.le_of_ble_eq_true rfl) rfl (Or.inl rfl) rfl (fun h3 => ?_)
        refine sim_aload_n dX10_pass_53 rfl ?_
        refine sim_gI 10 0 dX10_pass_54 rfl wf_RX10_73 (Nat.le_of_ble_eq_true rfl) rfl (fun v4 => ?_)
        exact sim_iret dX10_pass_57 rfl
      · exact sim_throw 2 (by decide) dX10_pass_33 dX10_pass_36 dX10_pass_37 dX10_pass_39 dX10_pass_42 wx_RX10_77 wy_2 ws_RX10_79 at_RX10_81 gd_RX10_81 (by omega) (Nat.le_of_ble_eq_true rfl)
    · exact sim_lv (am_leN (am_leN am_leT)) (t_X10_pass_11 d (by omega) _))
theorem q_X10_pass : am_Cal m_X10_pass 1 2 := ⟨am_mem 365 (w := Cond.code yX10_pass cX10_pass 2 (some .int)) (by decide +kernel) rfl, am_mem 56 (w := Cond.initialized RX10) (by decide +kernel) rfl, fun z => absurd z (by decide), fun _ => am_mem 363 (w := Cond.instanceMethod yX10_pass) (by decide +kernel) rfl, fun z => absurd z (by decide), fun _ => am_mem 364 (w := Cond.selects RX10 yX10_pass yX10_pass) (by decide +kernel) rfl, by decide +kernel, by decide +kernel, Nat.le_of_ble_eq_true rfl⟩
abbrev m_L_pass : am_M := (yL_pass, cL_pass, 4, some .int, [(0, 9, 12, 13), (0, 9, 15, 15)])
def f_L_pass (x0 : Option (Nat × Nat)) (x1 : Int32) (x2 : Option (Nat × Nat)) (h : am_H) : am_R := m_ao x0 10 fun a3 => m_bIx (f_X10_pass a3 x1 h) (fun h1 v2 => m_sL x2 (0 : Int32) (Int32.toInt64 v2) h1 fun h6 => m_ri h6 (0 : Int32)) (fun h4 e5 => if e5 = 1 then (m_ri h4 (1 : Int32)) else if e5 = 2 then (m_ri h4 (2 : Int32)) else none)
theorem k_L_pass (d : Nat) (hd : 7 ≤ d) (x0 : Option (Nat × Nat)) (x1 : Int32) (x2 : Option (Nat × Nat)) (h : am_H) : am_Con m_L_pass d [.inr (.inr x0), .inl x1, .inr (.inr x2)] h (f_L_pass x0 x1 x2 h) := am_conX (by decide +kernel) (Nat.le_of_ble_eq_true rfl) (by
  unfold f_L_pass
  refine sim_aload_n dL_pass_0 rfl ?_
  refine sim_iconst (0) dL_pass_1 (by decide +kernel) ?_
  refine sim_aload_n dL_pass_2 rfl ?_
  refine sim_iload_n dL_pass_3 rfl ?_
  refine sim_ao1 (fun a3 e => ?_)
  refine sim_virt (d - 1) e dL_pass_4 (k_X10_pass (d - 1) (by omega) _ _ _) q_X10_pass rfl rfl wm_RL_7 rfl rfl (by omega) (Nat.le_of_ble_eq_true rfl) am_nIx (am_rIx fun h1 v2 => ?_) (am_eIx fun h9 k9 => ?_)
  · refine sim_i2l dL_pass_7 ?_
    refine sim_sL dL_pass_8 (fun h6 => ?_)
    refine sim_goto 18 dL_pass_9 (by decide) ?_
    refine sim_iconst (0) dL_pass_18 (by decide +kernel) ?_
    exact sim_iret dL_pass_19 rfl
  · refine simx_case (fun cx => ?_) (fun cx => ?_)
    · subst cx
      refine simx_catch [] (0, 9, 12, 13) [(0, 9, 15, 15)] rfl ⟨by decide, by decide⟩ (by decide) wx_RL_13 wca_1 (by decide) (fun z hz => by cases hz) ?_
      refine sim_astore_n dL_pass_12 (Nat.le_of_ble_eq_true rfl) ?_
      refine sim_iconst (1) dL_pass_13 (by decide +kernel) ?_
      exact sim_iret dL_pass_14 rfl
    refine simx_case (fun cx => ?_) (fun cx => ?_)
    · subst cx
      refine simx_catch [(0, 9, 12, 13)] (0, 9, 15, 15) [] rfl ⟨by decide, by decide⟩ (by decide) wx_RL_15 wca_2 (by decide) (fun z hz => by simp only [List.mem_cons, List.not_mem_nil, or_false] at hz; subst hz; exact ⟨by decide, 1, _, by decide, by decide, wx_RL_13⟩) ?_
      refine sim_astore_n dL_pass_15 (Nat.le_of_ble_eq_true rfl) ?_
      refine sim_iconst (2) dL_pass_16 (by decide +kernel) ?_
      exact sim_iret dL_pass_17 rfl
    exact simx_none)
theorem q_L_pass : am_Cal m_L_pass 3 0 := ⟨am_mem 359 (w := Cond.codeWith yL_pass cL_pass 4 (some .int) [(0, 9, 12, 13), (0, 9, 15, 15)]) (by decide +kernel) rfl, am_mem 55 (w := Cond.initialized RL) (by decide +kernel) rfl, fun _ => am_mem 358 (w := Cond.static yL_pass) (by decide +kernel) rfl, fun z => absurd rfl z, fun z => absurd z (by decide), fun z => absurd z (by decide), by decide +kernel, by decide +kernel, Nat.le_of_ble_eq_true rfl⟩
abbrev m_X10_post : am_M := (yX10_post, cX10_post, 3, some .int, [])
def f_X10_post_20   (h : am_H) : am_R := m_ex h 2
theorem t_X10_post_20 (d : Nat) (hd : 8 ≤ d)   (h : am_H) : Sim m_X10_post d 20 [none, none, none] [] h (f_X10_post_20   h) := by
  unfold f_X10_post_20
  exact sim_throw 2 (by decide) dX10_post_20 dX10_post_23 dX10_post_24 dX10_post_26 dX10_post_29 wx_RX10_77 wy_2 ws_RX10_145 at_RX10_81 gd_RX10_81 (by omega) (Nat.le_of_ble_eq_true rfl)
def f_X10_post (a0 : Nat × Nat) (x1 : Int32) (h : am_H) : am_R := m_ao (some a0) 10 fun a3 => m_bR (f_X10_workAt a3 x1 h) fun h1 o2 => m_ao o2 9 fun a6 => m_bI (f_X9_isPosted a6 h1) fun h4 v5 => if v5 = 0 then (m_gI o2 9 3 h4 fun v7 => if v7 = 0 then (f_X10_post_20 h4) else (m_gI (some a0) 10 0 h4 fun v8 => m_pI o2 9 4 v8 h4 fun h9 => m_gI o2 9 3 h9 fun v10 => m_ri h9 v10)) else (f_X10_post_20 h4)
theorem k_X10_post (d : Nat) (hd : 8 ≤ d) (a0 : Nat × Nat) (x1 : Int32) (h : am_H) : am_Con m_X10_post d [.inr (.inr (some a0)), .inl x1] h (f_X10_post a0 x1 h) := am_con (by decide +kernel) (Nat.le_of_ble_eq_true rfl) (by
  unfold f_X10_post
  refine sim_aload_n dX10_post_0 rfl ?_
  refine sim_iload_n dX10_post_1 rfl ?_
  refine sim_ao1 (fun a3 e => ?_)
  refine sim_virt (d - 1) e dX10_post_2 (k_X10_workAt (d - 1) (by omega) _ _ _) q_X10_workAt rfl rfl wm_RX10_112 rfl rfl (by omega) (Nat.le_of_ble_eq_true rfl) am_nR (am_rR fun h1 o2 => ?_) am_eR
  refine sim_astore_n dX10_post_5 (Nat.le_of_ble_eq_true rfl) ?_
  refine sim_aload_n dX10_post_6 rfl ?_
  refine sim_ao0 (fun a6 e => ?_)
  refine sim_virt (d - 1) e dX10_post_7 (k_X9_isPosted (d - 1) (by omega) _  _) q_X9_isPosted rfl rfl wm_RX10_141 rfl rfl (by omega) (Nat.le_of_ble_eq_true rfl) am_nI (am_rI fun h4 v5 => ?_) am_eI
  refine sim_if_ne 20 dX10_post_10 (by decide) (fun c => ?_) (fun c => ?_)
  · exact sim_lv (am_leN (am_leN (am_leN am_leT))) (t_X10_post_20 d (by omega) _)
  · refine sim_aload_n dX10_post_13 rfl ?_
    refine sim_gI 9 3 dX10_post_14 rfl wf_RX10_133 (Nat.le_of_ble_eq_true rfl) rfl (fun v7 => ?_)
    refine sim_if_ne 30 dX10_post_17 (by decide) (fun c => ?_) (fun c => ?_)
    · refine sim_aload_n dX10_post_30 rfl ?_
      refine sim_aload_n dX10_post_31 rfl ?_
      refine sim_gI 10 0 dX10_post_32 rfl wf_RX10_73 (Nat.le_of_ble_eq_true rfl) rfl (fun v8 => ?_)
      refine sim_pI 9 4 dX10_post_35 rfl wf_RX10_147 (Nat.le_of_ble_eq_true rfl) rfl (Or.inl rfl) rfl (fun h9 => ?_)
      refine sim_aload_n dX10_post_38 rfl ?_
      refine sim_gI 9 3 dX10_post_39 rfl wf_RX10_133 (Nat.le_of_ble_eq_true rfl) rfl (fun v10 => ?_)
      exact sim_iret dX10_post_42 rfl
    · exact sim_lv (am_leN (am_leN (am_leN am_leT))) (t_X10_post_20 d (by omega) _))
theorem q_X10_post : am_Cal m_X10_post 1 2 := ⟨am_mem 595 (w := Cond.code yX10_post cX10_post 3 (some .int)) (by decide +kernel) rfl, am_mem 56 (w := Cond.initialized RX10) (by decide +kernel) rfl, fun z => absurd z (by decide), fun _ => am_mem 593 (w := Cond.instanceMethod yX10_post) (by decide +kernel) rfl, fun z => absurd z (by decide), fun _ => am_mem 594 (w := Cond.selects RX10 yX10_post yX10_post) (by decide +kernel) rfl, by decide +kernel, by decide +kernel, Nat.le_of_ble_eq_true rfl⟩
