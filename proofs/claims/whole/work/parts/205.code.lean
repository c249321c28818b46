abbrev m_L_post : am_M := (yL_post, cL_post, 4, some .int, [(0, 9, 12, 21), (0, 9, 15, 15)])
def f_L_post (x0 : Option (Nat × Nat)) (x1 : Int32) (x2 : Option (Nat × Nat)) (h : am_H) : am_R := m_ao x0 10 fun a3 => m_bIx (f_X10_post a3 x1 h) (fun h1 v2 => m_sL x2 (0 : Int32) (Int32.toInt64 v2) h1 fun h6 => m_ri h6 (0 : Int32)) (fun h4 e5 => if e5 = 0 then (m_ri h4 (1 : Int32)) else if e5 = 2 then (m_ri h4 (2 : Int32)) else none)
theorem k_L_post (d : Nat) (hd : 9 ≤ d) (x0 : Option (Nat × Nat)) (x1 : Int32) (x2 : Option (Nat × Nat)) (h : am_H) : am_Con m_L_post d [.inr (.inr x0), .inl x1, .inr (.inr x2)] h (f_L_post x0 x1 x2 h) := am_conX (by decide +kernel) (Nat.le_of_ble_eq_true rfl) (by
  unfold f_L_post
  refine sim_aload_n dL_post_0 rfl ?_
  refine sim_iconst (0) dL_post_1 (by decide +kernel) ?_
  refine sim_aload_n dL_post_2 rfl ?_
  refine sim_iload_n dL_post_3 rfl ?_
  refine sim_ao1 (fun a3 e => ?_)
  refine sim_virt (d - 1) e dL_post_4 (k_X10_post (d - 1) (by omega) _ _ _) q_X10_post rfl rfl wm_RL_40 rfl rfl (by omega) (Nat.le_of_ble_eq_true rfl) am_nIx (am_rIx fun h1 v2 => ?_) (am_eIx fun h9 k9 => ?_)
  · refine sim_i2l dL_post_7 ?_
    refine sim_sL dL_post_8 (fun h6 => ?_)
    refine sim_goto 18 dL_post_9 (by decide) ?_
    refine sim_iconst (0) dL_post_18 (by decide +kernel) ?_
    exact sim_iret dL_post_19 rfl
  · refine simx_case (fun cx => ?_) (fun cx => ?_)
    · subst cx
      refine simx_catch [] (0, 9, 12, 21) [(0, 9, 15, 15)] rfl ⟨by decide, by decide⟩ (by decide) wx_RL_21 wca_0 (by decide) (fun z hz => by cases hz) ?_
      refine sim_astore_n dL_post_12 (Nat.le_of_ble_eq_true rfl) ?_
      refine sim_iconst (1) dL_post_13 (by decide +kernel) ?_
      exact sim_iret dL_post_14 rfl
    refine simx_case (fun cx => ?_) (fun cx => ?_)
    · subst cx
      refine simx_catch [(0, 9, 12, 21)] (0, 9, 15, 15) [] rfl ⟨by decide, by decide⟩ (by decide) wx_RL_15 wca_2 (by decide) (fun z hz => by simp only [List.mem_cons, List.not_mem_nil, or_false] at hz; subst hz; exact ⟨by decide, 0, _, by decide, by decide, wx_RL_21⟩) ?_
      refine sim_astore_n dL_post_15 (Nat.le_of_ble_eq_true rfl) ?_
      refine sim_iconst (2) dL_post_16 (by decide +kernel) ?_
      exact sim_iret dL_post_17 rfl
    exact simx_none)
theorem q_L_post : am_Cal m_L_post 3 0 := ⟨am_mem 591 (w := Cond.codeWith yL_post cL_post 4 (some .int) [(0, 9, 12, 21), (0, 9, 15, 15)]) (by decide +kernel) rfl, am_mem 55 (w := Cond.initialized RL) (by decide +kernel) rfl, fun _ => am_mem 590 (w := Cond.static yL_post) (by decide +kernel) rfl, fun z => absurd rfl z, fun z => absurd z (by decide), fun z => absurd z (by decide), by decide +kernel, by decide +kernel, Nat.le_of_ble_eq_true rfl⟩
abbrev m_X9_fileUnder : am_M := (yX9_fileUnder, cX9_fileUnder, 2, none, [])
def f_X9_fileUnder (a0 : Nat × Nat) (x1 : Int32) (h : am_H) : am_R := m_pI (some a0) 9 8 x1 h fun h1 => m_pZ (some a0) 9 9 (0 : Int32) h1 fun h2 => m_rt h2 none
theorem k_X9_fileUnder (d : Nat) (hd : 0 ≤ d) (a0 : Nat × Nat) (x1 : Int32) (h : am_H) : am_Con m_X9_fileUnder d [.inr (.inr (some a0)), .inl x1] h (f_X9_fileUnder a0 x1 h) := am_con (by decide +kernel) (Nat.le_of_ble_eq_true rfl) (by
  unfold f_X9_fileUnder
  refine sim_aload_n dX9_fileUnder_0 rfl ?_
  refine sim_iload_n dX9_fileUnder_1 rfl ?_
  refine sim_pI 9 8 dX9_fileUnder_2 rfl wf_RX9_73 (Nat.le_of_ble_eq_true rfl) rfl (Or.inl rfl) rfl (fun h1 => ?_)
  refine sim_aload_n dX9_fileUnder_5 rfl ?_
  refine sim_iconst (0) dX9_fileUnder_6 (by decide +kernel) ?_
  refine sim_pZ 9 9 dX9_fileUnder_7 rfl wf_RX9_76 (Nat.le_of_ble_eq_true rfl) rfl (Or.inl rfl) rfl (fun h2 => ?_)
  exact sim_vret dX9_fileUnder_10 rfl)
theorem q_X9_fileUnder : am_Cal m_X9_fileUnder 1 2 := ⟨am_mem 777 (w := Cond.code yX9_fileUnder cX9_fileUnder 2 none) (by decide +kernel) rfl, am_mem 71 (w := Cond.initialized RX9) (by decide +kernel) rfl, fun z => absurd z (by decide), fun _ => am_mem 775 (w := Cond.instanceMethod yX9_fileUnder) (by decide +kernel) rfl, fun z => absurd z (by decide), fun _ => am_mem 776 (w := Cond.selects RX9 yX9_fileUnder yX9_fileUnder) (by decide +kernel) rfl, by decide +kernel, by decide +kernel, Nat.le_of_ble_eq_true rfl⟩
abbrev m_X10_put : am_M := (yX10_put, cX10_put, 6, some .boolean, [])
def f_X10_put (a0 : Nat × Nat) (x1 : Int32) (x2 : Int32) (x3 : Int32) (h : am_H) : am_R := m_ao (some a0) 10 fun a3 => m_bR (f_X10_workAt a3 x1 h) fun h1 o2 => m_ao (some a0) 10 fun a6 => m_bV (f_X10_checkTag a6 x2 h1) fun h4 => m_gI o2 9 7 h4 fun v7 => m_bI (f_X10_has v7 x2 h4) fun h8 v9 => m_gI o2 9 7 h8 fun v10 => m_bI (f_X10_with v10 x2 x3 h8) fun h11 v12 => m_pI o2 9 7 v12 h11 fun h13 => m_gR (some a0) 10 7 h13 fun o14 => m_gI o2 9 7 h13 fun v15 => m_ao o14 7 fun a18 => m_bI (f_X7_belongUnder a18 v15 h13) fun h16 v17 => m_ao o2 9 fun a21 => m_bV (f_X9_fileUnder a21 v17 h16) fun h19 => m_rz h19 v9
theorem k_X10_put (d : Nat) (hd : 8 ≤ d) (a0 : Nat × Nat) (x1 : Int32) (x2 : Int32) (x3 : Int32) (h : am_H) : am_Con m_X10_put d [.inr (.inr (some a0)), .inl x1, .inl x2, .inl x3] h (f_X10_put a0 x1 x2 x3 h) := am_con (by decide +kernel) (Nat.le_of_ble_eq_true rfl) (by
  unfold f_X10_put
  refine sim_aload_n dX10_put_0 rfl ?_
  refine sim_iload_n dX10_put_1 rfl ?_
  refine sim_ao1 (fun a3 e => ?_)
  refine sim_virt (d - 1) e dX10_put_2 (k_X10_workAt (d - 1) (by omega) _ _ _) q_X10_workAt rfl rfl wm_RX10_112 rfl rfl (by omega) (Nat.le_of_ble_eq_true rfl) am_nR (am_rR fun h1 o2 => ?_) am_eR
  refine sim_astore dX10_put_5 (Nat.le_of_ble_eq_true rfl) ?_
  refine sim_aload_n dX10_put_7 rfl ?_
  refine sim_iload_n dX10_put_8 rfl ?_
  refine sim_ao1 (fun a6 e => ?_)
  refine sim_virt (d - 1) e dX10_put_9 (k_X10_checkTag (d - 1) (by omega) _ _ _) q_X10_checkTag rfl rfl wm_RX10_189 rfl rfl (by omega) (Nat.le_of_ble_eq_true rfl) am_nV (am_rV fun h4 => ?_) am_eV
  refine sim_aload dX10_put_12 rfl ?_
  refine sim_gI 9 7 dX10_put_14 rfl wf_RX10_234 (Nat.le_of_ble_eq_true rfl) rfl (fun v7 => ?_)
  refine sim_iload_n dX10_put_17 rfl ?_
  refine sim_static (d - 1) dX10_put_18 (k_X10_has (d - 1) (by omega) _ _ _) q_X10_has wm_RX10_91 rfl rfl (by omega) (Nat.le_of_ble_eq_true rfl) am_nI (am_rI fun h8 v9 => ?_) am_eI
  refine sim_istore dX10_put_21 (Nat.le_of_ble_eq_true rfl) ?_
  refine sim_aload dX10_put_23 rfl ?_
  refine sim_aload dX10_put_25 rfl ?_
  refine sim_gI 9 7 dX10_put_27 rfl wf_RX10_234 (Nat.le_of_ble_eq_true rfl) rfl (fun v10 => ?_)
  refine sim_iload_n dX10_put_30 rfl ?_
  refine sim_iload_n dX10_put_31 rfl ?_
  refine sim_static (d - 1) dX10_put_32 (k_X10_with (d - 1) (by omega) _ _ _ _) q_X10_with wm_RX10_95 rfl rfl (by omega) (Nat.le_of_ble_eq_true rfl) am_nI (am_rI fun h11 v12 => ?_) am_eI
  refine sim_pI 9 7 dX10_put_35 rfl wf_RX10_234 (Nat.le_of_ble_eq_true rfl) rfl (Or.inl rfl) rfl (fun h13 => ?_)
  refine sim_aload dX10_put_38 rfl ?_
  refine sim_aload_n dX10_put_40 rfl ?_
  refine sim_gR 10 7 dX10_put_41 rfl wf_RX10_34 (Nat.le_of_ble_eq_true rfl) rfl (fun o14 => ?_)
  refine sim_aload dX10_put_44 rfl ?_
  refine sim_gI 9 7 dX10_put_46 rfl wf_RX10_234 (Nat.le_of_ble_eq_true rfl) rfl (fun v15 => ?_)
  refine sim_ao1 (fun a18 e => ?_)
  refine sim_virt (d - 1) e dX10_put_49 (k_X7_belongUnder (d - 1) (by omega) _ _ _) q_X7_belongUnder rfl rfl wm_RX10_236 rfl rfl (by omega) (Nat.le_of_ble_eq_true rfl) am_nI (am_rI fun h16 v17 => ?_) am_eI
  refine sim_ao1 (fun a21 e => ?_)
  refine sim_virt (d - 1) e dX10_put_52 (k_X9_fileUnder (d - 1) (by omega) _ _ _) q_X9_fileUnder rfl rfl wm_RX10_239 rfl rfl (by omega) (Nat.le_of_ble_eq_true rfl) am_nV (am_rV fun h19 => ?_) am_eV
  refine sim_iload dX10_put_55 rfl ?_
  exact sim_zret dX10_put_57 rfl)
theorem q_X10_put : am_Cal m_X10_put 3 2 := ⟨am_mem 772 (w := Cond.code yX10_put cX10_put 6 (some .boolean)) (by decide +kernel) rfl, am_mem 56 (w := Cond.initialized RX10) (by decide +kernel) rfl, fun z => absurd z (by decide), fun _ => am_mem 770 (w := Cond.instanceMethod yX10_put) (by decide +kernel) rfl, fun z => absurd z (by decide), fun _ => am_mem 771 (w := Cond.selects RX10 yX10_put yX10_put) (by decide +kernel) rfl, by decide +kernel, by decide +kernel, Nat.le_of_ble_eq_true rfl⟩
abbrev m_L_put : am_M := (yL_put, cL_put, 6, some .int, [(0, 19, 22, 21)])
def f_L_put_18  (s0 : Int64) (s1 : Int32) (s2 : Option (Nat × Nat)) (h : am_H) : am_R := m_sL s2 s1 s0 h fun h6 => m_ri h6 (0 : Int32)
theorem t_L_put_18 (d : Nat) (hd : 9 ≤ d)  (s0 : Int64) (s1 : Int32) (s2 : Option (Nat × Nat)) (h : am_H) : Sim m_L_put d 18 [none, none, none, none, none, none] [.inr (.inl s0), .inl s1, .inr (.inr s2)] h (f_L_put_18  s0 s1 s2 h) := by
  unfold f_L_put_18
  refine sim_sL dL_put_18 (fun h6 => ?_)
  refine sim_goto 26 dL_put_19 (by decide) ?_
  refine sim_iconst (0) dL_put_26 (by decide +kernel) ?_
  exact sim_iret dL_put_27 rfl
def f_L_put (x0 : Option (Nat × Nat)) (x1 : Int32) (x2 : Int32) (x3 : Int32) (x4 : Option (Nat × Nat)) (h : am_H) : am_R := m_ao x0 10 fun a3 => m_bIx (f_X10_put a3 x1 x2 x3 h) (fun h1 v2 => if v2 = 0 then (f_L_put_18 (0 : Int64) (0 : Int32) x4 h1) else (f_L_put_18 (1 : Int64) (0 : Int32) x4 h1)) (fun h4 e5 => if e5 = 0 then (m_ri h4 (1 : Int32)) else none)
theorem k_L_put (d : Nat) (hd : 9 ≤ d) (x0 : Option (Nat × Nat)) (x1 : Int32) (x2 : Int32) (x3 : Int32) (x4 : Option (Nat × Nat)) (h : am_H) : am_Con m_L_put d [.inr (.inr x0), .inl x1, .inl x2, .inl x3, .inr (.inr x4)] h (f_L_put x0 x1 x2 x3 x4 h) := am_conX (by decide +kernel) (Nat.le_of_ble_eq_true rfl) (by
  unfold f_L_put
  refine sim_aload dL_put_0 rfl ?_
  refine sim_iconst (0) dL_put_2 (by decide +kernel) ?_
  refine sim_aload_n dL_put_3 rfl ?_
  refine sim_iload_n dL_put_4 rfl ?_
  refine sim_iload_n dL_put_5 rfl ?_
  refine sim_iload_n dL_put_6 rfl ?_
  refine sim_ao3 (fun a3 e => ?_)
  refine sim_virt (d - 1) e dL_put_7 (k_X10_put (d - 1) (by omega) _ _ _ _ _) q_X10_put rfl rfl wm_RL_76 rfl rfl (by omega) (Nat.le_of_ble_eq_true rfl) am_nIx (am_rIx fun h1 v2 => ?_) (am_eIx fun h9 k9 => ?_)
  · refine sim_if_eq 17 dL_put_10 (by decide) (fun c => ?_) (fun c => ?_)
    · refine sim_lconst (0) dL_put_17 (by decide +kernel) ?_
      exact sim_lv (am_leN (am_leN (am_leN (am_leN (am_leN (am_leN am_leT)))))) (t_L_put_18 d (by omega) _ _ _ _)
    · refine sim_lconst (1) dL_put_13 (by decide +kernel) ?_
      refine sim_goto 18 dL_put_14 (by decide) ?_
      exact sim_lv (am_leN (am_leN (am_leN (am_leN (am_leN (am_leN am_leT)))))) (t_L_put_18 d (by omega) _ _ _ _)
  · refine simx_case (fun cx => ?_) (fun cx => ?_)
    · subst cx
      refine simx_catch [] (0, 19, 22, 21) [] rfl ⟨by decide, by decide⟩ (by decide) wx_RL_21 wca_0 (by decide) (fun z hz => by cases hz) ?_
      refine sim_astore dL_put_22 (Nat.le_of_ble_eq_true rfl) ?_
      refine sim_iconst (1) dL_put_24 (by decide +kernel) ?_
      exact sim_iret dL_put_25 rfl
    exact simx_none)
theorem q_L_put : am_Cal m_L_put 5 0 := ⟨am_mem 768 (w := Cond.codeWith yL_put cL_put 6 (some .int) [(0, 19, 22, 21)]) (by decide +kernel) rfl, am_mem 55 (w := Cond.initialized RL) (by decide +kernel) rfl, fun _ => am_mem 767 (w := Cond.static yL_put) (by decide +kernel) rfl, fun z => absurd rfl z, fun z => absurd z (by decide), fun z => absurd z (by decide), by decide +kernel, by decide +kernel, Nat.le_of_ble_eq_true rfl⟩
abbrev m_X10_reads : am_M := (yX10_reads, cX10_reads, 7, some .int, [])
def f_X10_reads_57 (rc16 : Nat × Nat → Int32 → Int32 → Option (Nat × Nat) → Int32 → Int32 → am_H → am_R) (a0 : Nat × Nat) (x1 : Int32) (x2 : Int32) (x3 : Option (Nat × Nat)) (x4 : Int32) (x5 : Int32) (h : am_H) : am_R := rc16 a0 x1 x2 x3 x4 (x5 + 1) h
theorem t_X10_reads_57 (d : Nat) (hd : 8 ≤ d) (rc16 : Nat × Nat → Int32 → Int32 → Option (Nat × Nat) → Int32 → Int32 → am_H → am_R) (hrc16 : ∀ a0 x1 x2 x3 x4 x5 h, Sim m_X10_reads d 16 [some (.inr (.inr (some a0))), some (.inl x1), some (.inl x2), some (.inr (.inr x3)), some (.inl x4), some (.inl x5), none] [] h (rc16 a0 x1 x2 x3 x4 x5 h)) (a0 : Nat × Nat) (x1 : Int32) (x2 : Int32) (x3 : Option (Nat × Nat)) (x4 : Int32) (x5 : Int32) (h : am_H) : Sim m_X10_reads d 57 [some (.inr (.inr (some a0))), some (.inl x1), some (.inl x2), some (.inr (.inr x3)), some (.inl x4), some (.inl x5), none] [] h (f_X10_reads_57 rc16 a0 x1 x2 x3 x4 x5 h) := by
  unfold f_X10_reads_57
  refine sim_iinc (1) dX10_reads_57 rfl (by decide +kernel) (Nat.le_of_ble_eq_true rfl) ?_
  refine sim_goto 16 dX10_reads_60 (by decide) ?_
  exact sim_lv (am_leS (am_leS (am_leS (am_leS (am_leS (am_leS (am_leN am_leT))))))) (hrc16 _ _ _ _ _ _ _)
def f_X10_reads_16  : Nat → Nat × Nat → Int32 → Int32 → Option (Nat × Nat) → Int32 → Int32 → am_H → am_R
  | 0, _, _, _, _, _, _, _ => none
  | n + 1, a0, x1, x2, x3, x4, x5, h => m_gI (some a0) 10 12 h fun v6 => if v6 ≤ x5 then (m_ri h x4) else (m_gR (some a0) 10 11 h fun o7 => m_aR o7 7 x5 h fun o8 => m_gI o8 1 0 h fun v9 => if v9 = x1 then (m_ao (some a0) 10 fun a12 => m_bI (f_X10_isReadBy a12 x2 o8 x3 h) fun h10 v11 => if v11 = 0 then (f_X10_reads_57 (f_X10_reads_16  n) a0 x1 x2 x3 x4 x5 h10) else (f_X10_reads_57 (f_X10_reads_16  n) a0 x1 x2 x3 (x4 + 1) x5 h10)) else (f_X10_reads_57 (f_X10_reads_16  n) a0 x1 x2 x3 x4 x5 h))
theorem t_X10_reads_16 (d : Nat) (hd : 8 ≤ d)  : ∀ (n : Nat) (a0 : Nat × Nat) (x1 : Int32) (x2 : Int32) (x3 : Option (Nat × Nat)) (x4 : Int32) (x5 : Int32) (h : am_H), Sim m_X10_reads d 16 [some (.inr (.inr (some a0))), some (.inl x1), some (.inl x2), some (.inr (.inr x3)), some (.inl x4), some (.inl x5), none] [] h (f_X10_reads_16  n a0 x1 x2 x3 x4 x5 h) := by
  intro n
  induction n with
  | zero => intros; exact sim_none
  | succ n hrc16 =>
    intro a0 x1 x2 x3 x4 x5 h
    rw [f_X10_reads_16]
    refine sim_iload dX10_reads_16 rfl ?_
    refine sim_aload_n dX10_reads_18 rfl ?_
    refine sim_gI 10 12 dX10_reads_19 rfl wf_RX10_327 (Nat.le_of_ble_eq_true rfl) rfl (fun v6 => ?_)
    refine sim_ic_ge 63 dX10_reads_22 (by decide) (fun c => ?_) (fun c => ?_)
    · refine sim_iload dX10_reads_63 rfl ?_
      exact sim_iret dX10_reads_65 rfl
    · refine sim_aload_n dX10_reads_25 rfl ?_
      refine sim_gR 10 11 dX10_reads_26 rfl wf_RX10_61 (Nat.le_of_ble_eq_true rfl) rfl (fun o7 => ?_)
      refine sim_iload dX10_reads_29 rfl ?_
      refine sim_aR 7 rfl dX10_reads_31 (fun o8 => ?_)
      refine sim_astore dX10_reads_32 (Nat.le_of_ble_eq_true rfl) ?_
      refine sim_aload dX10_reads_34 rfl ?_
      refine sim_gI 1 0 dX10_reads_36 rfl wf_RX10_322 (Nat.le_of_ble_eq_true rfl) rfl (fun v9 => ?_)
      refine sim_iload_n dX10_reads_39 rfl ?_
      refine sim_ic_ne 57 dX10_reads_40 (by decide) (fun c => ?_) (fun c => ?_)
      · exact sim_lv (am_leS (am_leS (am_leS (am_leS (am_leS (am_leS (am_leN am_leT))))))) (t_X10_reads_57 d (by omega) _ hrc16 _ _ _ _ _ _ _)
      · refine sim_aload_n dX10_reads_43 rfl ?_
        refine sim_iload_n dX10_reads_44 rfl ?_
        refine sim_aload dX10_reads_45 rfl ?_
        refine sim_aload_n dX10_reads_47 rfl ?_
        refine sim_ao3 (fun a12 e => ?_)
        refine sim_virt (d - 1) e dX10_reads_48 (k_X10_isReadBy (d - 1) (by omega) _ _ _ _ _) q_X10_isReadBy rfl rfl wm_RX10_348 rfl rfl (by omega) (Nat.le_of_ble_eq_true rfl) am_nI (am_rI fun h10 v11 => ?_) am_eI
        refine sim_if_eq 57 dX10_reads_51 (by decide) (fun c => ?_) (fun c => ?_)
        · exact sim_lv (am_leS (am_leS (am_leS (am_leS (am_leS (am_leS (am_leN am_leT))))))) (t_X10_reads_57 d (by omega) _ hrc16 _ _ _ _ _ _ _)
        · refine sim_iinc (1) dX10_reads_54 rfl (by decide +kernel) (Nat.le_of_ble_eq_true rfl) ?_
          exact sim_lv (am_leS (am_leS (am_leS (am_leS (am_leS (am_leS (am_leN am_leT))))))) (t_X10_reads_57 d (by omega) _ hrc16 _ _ _ _ _ _ _)
def f_X10_reads (a0 : Nat × Nat) (x1 : Int32) (x2 : Int32) (h : am_H) : am_R := m_ao (some a0) 10 fun a3 => m_bR (f_X10_workAt a3 x1 h) fun h1 o2 => m_bV (f_X10_checkFace x2 h1) fun h4 => f_X10_reads_16 5000 a0 x1 x2 o2 (0 : Int32) (0 : Int32) h4
theorem k_X10_reads (d : Nat) (hd : 8 ≤ d) (a0 : Nat × Nat) (x1 : Int32) (x2 : Int32) (h : am_H) : am_Con m_X10_reads d [.inr (.inr (some a0)), .inl x1, .inl x2] h (f_X10_reads a0 x1 x2 h) := am_con (by decide +kernel) (Nat.le_of_ble_eq_true rfl) (by
  unfold f_X10_reads
  refine sim_aload_n dX10_reads_0 rfl ?_
  refine sim_iload_n dX10_reads_1 rfl ?_
  refine sim_ao1 (fun a3 e => ?_)
  refine sim_virt (d - 1) e dX10_reads_2 (k_X10_workAt (d - 1) (by omega) _ _ _) q_X10_workAt rfl rfl wm_RX10_112 rfl rfl (by omega) (Nat.le_of_ble_eq_true rfl) am_nR (am_rR fun h1 o2 => ?_) am_eR
  refine sim_astore_n dX10_reads_5 (Nat.le_of_ble_eq_true rfl) ?_
  refine sim_iload_n dX10_reads_6 rfl ?_
  refine sim_static (d - 1) dX10_reads_7 (k_X10_checkFace (d - 1) (by omega) _ _) q_X10_checkFace wm_RX10_99 rfl rfl (by omega) (Nat.le_of_ble_eq_true rfl) am_nV (am_rV fun h4 => ?_) am_eV
  refine sim_iconst (0) dX10_reads_10 (by decide +kernel) ?_
  refine sim_istore dX10_reads_11 (Nat.le_of_ble_eq_true rfl) ?_
  refine sim_iconst (0) dX10_reads_13 (by decide +kernel) ?_
  refine sim_istore dX10_reads_14 (Nat.le_of_ble_eq_true rfl) ?_
  exact sim_lv (am_leS (am_leS (am_leS (am_leS (am_leS (am_leS (am_leN am_leT))))))) (t_X10_reads_16 d (by omega) _ _ _ _ _ _ _ _))
theorem q_X10_reads : am_Cal m_X10_reads 2 2 := ⟨am_mem 1037 (w := Cond.code yX10_reads cX10_reads 7 (some .int)) (by decide +kernel) rfl, am_mem 56 (w := Cond.initialized RX10) (by decide +kernel) rfl, fun z => absurd z (by decide), fun _ => am_mem 1035 (w := Cond.instanceMethod yX10_reads) (by decide +kernel) rfl, fun z => absurd z (by decide), fun _ => am_mem 1036 (w := Cond.selects RX10 yX10_reads yX10_reads) (by decide +kernel) rfl, by decide +kernel, by decide +kernel, Nat.le_of_ble_eq_true rfl⟩
abbrev m_L_reads : am_M := (yL_reads, cL_reads, 5, some .int, [(0, 10, 13, 21)])
def f_L_reads (x0 : Option (Nat × Nat)) (x1 : Int32) (x2 : Int32) (x3 : Option (Nat × Nat)) (h : am_H) : am_R := m_ao x0 10 fun a3 => m_bIx (f_X10_reads a3 x1 x2 h) (fun h1 v2 => m_sL x3 (0 : Int32) (Int32.toInt64 v2) h1 fun h6 => m_ri h6 (0 : Int32)) (fun h4 e5 => if e5 = 0 then (m_ri h4 (1 : Int32)) else none)
theorem k_L_reads (d : Nat) (hd : 9 ≤ d) (x0 : Option (Nat × Nat)) (x1 : Int32) (x2 : Int32) (x3 : Option (Nat × Nat)) (h : am_H) : am_Con m_L_reads d [.inr (.inr x0), .inl x1, .inl x2, .inr (.inr x3)] h (f_L_reads x0 x1 x2 x3 h) := am_conX (by decide +kernel) (Nat.le_of_ble_eq_true rfl) (by
  unfold f_L_reads
  refine sim_aload_n dL_reads_0 rfl ?_
  refine sim_iconst (0) dL_reads_1 (by decide +kernel) ?_
  refine sim_aload_n dL_reads_2 rfl ?_
  refine sim_iload_n dL_reads_3 rfl ?_
  refine sim_iload_n dL_reads_4 rfl ?_
  refine sim_ao2 (fun a3 e => ?_)
  refine sim_virt (d - 1) e dL_reads_5 (k_X10_reads (d - 1) (by omega) _ _ _ _) q_X10_reads rfl rfl wm_RL_113 rfl rfl (by omega) (Nat.le_of_ble_eq_true rfl) am_nIx (am_rIx fun h1 v2 => ?_) (am_eIx fun h9 k9 => ?_)
  · refine sim_i2l dL_reads_8 ?_
    refine sim_sL dL_reads_9 (fun h6 => ?_)
    refine sim_goto 17 dL_reads_10 (by decide) ?_
    refine sim_iconst (0) dL_reads_17 (by decide +kernel) ?_
    exact sim_iret dL_reads_18 rfl
  · refine simx_case (fun cx => ?_) (fun cx => ?_)
    · subst cx
      refine simx_catch [] (0, 10, 13, 21) [] rfl ⟨by decide, by decide⟩ (by decide) wx_RL_21 wca_0 (by decide) (fun z hz => by cases hz) ?_
      refine sim_astore dL_reads_13 (Nat.le_of_ble_eq_true rfl) ?_
      refine sim_iconst (1) dL_reads_15 (by decide +kernel) ?_
      exact sim_iret dL_reads_16 rfl
    exact simx_none)
theorem q_L_reads : am_Cal m_L_reads 4 0 := ⟨am_mem 1033 (w := Cond.codeWith yL_reads cL_reads 5 (some .int) [(0, 10, 13, 21)]) (by decide +kernel) rfl, am_mem 55 (w := Cond.initialized RL) (by decide +kernel) rfl, fun _ => am_mem 1032 (w := Cond.static yL_reads) (by decide +kernel) rfl, fun z => absurd rfl z, fun z => absurd z (by decide), fun z => absurd z (by decide), by decide +kernel, by decide +kernel, Nat.le_of_ble_eq_true rfl⟩
abbrev m_X4_isAtEnd : am_M := (yX4_isAtEnd, cX4_isAtEnd, 1, some .boolean, [])
def f_X4_isAtEnd_26  (s0 : Int32) (h : am_H) : am_R := m_rz h s0
theorem t_X4_isAtEnd_26 (d : Nat) (hd : 0 ≤ d)  (s0 : Int32) (h : am_H) : Sim m_X4_isAtEnd d 26 [none] [.inl s0] h (f_X4_isAtEnd_26  s0 h) := by
  unfold f_X4_isAtEnd_26
  exact sim_zret dX4_isAtEnd_26 rfl
def f_X4_isAtEnd_25   (h : am_H) : am_R := f_X4_isAtEnd_26 (0 : Int32) h
theorem t_X4_isAtEnd_25 (d : Nat) (hd : 0 ≤ d)   (h : am_H) : Sim m_X4_isAtEnd d 25 [none] [] h (f_X4_isAtEnd_25   h) := by
  unfold f_X4_isAtEnd_25
  refine sim_iconst (0) dX4_isAtEnd_25 (by decide +kernel) ?_
  exact sim_lv (am_leN am_leT) (t_X4_isAtEnd_26 d (by omega) _ _)
def f_X4_isAtEnd (a0 : Nat × Nat) (h : am_H) : am_R := m_gI (some a0) 4 0 h fun v1 => if v1 = 0 then (m_gI (some a0) 4 1 h fun v2 => if v2 = 0 then (m_gI (some a0) 4 2 h fun v3 => if v3 = 0 then (f_X4_isAtEnd_26 (1 : Int32) h) else (f_X4_isAtEnd_25 h)) else (f_X4_isAtEnd_25 h)) else (f_X4_isAtEnd_25 h)
theorem k_X4_isAtEnd (d : Nat) (hd : 0 ≤ d) (a0 : Nat × Nat) (h : am_H) : am_Con m_X4_isAtEnd d [.inr (.inr (some a0))] h (f_X4_isAtEnd a0 h) := am_con (by decide +kernel) (Nat.le_of_ble_eq_true rfl) (by
  unfold f_X4_isAtEnd
  refine sim_aload_n dX4_isAtEnd_0 rfl ?_
  refine sim_gI 4 0 dX4_isAtEnd_1 rfl wf_RX4_9 (Nat.le_of_ble_eq_true rfl) rfl (fun v1 => ?_)
  refine sim_if_ne 25 dX4_isAtEnd_4 (by decide) (fun c => ?_) (fun c => ?_)
  · exact sim_lv (am_leN am_leT) (t_X4_isAtEnd_25 d (by omega) _)
  · refine sim_aload_n dX4_isAtEnd_7 rfl ?_
    refine sim_gI 4 1 dX4_isAtEnd_8 rfl wf_RX4_15 (Nat.le_of_ble_eq_true rfl) rfl (fun v2 => ?_)
    refine sim_if_ne 25 dX4_isAtEnd_11 (by decide) (fun c => ?_) (fun c => ?_)
    · exact sim_lv (am_leN am_leT) (t_X4_isAtEnd_25 d (by omega) _)
    · refine sim_aload_n dX4_isAtEnd_14 rfl ?_
      refine sim_gI 4 2 dX4_isAtEnd_15 rfl wf_RX4_19 (Nat.le_of_ble_eq_true rfl) rfl (fun v3 => ?_)
      refine sim_if_ne 25 dX4_isAtEnd_18 (by decide) (fun c => ?_) (fun c => ?_)
      · exact sim_lv (am_leN am_leT) (t_X4_isAtEnd_25 d (by omega) _)
      · refine sim_iconst (1) dX4_isAtEnd_21 (by decide +kernel) ?_
        refine sim_goto 26 dX4_isAtEnd_22 (by decide) ?_
        exact sim_lv (am_leN am_leT) (t_X4_isAtEnd_26 d (by omega) _ _))
theorem q_X4_isAtEnd : am_Cal m_X4_isAtEnd 0 2 := ⟨am_mem 316 (w := Cond.code yX4_isAtEnd cX4_isAtEnd 1 (some .boolean)) (by decide +kernel) rfl, am_mem 59 (w := Cond.initialized RX4) (by decide +kernel) rfl, fun z => absurd z (by decide), fun _ => am_mem 314 (w := Cond.instanceMethod yX4_isAtEnd) (by decide +kernel) rfl, fun z => absurd z (by decide), fun _ => am_mem 315 (w := Cond.selects RX4 yX4_isAtEnd yX4_isAtEnd) (by decide +kernel) rfl, by decide +kernel, by decide +kernel, Nat.le_of_ble_eq_true rfl⟩
abbrev m_X4_start : am_M := (yX4_start, cX4_start, 1, none, [])
def f_X4_start (a0 : Nat × Nat) (h : am_H) : am_R := m_pI (some a0) 4 0 (0 : Int32) h fun h1 => m_pZ (some a0) 4 1 (1 : Int32) h1 fun h2 => m_pI (some a0) 4 2 (0 : Int32) h2 fun h3 => m_rt h3 none
theorem k_X4_start (d : Nat) (hd : 0 ≤ d) (a0 : Nat × Nat) (h : am_H) : am_Con m_X4_start d [.inr (.inr (some a0))] h (f_X4_start a0 h) := am_con (by decide +kernel) (Nat.le_of_ble_eq_true rfl) (by
  unfold f_X4_start
  refine sim_aload_n dX4_start_0 rfl ?_
  refine sim_iconst (0) dX4_start_1 (by decide +kernel) ?_
  refine sim_pI 4 0 dX4_start_2 rfl wf_RX4_9 (Nat.le_of_ble_eq_true rfl) rfl (Or.inl rfl) rfl (fun h1 => ?_)
  refine sim_aload_n dX4_start_5 rfl ?_
  refine sim_iconst (1) dX4_start_6 (by decide +kernel) ?_
  refine sim_pZ 4 1 dX4_start_7 rfl wf_RX4_15 (Nat.le_of_ble_eq_true rfl) rfl (Or.inl rfl) rfl (fun h2 => ?_)
  refine sim_aload_n dX4_start_10 rfl ?_
  refine sim_iconst (0) dX4_start_11 (by decide +kernel) ?_
  refine sim_pI 4 2 dX4_start_12 rfl wf_RX4_19 (Nat.le_of_ble_eq_true rfl) rfl (Or.inl rfl) rfl (fun h3 => ?_)
  exact sim_vret dX4_start_15 rfl)
theorem q_X4_start : am_Cal m_X4_start 0 2 := ⟨am_mem 287 (w := Cond.code yX4_start cX4_start 1 none) (by decide +kernel) rfl, am_mem 59 (w := Cond.initialized RX4) (by decide +kernel) rfl, fun z => absurd z (by decide), fun _ => am_mem 285 (w := Cond.instanceMethod yX4_start) (by decide +kernel) rfl, fun z => absurd z (by decide), fun _ => am_mem 286 (w := Cond.selects RX4 yX4_start yX4_start) (by decide +kernel) rfl, by decide +kernel, by decide +kernel, Nat.le_of_ble_eq_true rfl⟩
abbrev m_X4_greatestOf : am_M := (yX4_greatestOf, cX4_greatestOf, 1, some .int, [])
def f_X4_greatestOf_21  (s0 : Int32) (h : am_H) : am_R := m_ri h s0
theorem t_X4_greatestOf_21 (d : Nat) (hd : 0 ≤ d)  (s0 : Int32) (h : am_H) : Sim m_X4_greatestOf d 21 [none] [.inl s0] h (f_X4_greatestOf_21  s0 h) := by
  unfold f_X4_greatestOf_21
  exact sim_iret dX4_greatestOf_21 rfl
def f_X4_greatestOf (x0 : Int32) (h : am_H) : am_R := if x0 = (116 : Int32) then (m_ri h (29 : Int32)) else (if x0 = (97 : Int32) then (f_X4_greatestOf_21 (11 : Int32) h) else (f_X4_greatestOf_21 (3 : Int32) h))
theorem k_X4_greatestOf (d : Nat) (hd : 0 ≤ d) (x0 : Int32) (h : am_H) : am_Con m_X4_greatestOf d [.inl x0] h (f_X4_greatestOf x0 h) := am_con (by decide +kernel) (Nat.le_of_ble_eq_true rfl) (by
  unfold f_X4_greatestOf
  refine sim_iload_n dX4_greatestOf_0 rfl ?_
  refine sim_bipush (116) dX4_greatestOf_1 (by decide +kernel) ?_
  refine sim_ic_ne 9 dX4_greatestOf_3 (by decide) (fun c => ?_) (fun c => ?_)
  · refine sim_iload_n dX4_greatestOf_9 rfl ?_
    refine sim_bipush (97) dX4_greatestOf_10 (by decide +kernel) ?_
    refine sim_ic_ne 20 dX4_greatestOf_12 (by decide) (fun c => ?_) (fun c => ?_)
    · refine sim_iconst (3) dX4_greatestOf_20 (by decide +kernel) ?_
      exact sim_lv (am_leN am_leT) (t_X4_greatestOf_21 d (by omega) _ _)
    · refine sim_bipush (11) dX4_greatestOf_15 (by decide +kernel) ?_
      refine sim_goto 21 dX4_greatestOf_17 (by decide) ?_
      exact sim_lv (am_leN am_leT) (t_X4_greatestOf_21 d (by omega) _ _)
  · refine sim_bipush (29) dX4_greatestOf_6 (by decide +kernel) ?_
    exact sim_iret dX4_greatestOf_8 rfl)
theorem q_X4_greatestOf : am_Cal m_X4_greatestOf 1 0 := ⟨am_mem 301 (w := Cond.code yX4_greatestOf cX4_greatestOf 1 (some .int)) (by decide +kernel) rfl, am_mem 59 (w := Cond.initialized RX4) (by decide +kernel) rfl, fun _ => am_mem 300 (w := Cond.static yX4_greatestOf) (by decide +kernel) rfl, fun z => absurd rfl z, fun z => absurd z (by decide), fun z => absurd z (by decide), by decide +kernel, by decide +kernel, Nat.le_of_ble_eq_true rfl⟩
abbrev m_X4_isFigure : am_M := (yX4_isFigure, cX4_isFigure, 1, some .boolean, [])
def f_X4_isFigure_17  (s0 : Int32) (h : am_H) : am_R := m_rz h s0
theorem t_X4_isFigure_17 (d : Nat) (hd : 0 ≤ d)  (s0 : Int32) (h : am_H) : Sim m_X4_isFigure d 17 [none] [.inl s0] h (f_X4_isFigure_17  s0 h) := by
  unfold f_X4_isFigure_17
  exact sim_zret dX4_isFigure_17 rfl
def f_X4_isFigure_16   (h : am_H) : am_R := f_X4_isFigure_17 (0 : Int32) h
theorem t_X4_isFigure_16 (d : Nat) (hd : 0 ≤ d)   (h : am_H) : Sim m_X4_isFigure d 16 [none] [] h (f_X4_isFigure_16   h) := by
  unfold f_X4_isFigure_16
  refine sim_iconst (0) dX4_isFigure_16 (by decide +kernel) ?_
  exact sim_lv (am_leN am_leT) (t_X4_isFigure_17 d (by omega) _ _)
def f_X4_isFigure (x0 : Int32) (h : am_H) : am_R := if x0 < (48 : Int32) then (f_X4_isFigure_16 h) else (if (57 : Int32) < x0 then (f_X4_isFigure_16 h) else (f_X4_isFigure_17 (1 : Int32) h))
theorem k_X4_isFigure (d : Nat) (hd : 0 ≤ d) (x0 : Int32) (h : am_H) : am_Con m_X4_isFigure d [.inl x0] h (f_X4_isFigure x0 h) := am_con (by decide +kernel) (Nat.le_of_ble_eq_true rfl) (by
  unfold f_X4_isFigure
  refine sim_iload_n dX4_isFigure_0 rfl ?_
  refine sim_bipush (48) dX4_isFigure_1 (by decide +kernel) ?_
  refine sim_ic_lt 16 dX4_isFigure_3 (by decide) (fun c => ?_) (fun c => ?_)
  · exact sim_lv (am_leN am_leT) (t_X4_isFigure_16 d (by omega) _)
  · refine sim_iload_n dX4_isFigure_6 rfl ?_
    refine sim_bipush (57) dX4_isFigure_7 (by decide +kernel) ?_
    refine sim_ic_gt 16 dX4_isFigure_9 (by decide) (fun c => ?_) (fun c => ?_)
    · exact sim_lv (am_leN am_leT) (t_X4_isFigure_16 d (by omega) _)
    · refine sim_iconst (1) dX4_isFigure_12 (by decide +kernel) ?_
      refine sim_goto 17 dX4_isFigure_13 (by decide) ?_
      exact sim_lv (am_leN am_leT) (t_X4_isFigure_17 d (by omega) _ _))
theorem q_X4_isFigure : am_Cal m_X4_isFigure 1 0 := ⟨am_mem 298 (w := Cond.code yX4_isFigure cX4_isFigure 1 (some .boolean)) (by decide +kernel) rfl, am_mem 59 (w := Cond.initialized RX4) (by decide +kernel) rfl, fun _ => am_mem 297 (w := Cond.static yX4_isFigure) (by decide +kernel) rfl, fun z => absurd rfl z, fun z => absurd z (by decide), fun z => absurd z (by decide), by decide +kernel, by decide +kernel, Nat.le_of_ble_eq_true rfl⟩
abbrev m_X4_takesFigure : am_M := (yX4_takesFigure, cX4_takesFigure, 3, some .boolean, [])
def f_X4_takesFigure_73  (s0 : Int32) (h : am_H) : am_R := m_rz h s0
theorem t_X4_takesFigure_73 (d : Nat) (hd : 1 ≤ d)  (s0 : Int32) (h : am_H) : Sim m_X4_takesFigure d 73 [none, none, none] [.inl s0] h (f_X4_takesFigure_73  s0 h) := by
  unfold f_X4_takesFigure_73
  exact sim_zret dX4_takesFigure_73 rfl
def f_X4_takesFigure_56  (a0 : Nat × Nat) (s0 : Int32) (h : am_H) : am_R := m_gI (some a0) 4 3 h fun v10 => m_bI (f_X4_greatestOf v10 h) fun h11 v12 => if v12 < s0 then (f_X4_takesFigure_73 (0 : Int32) h11) else (f_X4_takesFigure_73 (1 : Int32) h11)
theorem t_X4_takesFigure_56 (d : Nat) (hd : 1 ≤ d)  (a0 : Nat × Nat) (s0 : Int32) (h : am_H) : Sim m_X4_takesFigure d 56 [some (.inr (.inr (some a0))), none, none] [.inl s0] h (f_X4_takesFigure_56  a0 s0 h) := by
  unfold f_X4_takesFigure_56
  refine sim_istore_n dX4_takesFigure_56 (Nat.le_of_ble_eq_true rfl) ?_
  refine sim_iload_n dX4_takesFigure_57 rfl ?_
  refine sim_aload_n dX4_takesFigure_58 rfl ?_
  refine sim_gI 4 3 dX4_takesFigure_59 rfl wf_RX4_35 (Nat.le_of_ble_eq_true rfl) rfl (fun v10 => ?_)
  refine sim_static (d - 1) dX4_takesFigure_62 (k_X4_greatestOf (d - 1) (by omega) _ _) q_X4_greatestOf wm_RX4_46 rfl rfl (by omega) (Nat.le_of_ble_eq_true rfl) am_nI (am_rI fun h11 v12 => ?_) am_eI
  refine sim_ic_gt 72 dX4_takesFigure_65 (by decide) (fun c => ?_) (fun c => ?_)
  · refine sim_iconst (0) dX4_takesFigure_72 (by decide +kernel) ?_
    exact sim_lv (am_leN (am_leN (am_leN am_leT))) (t_X4_takesFigure_73 d (by omega) _ _)
  · refine sim_iconst (1) dX4_takesFigure_68 (by decide +kernel) ?_
    refine sim_goto 73 dX4_takesFigure_69 (by decide) ?_
    exact sim_lv (am_leN (am_leN (am_leN am_leT))) (t_X4_takesFigure_73 d (by omega) _ _)
def f_X4_takesFigure (a0 : Nat × Nat) (x1 : Int32) (h : am_H) : am_R := m_bI (f_X4_isFigure x1 h) fun h1 v2 => if v2 = 0 then (m_rz h1 (0 : Int32)) else (m_gI (some a0) 4 4 h1 fun v3 => m_pI (some a0) 4 4 ((v3 * (10 : Int32)) + (x1 - (48 : Int32))) h1 fun h4 => m_gI (some a0) 4 2 h4 fun v5 => m_pI (some a0) 4 2 (v5 - (1 : Int32)) h4 fun h6 => m_gI (some a0) 4 2 h6 fun v7 => if v7 ≤ 0 then (m_gI (some a0) 4 4 h6 fun v8 => f_X4_takesFigure_56 a0 v8 h6) else (m_gI (some a0) 4 4 h6 fun v9 => f_X4_takesFigure_56 a0 (v9 * (10 : Int32)) h6))
theorem k_X4_takesFigure (d : Nat) (hd : 1 ≤ d) (a0 : Nat × Nat) (x1 : Int32) (h : am_H) : am_Con m_X4_takesFigure d [.inr (.inr (some a0)), .inl x1] h (f_X4_takesFigure a0 x1 h) := am_con (by decide +kernel) (Nat.le_of_ble_eq_true rfl) (by
  unfold f_X4_takesFigure
  refine sim_iload_n dX4_takesFigure_0 rfl ?_
  refine sim_static (d - 1) dX4_takesFigure_1 (k_X4_isFigure (d - 1) (by omega) _ _) q_X4_isFigure wm_RX4_32 rfl rfl (by omega) (Nat.le_of_ble_eq_true rfl) am_nI (am_rI fun h1 v2 => ?_) am_eI
  refine sim_if_ne 9 dX4_takesFigure_4 (by decide) (fun c => ?_) (fun c => ?_)
  · refine sim_aload_n dX4_takesFigure_9 rfl ?_
    refine sim_aload_n dX4_takesFigure_10 rfl ?_
    refine sim_gI 4 4 dX4_takesFigure_11 rfl wf_RX4_39 (Nat.le_of_ble_eq_true rfl) rfl (fun v3 => ?_)
    refine sim_bipush (10) dX4_takesFigure_14 (by decide +kernel) ?_
    refine sim_imul dX4_takesFigure_16 ?_
    refine sim_iload_n dX4_takesFigure_17 rfl ?_
    refine sim_bipush (48) dX4_takesFigure_18 (by decide +kernel) ?_
    refine sim_isub dX4_takesFigure_20 ?_
    refine sim_iadd dX4_takesFigure_21 ?_
    refine sim_pI 4 4 dX4_takesFigure_22 rfl wf_RX4_39 (Nat.le_of_ble_eq_true rfl) rfl (Or.inl rfl) rfl (fun h4 => ?_)
    refine sim_aload_n dX4_takesFigure_25 rfl ?_
    refine sim_dup_r dX4_takesFigure_26 ?_
    refine sim_gI 4 2 dX4_takesFigure_27 rfl wf_RX4_19 (Nat.le_of_ble_eq_true rfl) rfl (fun v5 => ?_)
    refine sim_iconst (1) dX4_takesFigure_30 (by decide +kernel) ?_
    refine sim_isub dX4_takesFigure_31 ?_
    refine sim_pI 4 2 dX4_takesFigure_32 rfl wf_RX4_19 (Nat.le_of_ble_eq_true rfl) rfl (Or.inl rfl) rfl (fun h6 => ?_)
    refine sim_aload_n dX4_takesFigure_35 rfl ?_
    refine sim_gI 4 2 dX4_takesFigure_36 rfl wf_RX4_19 (Nat.le_of_ble_eq_true rfl) rfl (fun v7 => ?_)
    refine sim_if_le 52 dX4_takesFigure_39 (by decide) (fun c => ?_) (fun c => ?_)
    · refine sim_aload_n dX4_takesFigure_52 rfl ?_
      refine sim_gI 4 4 dX4_takesFigure_53 rfl wf_RX4_39 (Nat.le_of_ble_eq_true rfl) rfl (fun v8 => ?_)
      exact sim_lv (am_leS (am_leN (am_leN am_leT))) (t_X4_takesFigure_56 d (by omega) _ _ _)
    · refine sim_aload_n dX4_takesFigure_42 rfl ?_
      refine sim_gI 4 4 dX4_takesFigure_43 rfl wf_RX4_39 (Nat.le_of_ble_eq_true rfl) rfl (fun v9 => ?_)
      refine sim_bipush (10) dX4_takesFigure_46 (by decide +kernel) ?_
      refine sim_imul dX4_takesFigure_48 ?_
      refine sim_goto 56 dX4_takesFigure_49 (by decide) ?_
      exact sim_lv (am_leS (am_leN (am_leN am_leT))) (t_X4_takesFigure_56 d (by omega) _ _ _)
  · refine sim_iconst (0) dX4_takesFigure_7 (by decide +kernel) ?_
    exact sim_zret dX4_takesFigure_8 rfl)
theorem q_X4_takesFigure : am_Cal m_X4_takesFigure 1 2 := ⟨am_mem 295 (w := Cond.code yX4_takesFigure cX4_takesFigure 3 (some .boolean)) (by decide +kernel) rfl, am_mem 59 (w := Cond.initialized RX4) (by decide +kernel) rfl, fun z => absurd z (by decide), fun _ => am_mem 294 (w := Cond.instanceMethod yX4_takesFigure) (by decide +kernel) rfl, fun z => absurd z (by decide), fun _ => am_mem 0 (w := Cond.selects RX4 yX4_takesFigure yX4_takesFigure) (by decide +kernel) rfl, by decide +kernel, by decide +kernel, Nat.le_of_ble_eq_true rfl⟩
abbrev m_X4_figuresOf : am_M := (yX4_figuresOf, cX4_figuresOf, 1, some .int, [])
def f_X4_figuresOf_25  (s0 : Int32) (h : am_H) : am_R := m_ri h s0
theorem t_X4_figuresOf_25 (d : Nat) (hd : 0 ≤ d)  (s0 : Int32) (h : am_H) : Sim m_X4_figuresOf d 25 [none] [.inl s0] h (f_X4_figuresOf_25  s0 h) := by
  unfold f_X4_figuresOf_25
  exact sim_iret dX4_figuresOf_25 rfl
def f_X4_figuresOf_12   (h : am_H) : am_R := m_ri h (2 : Int32)
theorem t_X4_figuresOf_12 (d : Nat) (hd : 0 ≤ d)   (h : am_H) : Sim m_X4_figuresOf d 12 [none] [] h (f_X4_figuresOf_12   h) := by
  unfold f_X4_figuresOf_12
  refine sim_iconst (2) dX4_figuresOf_12 (by decide +kernel) ?_
  exact sim_iret dX4_figuresOf_13 rfl
def f_X4_figuresOf (x0 : Int32) (h : am_H) : am_R := if x0 = (116 : Int32) then (f_X4_figuresOf_12 h) else (if x0 = (97 : Int32) then (f_X4_figuresOf_12 h) else (if x0 = (114 : Int32) then (f_X4_figuresOf_25 (1 : Int32) h) else (f_X4_figuresOf_25 (0 : Int32) h)))
theorem k_X4_figuresOf (d : Nat) (hd : 0 ≤ d) (x0 : Int32) (h : am_H) : am_Con m_X4_figuresOf d [.inl x0] h (f_X4_figuresOf x0 h) := am_con (by decide +kernel) (Nat.le_of_ble_eq_true rfl) (by
  unfold f_X4_figuresOf
  refine sim_iload_n dX4_figuresOf_0 rfl ?_
  refine sim_bipush (116) dX4_figuresOf_1 (by decide +kernel) ?_
  refine sim_ic_eq 12 dX4_figuresOf_3 (by decide) (fun c => ?_) (fun c => ?_)
  · exact sim_lv (am_leN am_leT) (t_X4_figuresOf_12 d (by omega) _)
  · refine sim_iload_n dX4_figuresOf_6 rfl ?_
    refine sim_bipush (97) dX4_figuresOf_7 (by decide +kernel) ?_
    refine sim_ic_ne 14 dX4_figuresOf_9 (by decide) (fun c => ?_) (fun c => ?_)
    · refine sim_iload_n dX4_figuresOf_14 rfl ?_
      refine sim_bipush (114) dX4_figuresOf_15 (by decide +kernel) ?_
      refine sim_ic_ne 24 dX4_figuresOf_17 (by decide) (fun c => ?_) (fun c => ?_)
      · refine sim_iconst (0) dX4_figuresOf_24 (by decide +kernel) ?_
        exact sim_lv (am_leN am_leT) (t_X4_figuresOf_25 d (by omega) _ _)
      · refine sim_iconst (1) dX4_figuresOf_20 (by decide +kernel) ?_
        refine sim_goto 25 dX4_figuresOf_21 (by decide) ?_
        exact sim_lv (am_leN am_leT) (t_X4_figuresOf_25 d (by omega) _ _)
    · exact sim_lv (am_leN am_leT) (t_X4_figuresOf_12 d (by omega) _))
theorem q_X4_figuresOf : am_Cal m_X4_figuresOf 1 0 := ⟨am_mem 308 (w := Cond.code yX4_figuresOf cX4_figuresOf 1 (some .int)) (by decide +kernel) rfl, am_mem 59 (w := Cond.initialized RX4) (by decide +kernel) rfl, fun _ => am_mem 307 (w := Cond.static yX4_figuresOf) (by decide +kernel) rfl, fun z => absurd rfl z, fun z => absurd z (by decide), fun z => absurd z (by decide), by decide +kernel, by decide +kernel, Nat.le_of_ble_eq_true rfl⟩
abbrev m_X4_takesItem : am_M := (yX4_takesItem, cX4_takesItem, 2, some .boolean, [])
def f_X4_takesItem_61  (s0 : Int32) (h : am_H) : am_R := m_rz h s0
theorem t_X4_takesItem_61 (d : Nat) (hd : 1 ≤ d)  (s0 : Int32) (h : am_H) : Sim m_X4_takesItem d 61 [none, none] [.inl s0] h (f_X4_takesItem_61  s0 h) := by
  unfold f_X4_takesItem_61
  exact sim_zret dX4_takesItem_61 rfl
def f_X4_takesItem (a0 : Nat × Nat) (x1 : Int32) (h : am_H) : am_R := if x1 = (33 : Int32) then (m_rz h (1 : Int32)) else (if x1 = (40 : Int32) then (m_gI (some a0) 4 0 h fun v8 => m_pI (some a0) 4 0 (v8 + (1 : Int32)) h fun h9 => m_rz h9 (1 : Int32)) else (m_pC (some a0) 4 3 x1 h fun h1 => m_pI (some a0) 4 4 (0 : Int32) h1 fun h2 => m_bI (f_X4_figuresOf x1 h2) fun h3 v4 => m_pI (some a0) 4 2 v4 h3 fun h5 => m_pZ (some a0) 4 1 (0 : Int32) h5 fun h6 => m_gI (some a0) 4 2 h6 fun v7 => if v7 ≤ 0 then (f_X4_takesItem_61 (0 : Int32) h6) else (f_X4_takesItem_61 (1 : Int32) h6)))
theorem k_X4_takesItem (d : Nat) (hd : 1 ≤ d) (a0 : Nat × Nat) (x1 : Int32) (h : am_H) : am_Con m_X4_takesItem d [.inr (.inr (some a0)), .inl x1] h (f_X4_takesItem a0 x1 h) := am_con (by decide +kernel) (Nat.le_of_ble_eq_true rfl) (by
  unfold f_X4_takesItem
  refine sim_iload_n dX4_takesItem_0 rfl ?_
  refine sim_bipush (33) dX4_takesItem_1 (by decide +kernel) ?_
  refine sim_ic_ne 8 dX4_takesItem_3 (by decide) (fun c => ?_) (fun c => ?_)
  · refine sim_iload_n dX4_takesItem_8 rfl ?_
    refine sim_bipush (40) dX4_takesItem_9 (by decide +kernel) ?_
    refine sim_ic_ne 26 dX4_takesItem_11 (by decide) (fun c => ?_) (fun c => ?_)
    · refine sim_aload_n dX4_takesItem_26 rfl ?_
      refine sim_iload_n dX4_takesItem_27 rfl ?_
      refine sim_pC 4 3 dX4_takesItem_28 rfl wf_RX4_35 (Nat.le_of_ble_eq_true rfl) rfl (Or.inl rfl) rfl (fun h1 => ?_)
      refine sim_aload_n dX4_takesItem_31 rfl ?_
      refine sim_iconst (0) dX4_takesItem_32 (by decide +kernel) ?_
      refine sim_pI 4 4 dX4_takesItem_33 rfl wf_RX4_39 (Nat.le_of_ble_eq_true rfl) rfl (Or.inl rfl) rfl (fun h2 => ?_)
      refine sim_aload_n dX4_takesItem_36 rfl ?_
      refine sim_iload_n dX4_takesItem_37 rfl ?_
      refine sim_static (d - 1) dX4_takesItem_38 (k_X4_figuresOf (d - 1) (by omega) _ _) q_X4_figuresOf wm_RX4_42 rfl rfl (by omega) (Nat.le_of_ble_eq_true rfl) am_nI (am_rI fun h3 v4 => ?_) am_eI
      refine sim_pI 4 2 dX4_takesItem_41 rfl wf_RX4_19 (Nat.le_of_ble_eq_true rfl) rfl (Or.inl rfl) rfl (fun h5 => ?_)
      refine sim_aload_n dX4_takesItem_44 rfl ?_
      refine sim_iconst (0) dX4_takesItem_45 (by decide +kernel) ?_
      refine sim_pZ 4 1 dX4_takesItem_46 rfl wf_RX4_15 (Nat.le_of_ble_eq_true rfl) rfl (Or.inl rfl) rfl (fun h6 => ?_)
      refine sim_aload_n dX4_takesItem_49 rfl ?_
      refine sim_gI 4 2 dX4_takesItem_50 rfl wf_RX4_19 (Nat.le_of_ble_eq_true rfl) rfl (fun v7 => ?_)
      refine sim_if_le 60 dX4_takesItem_53 (by decide) (fun c => ?_) (fun c => ?_)
      · refine sim_iconst (0) dX4_takesItem_60 (by decide +kernel) ?_
        exact sim_lv (am_leN (am_leN am_leT)) (t_X4_takesItem_61 d (by omega) _ _)
      · refine sim_iconst (1) dX4_takesItem_56 (by decide +kernel) ?_
        refine sim_goto 61 dX4_takesItem_57 (by decide) ?_
        exact sim_lv (am_leN (am_leN am_leT)) (t_X4_takesItem_61 d (by omega) _ _)
    · refine sim_aload_n dX4_takesItem_14 rfl ?_
      refine sim_dup_r dX4_takesItem_15 ?_
      refine sim_gI 4 0 dX4_takesItem_16 rfl wf_RX4_9 (Nat.le_of_ble_eq_true rfl) rfl (fun v8 => ?_)
      refine sim_iconst (1) dX4_takesItem_19 (by decide +kernel) ?_
      refine sim_iadd dX4_takesItem_20 ?_
      refine sim_pI 4 0 dX4_takesItem_21 rfl wf_RX4_9 (Nat.le_of_ble_eq_true rfl) rfl (Or.inl rfl) rfl (fun h9 => ?_)
      refine sim_iconst (1) dX4_takesItem_24 (by decide +kernel) ?_
      exact sim_zret dX4_takesItem_25 rfl
  · refine sim_iconst (1) dX4_takesItem_6 (by decide +kernel) ?_
    exact sim_zret dX4_takesItem_7 rfl)
theorem q_X4_takesItem : am_Cal m_X4_takesItem 1 2 := ⟨am_mem 305 (w := Cond.code yX4_takesItem cX4_takesItem 2 (some .boolean)) (by decide +kernel) rfl, am_mem 59 (w := Cond.initialized RX4) (by decide +kernel) rfl, fun z => absurd z (by decide), fun _ => am_mem 304 (w := Cond.instanceMethod yX4_takesItem) (by decide +kernel) rfl, fun z => absurd z (by decide), fun _ => am_mem 1 (w := Cond.selects RX4 yX4_takesItem yX4_takesItem) (by decide +kernel) rfl, by decide +kernel, by decide +kernel, Nat.le_of_ble_eq_true rfl⟩
abbrev m_X4_takesLink : am_M := (yX4_takesLink, cX4_takesLink, 2, some .boolean, [])
def f_X4_takesLink_51  (s0 : Int32) (h : am_H) : am_R := m_rz h s0
theorem t_X4_takesLink_51 (d : Nat) (hd : 0 ≤ d)  (s0 : Int32) (h : am_H) : Sim m_X4_takesLink d 51 [none, none] [.inl s0] h (f_X4_takesLink_51  s0 h) := by
  unfold f_X4_takesLink_51
  exact sim_zret dX4_takesLink_51 rfl
def f_X4_takesLink_46   (h : am_H) : am_R := f_X4_takesLink_51 (1 : Int32) h
theorem t_X4_takesLink_46 (d : Nat) (hd : 0 ≤ d)   (h : am_H) : Sim m_X4_takesLink d 46 [none, none] [] h (f_X4_takesLink_46   h) := by
  unfold f_X4_takesLink_46
  refine sim_iconst (1) dX4_takesLink_46 (by decide +kernel) ?_
  refine sim_goto 51 dX4_takesLink_47 (by decide) ?_
  exact sim_lv (am_leN (am_leN am_leT)) (t_X4_takesLink_51 d (by omega) _ _)
def f_X4_takesLink_28  (s0 : Int32) (h : am_H) : am_R := m_rz h s0
theorem t_X4_takesLink_28 (d : Nat) (hd : 0 ≤ d)  (s0 : Int32) (h : am_H) : Sim m_X4_takesLink d 28 [none, none] [.inl s0] h (f_X4_takesLink_28  s0 h) := by
  unfold f_X4_takesLink_28
  exact sim_zret dX4_takesLink_28 rfl
def f_X4_takesLink (a0 : Nat × Nat) (x1 : Int32) (h : am_H) : am_R := if x1 = (41 : Int32) then (m_gI (some a0) 4 0 h fun v2 => m_pI (some a0) 4 0 (v2 - (1 : Int32)) h fun h3 => m_gI (some a0) 4 0 h3 fun v4 => if v4 < 0 then (f_X4_takesLink_28 (0 : Int32) h3) else (f_X4_takesLink_28 (1 : Int32) h3)) else (m_pZ (some a0) 4 1 (1 : Int32) h fun h1 => if x1 = (38 : Int32) then (f_X4_takesLink_46 h1) else (if x1 = (124 : Int32) then (f_X4_takesLink_46 h1) else (f_X4_takesLink_51 (0 : Int32) h1)))
theorem k_X4_takesLink (d : Nat) (hd : 0 ≤ d) (a0 : Nat × Nat) (x1 : Int32) (h : am_H) : am_Con m_X4_takesLink d [.inr (.inr (some a0)), .inl x1] h (f_X4_takesLink a0 x1 h) := am_con (by decide +kernel) (Nat.le_of_ble_eq_true rfl) (by
  unfold f_X4_takesLink
  refine sim_iload_n dX4_takesLink_0 rfl ?_
  refine sim_bipush (41) dX4_takesLink_1 (by decide +kernel) ?_
  refine sim_ic_ne 29 dX4_takesLink_3 (by decide) (fun c => ?_) (fun c => ?_)
  · refine sim_aload_n dX4_takesLink_29 rfl ?_
    refine sim_iconst (1) dX4_takesLink_30 (by decide +kernel) ?_
    refine sim_pZ 4 1 dX4_takesLink_31 rfl wf_RX4_15 (Nat.le_of_ble_eq_true rfl) rfl (Or.inl rfl) rfl (fun h1 => ?_)
    refine sim_iload_n dX4_takesLink_34 rfl ?_
    refine sim_bipush (38) dX4_takesLink_35 (by decide +kernel) ?_
    refine sim_ic_eq 46 dX4_takesLink_37 (by decide) (fun c => ?_) (fun c => ?_)
    · exact sim_lv (am_leN (am_leN am_leT)) (t_X4_takesLink_46 d (by omega) _)
    · refine sim_iload_n dX4_takesLink_40 rfl ?_
      refine sim_bipush (124) dX4_takesLink_41 (by decide +kernel) ?_
      refine sim_ic_ne 50 dX4_takesLink_43 (by decide) (fun c => ?_) (fun c => ?_)
      · refine sim_iconst (0) dX4_takesLink_50 (by decide +kernel) ?_
        exact sim_lv (am_leN (am_leN am_leT)) (t_X4_takesLink_51 d (by omega) _ _)
      · exact sim_lv (am_leN (am_leN am_leT)) (t_X4_takesLink_46 d (by omega) _)
  · refine sim_aload_n dX4_takesLink_6 rfl ?_
    refine sim_dup_r dX4_takesLink_7 ?_
    refine sim_gI 4 0 dX4_takesLink_8 rfl wf_RX4_9 (Nat.le_of_ble_eq_true rfl) rfl (fun v2 => ?_)
    refine sim_iconst (1) dX4_takesLink_11 (by decide +kernel) ?_
    refine sim_isub dX4_takesLink_12 ?_
    refine sim_pI 4 0 dX4_takesLink_13 rfl wf_RX4_9 (Nat.le_of_ble_eq_true rfl) rfl (Or.inl rfl) rfl (fun h3 => ?_)
    refine sim_aload_n dX4_takesLink_16 rfl ?_
    refine sim_gI 4 0 dX4_takesLink_17 rfl wf_RX4_9 (Nat.le_of_ble_eq_true rfl) rfl (fun v4 => ?_)
    refine sim_if_lt 27 dX4_takesLink_20 (by decide) (fun c => ?_) (fun c => ?_)
    · refine sim_iconst (0) dX4_takesLink_27 (by decide +kernel) ?_
      exact sim_lv (am_leN (am_leN am_leT)) (t_X4_takesLink_28 d (by omega) _ _)
    · refine sim_iconst (1) dX4_takesLink_23 (by decide +kernel) ?_
      refine sim_goto 28 dX4_takesLink_24 (by decide) ?_
      exact sim_lv (am_leN (am_leN am_leT)) (t_X4_takesLink_28 d (by omega) _ _))
theorem q_X4_takesLink : am_Cal m_X4_takesLink 1 2 := ⟨am_mem 312 (w := Cond.code yX4_takesLink cX4_takesLink 2 (some .boolean)) (by decide +kernel) rfl, am_mem 59 (w := Cond.initialized RX4) (by decide +kernel) rfl, fun z => absurd z (by decide), fun _ => am_mem 311 (w := Cond.instanceMethod yX4_takesLink) (by decide +kernel) rfl, fun z => absurd z (by decide), fun _ => am_mem 2 (w := Cond.selects RX4 yX4_takesLink yX4_takesLink) (by decide +kernel) rfl, by decide +kernel, by decide +kernel, Nat.le_of_ble_eq_true rfl⟩
abbrev m_X4_takes : am_M := (yX4_takes, cX4_takes, 2, some .boolean, [])
def f_X4_takes_33  (s0 : Int32) (h : am_H) : am_R := m_rz h s0
theorem t_X4_takes_33 (d : Nat) (hd : 2 ≤ d)  (s0 : Int32) (h : am_H) : Sim m_X4_takes d 33 [none, none] [.inl s0] h (f_X4_takes_33  s0 h) := by
  unfold f_X4_takes_33
  exact sim_zret dX4_takes_33 rfl
def f_X4_takes (a0 : Nat × Nat) (x1 : Int32) (h : am_H) : am_R := m_gI (some a0) 4 2 h fun v1 => if v1 ≤ 0 then (m_gI (some a0) 4 1 h fun v2 => if v2 = 0 then (m_ao (some a0) 4 fun a5 => m_bI (f_X4_takesLink a5 x1 h) fun h3 v4 => f_X4_takes_33 v4 h3) else (m_ao (some a0) 4 fun a8 => m_bI (f_X4_takesItem a8 x1 h) fun h6 v7 => f_X4_takes_33 v7 h6)) else (m_ao (some a0) 4 fun a11 => m_bI (f_X4_takesFigure a11 x1 h) fun h9 v10 => m_rz h9 v10)
theorem k_X4_takes (d : Nat) (hd : 2 ≤ d) (a0 : Nat × Nat) (x1 : Int32) (h : am_H) : am_Con m_X4_takes d [.inr (.inr (some a0)), .inl x1] h (f_X4_takes a0 x1 h) := am_con (by decide +kernel) (Nat.le_of_ble_eq_true rfl) (by
  unfold f_X4_takes
  refine sim_aload_n dX4_takes_0 rfl ?_
  refine sim_gI 4 2 dX4_takes_1 rfl wf_RX4_19 (Nat.le_of_ble_eq_true rfl) rfl (fun v1 => ?_)
  refine sim_if_le 13 dX4_takes_4 (by decide) (fun c => ?_) (fun c => ?_)
  · refine sim_aload_n dX4_takes_13 rfl ?_
    refine sim_gI 4 1 dX4_takes_14 rfl wf_RX4_15 (Nat.le_of_ble_eq_true rfl) rfl (fun v2 => ?_)
    refine sim_if_eq 28 dX4_takes_17 (by decide) (fun c => ?_) (fun c => ?_)
    · refine sim_aload_n dX4_takes_28 rfl ?_
      refine sim_iload_n dX4_takes_29 rfl ?_
      refine sim_ao1 (fun a5 e => ?_)
      refine sim_virt (d - 1) e dX4_takes_30 (k_X4_takesLink (d - 1) (by omega) _ _ _) q_X4_takesLink rfl rfl wm_RX4_29 rfl rfl (by omega) (Nat.le_of_ble_eq_true rfl) am_nI (am_rI fun h3 v4 => ?_) am_eI
      exact sim_lv (am_leN (am_leN am_leT)) (t_X4_takes_33 d (by omega) _ _)
    · refine sim_aload_n dX4_takes_20 rfl ?_
      refine sim_iload_n dX4_takes_21 rfl ?_
      refine sim_ao1 (fun a8 e => ?_)
      refine sim_virt (d - 1) e dX4_takes_22 (k_X4_takesItem (d - 1) (by omega) _ _ _) q_X4_takesItem rfl rfl wm_RX4_26 rfl rfl (by omega) (Nat.le_of_ble_eq_true rfl) am_nI (am_rI fun h6 v7 => ?_) am_eI
      refine sim_goto 33 dX4_takes_25 (by decide) ?_
      exact sim_lv (am_leN (am_leN am_leT)) (t_X4_takes_33 d (by omega) _ _)
  · refine sim_aload_n dX4_takes_7 rfl ?_
    refine sim_iload_n dX4_takes_8 rfl ?_
    refine sim_ao1 (fun a11 e => ?_)
    refine sim_virt (d - 1) e dX4_takes_9 (k_X4_takesFigure (d - 1) (by omega) _ _ _) q_X4_takesFigure rfl rfl wm_RX4_22 rfl rfl (by omega) (Nat.le_of_ble_eq_true rfl) am_nI (am_rI fun h9 v10 => ?_) am_eI
    exact sim_zret dX4_takes_12 rfl)
theorem q_X4_takes : am_Cal m_X4_takes 1 2 := ⟨am_mem 291 (w := Cond.code yX4_takes cX4_takes 2 (some .boolean)) (by decide +kernel) rfl, am_mem 59 (w := Cond.initialized RX4) (by decide +kernel) rfl, fun z => absurd z (by decide), fun _ => am_mem 289 (w := Cond.instanceMethod yX4_takes) (by decide +kernel) rfl, fun z => absurd z (by decide), fun _ => am_mem 290 (w := Cond.selects RX4 yX4_takes yX4_takes) (by decide +kernel) rfl, by decide +kernel, by decide +kernel, Nat.le_of_ble_eq_true rfl⟩
abbrev m_X8_firstFault : am_M := (yX8_firstFault, cX8_firstFault, 2, some .int, [])
def f_X8_firstFault_59  (s0 : Int32) (h : am_H) : am_R := m_ri h s0
theorem t_X8_firstFault_59 (d : Nat) (hd : 3 ≤ d)  (s0 : Int32) (h : am_H) : Sim m_X8_firstFault d 59 [none, none] [.inl s0] h (f_X8_firstFault_59  s0 h) := by
  unfold f_X8_firstFault_59
  exact sim_iret dX8_firstFault_59 rfl
def f_X8_firstFault_9  : Nat → Nat × Nat → Int32 → am_H → am_R
  | 0, _, _, _ => none
  | n + 1, a0, x1, h => m_gI (some a0) 8 1 h fun v5 => if v5 ≤ x1 then (m_gR (some a0) 8 2 h fun o6 => m_ao o6 4 fun a9 => m_bI (f_X4_isAtEnd a9 h) fun h7 v8 => if v8 = 0 then (m_gI (some a0) 8 1 h7 fun v10 => f_X8_firstFault_59 v10 h7) else (f_X8_firstFault_59 (-1 : Int32) h7)) else (m_gR (some a0) 8 2 h fun o11 => m_gR (some a0) 8 0 h fun o12 => m_aI o12 2 x1 h fun v13 => m_ao o11 4 fun a16 => m_bI (f_X4_takes a16 v13 h) fun h14 v15 => if v15 = 0 then (m_ri h14 x1) else ((f_X8_firstFault_9  n) a0 (x1 + 1) h14))
theorem t_X8_firstFault_9 (d : Nat) (hd : 3 ≤ d)  : ∀ (n : Nat) (a0 : Nat × Nat) (x1 : Int32) (h : am_H), Sim m_X8_firstFault d 9 [some (.inr (.inr (some a0))), some (.inl x1)] [] h (f_X8_firstFault_9  n a0 x1 h) := by
  intro n
  induction n with
  | zero => intros; exact sim_none
  | succ n hrc9 =>
    intro a0 x1 h
    rw [f_X8_firstFault_9]
    refine sim_iload_n dX8_firstFault_9 rfl ?_
    refine sim_aload_n dX8_firstFault_10 rfl ?_
    refine sim_gI 8 1 dX8_firstFault_11 rfl wf_RX8_30 (Nat.le_of_ble_eq_true rfl) rfl (fun v5 => ?_)
    refine sim_ic_ge 41 dX8_firstFault_14 (by decide) (fun c => ?_) (fun c => ?_)
    · refine sim_aload_n dX8_firstFault_41 rfl ?_
      refine sim_gR 8 2 dX8_firstFault_42 rfl wf_RX8_18 (Nat.le_of_ble_eq_true rfl) rfl (fun o6 => ?_)
      refine sim_ao0 (fun a9 e => ?_)
      refine sim_virt (d - 1) e dX8_firstFault_45 (k_X4_isAtEnd (d - 1) (by omega) _  _) q_X4_isAtEnd rfl rfl wm_RX8_40 rfl rfl (by omega) (Nat.le_of_ble_eq_true rfl) am_nI (am_rI fun h7 v8 => ?_) am_eI
      refine sim_if_eq 55 dX8_firstFault_48 (by decide) (fun c => ?_) (fun c => ?_)
      · refine sim_aload_n dX8_firstFault_55 rfl ?_
        refine sim_gI 8 1 dX8_firstFault_56 rfl wf_RX8_30 (Nat.le_of_ble_eq_true rfl) rfl (fun v10 => ?_)
        exact sim_lv (am_leN (am_leN am_leT)) (t_X8_firstFault_59 d (by omega) _ _)
      · refine sim_iconst (-1) dX8_firstFault_51 (by decide +kernel) ?_
        refine sim_goto 59 dX8_firstFault_52 (by decide) ?_
        exact sim_lv (am_leN (am_leN am_leT)) (t_X8_firstFault_59 d (by omega) _ _)
    · refine sim_aload_n dX8_firstFault_17 rfl ?_
      refine sim_gR 8 2 dX8_firstFault_18 rfl wf_RX8_18 (Nat.le_of_ble_eq_true rfl) rfl (fun o11 => ?_)
      refine sim_aload_n dX8_firstFault_21 rfl ?_
      refine sim_gR 8 0 dX8_firstFault_22 rfl wf_RX8_9 (Nat.le_of_ble_eq_true rfl) rfl (fun o12 => ?_)
      refine sim_iload_n dX8_firstFault_25 rfl ?_
      refine sim_aC dX8_firstFault_26 (fun v13 => ?_)
      refine sim_ao1 (fun a16 e => ?_)
      refine sim_virt (d - 1) e dX8_firstFault_27 (k_X4_takes (d - 1) (by omega) _ _ _) q_X4_takes rfl rfl wm_RX8_37 rfl rfl (by omega) (Nat.le_of_ble_eq_true rfl) am_nI (am_rI fun h14 v15 => ?_) am_eI
      refine sim_if_ne 35 dX8_firstFault_30 (by decide) (fun c => ?_) (fun c => ?_)
      · refine sim_iinc (1) dX8_firstFault_35 rfl (by decide +kernel) (Nat.le_of_ble_eq_true rfl) ?_
        refine sim_goto 9 dX8_firstFault_38 (by decide) ?_
        exact sim_lv (am_leS (am_leS am_leT)) (hrc9 _ _ _)
      · refine sim_iload_n dX8_firstFault_33 rfl ?_
        exact sim_iret dX8_firstFault_34 rfl
def f_X8_firstFault (a0 : Nat × Nat) (h : am_H) : am_R := m_gR (some a0) 8 2 h fun o1 => m_ao o1 4 fun a4 => m_bV (f_X4_start a4 h) fun h2 => f_X8_firstFault_9 5000 a0 (0 : Int32) h2
theorem k_X8_firstFault (d : Nat) (hd : 3 ≤ d) (a0 : Nat × Nat) (h : am_H) : am_Con m_X8_firstFault d [.inr (.inr (some a0))] h (f_X8_firstFault a0 h) := am_con (by decide +kernel) (Nat.le_of_ble_eq_true rfl) (by
  unfold f_X8_firstFault
  refine sim_aload_n dX8_firstFault_0 rfl ?_
  refine sim_gR 8 2 dX8_firstFault_1 rfl wf_RX8_18 (Nat.le_of_ble_eq_true rfl) rfl (fun o1 => ?_)
  refine sim_ao0 (fun a4 e => ?_)
  refine sim_virt (d - 1) e dX8_firstFault_4 (k_X4_start (d - 1) (by omega) _  _) q_X4_start rfl rfl wm_RX8_34 rfl rfl (by omega) (Nat.le_of_ble_eq_true rfl) am_nV (am_rV fun h2 => ?_) am_eV
  refine sim_iconst (0) dX8_firstFault_7 (by decide +kernel) ?_
  refine sim_istore_n dX8_firstFault_8 (Nat.le_of_ble_eq_true rfl) ?_
  exact sim_lv (am_leS (am_leS am_leT)) (t_X8_firstFault_9 d (by omega) _ _ _ _))
theorem q_X8_firstFault : am_Cal m_X8_firstFault 0 2 := ⟨am_mem 283 (w := Cond.code yX8_firstFault cX8_firstFault 2 (some .int)) (by decide +kernel) rfl, am_mem 58 (w := Cond.initialized RX8) (by decide +kernel) rfl, fun z => absurd z (by decide), fun _ => am_mem 281 (w := Cond.instanceMethod yX8_firstFault) (by decide +kernel) rfl, fun z => absurd z (by decide), fun _ => am_mem 282 (w := Cond.selects RX8 yX8_firstFault yX8_firstFault) (by decide +kernel) rfl, by decide +kernel, by decide +kernel, Nat.le_of_ble_eq_true rfl⟩
abbrev m_X10_checkQuery : am_M := (yX10_checkQuery, cX10_checkQuery, 1, none, [])
def f_X10_checkQuery (a0 : Nat × Nat) (h : am_H) : am_R := m_gR (some a0) 10 8 h fun o1 => m_ao o1 8 fun a4 => m_bI (f_X8_firstFault a4 h) fun h2 v3 => if v3 = (-1 : Int32) then (m_rt h2 none) else (m_ex h2 1)
theorem k_X10_checkQuery (d : Nat) (hd : 6 ≤ d) (a0 : Nat × Nat) (h : am_H) : am_Con m_X10_checkQuery d [.inr (.inr (some a0))] h (f_X10_checkQuery a0 h) := am_con (by decide +kernel) (Nat.le_of_ble_eq_true rfl) (by
  unfold f_X10_checkQuery
  refine sim_aload_n dX10_checkQuery_0 rfl ?_
  refine sim_gR 10 8 dX10_checkQuery_1 rfl wf_RX10_41 (Nat.le_of_ble_eq_true rfl) rfl (fun o1 => ?_)
  refine sim_ao0 (fun a4 e => ?_)
  refine sim_virt (d - 1) e dX10_checkQuery_4 (k_X8_firstFault (d - 1) (by omega) _  _) q_X8_firstFault rfl rfl wm_RX10_271 rfl rfl (by omega) (Nat.le_of_ble_eq_true rfl) am_nI (am_rI fun h2 v3 => ?_) am_eI
  refine sim_iconst (-1) dX10_checkQuery_7 (by decide +kernel) ?_
  refine sim_ic_eq 22 dX10_checkQuery_8 (by decide) (fun c => ?_) (fun c => ?_)
  · exact sim_vret dX10_checkQuery_22 rfl
  · exact sim_throwW 1 (by decide) dX10_checkQuery_11 dX10_checkQuery_14 dX10_checkQuery_15 dX10_checkQuery_18 dX10_checkQuery_21 wx_RX10_66 wy_1 ws_RX10_382 at_RX10_70 gd_RX10_70 (by omega) (Nat.le_of_ble_eq_true rfl))
theorem q_X10_checkQuery : am_Cal m_X10_checkQuery 0 2 := ⟨am_mem 830 (w := Cond.code yX10_checkQuery cX10_checkQuery 1 none) (by decide +kernel) rfl, am_mem 56 (w := Cond.initialized RX10) (by decide +kernel) rfl, fun z => absurd z (by decide), fun _ => am_mem 829 (w := Cond.instanceMethod yX10_checkQuery) (by decide +kernel) rfl, fun z => absurd z (by decide), fun _ => am_mem 14 (w := Cond.selects RX10 yX10_checkQuery yX10_checkQuery) (by decide +kernel) rfl, by decide +kernel, by decide +kernel, Nat.le_of_ble_eq_true rfl⟩
abbrev m_X9_latest : am_M := (yX9_latest, cX9_latest, 1, some .int, [])
def f_X9_latest_28  (s0 : Int32) (h : am_H) : am_R := m_ri h s0
theorem t_X9_latest_28 (d : Nat) (hd : 2 ≤ d)  (s0 : Int32) (h : am_H) : Sim m_X9_latest d 28 [none] [.inl s0] h (f_X9_latest_28  s0 h) := by
  unfold f_X9_latest_28
  exact sim_iret dX9_latest_28 rfl
def f_X9_latest_27   (h : am_H) : am_R := f_X9_latest_28 (-1 : Int32) h
theorem t_X9_latest_27 (d : Nat) (hd : 2 ≤ d)   (h : am_H) : Sim m_X9_latest d 27 [none] [] h (f_X9_latest_27   h) := by
  unfold f_X9_latest_27
  refine sim_iconst (-1) dX9_latest_27 (by decide +kernel) ?_
  exact sim_lv (am_leN am_leT) (t_X9_latest_28 d (by omega) _ _)
def f_X9_latest (a0 : Nat × Nat) (h : am_H) : am_R := m_ao (some a0) 9 fun a3 => m_bI (f_X9_isPosted a3 h) fun h1 v2 => if v2 = 0 then (f_X9_latest_27 h1) else (m_gI (some a0) 9 3 h1 fun v4 => if v4 ≤ 0 then (f_X9_latest_27 h1) else (m_gI (some a0) 9 3 h1 fun v5 => m_ao (some a0) 9 fun a8 => m_bI (f_X9_outDay a8 (v5 - (1 : Int32)) h1) fun h6 v7 => f_X9_latest_28 v7 h6))
theorem k_X9_latest (d : Nat) (hd : 2 ≤ d) (a0 : Nat × Nat) (h : am_H) : am_Con m_X9_latest d [.inr (.inr (some a0))] h (f_X9_latest a0 h) := am_con (by decide +kernel) (Nat.le_of_ble_eq_true rfl) (by
  unfold f_X9_latest
  refine sim_aload_n dX9_latest_0 rfl ?_
  refine sim_ao0 (fun a3 e => ?_)
  refine sim_virt (d - 1) e dX9_latest_1 (k_X9_isPosted (d - 1) (by omega) _  _) q_X9_isPosted rfl rfl wm_RX9_42 rfl rfl (by omega) (Nat.le_of_ble_eq_true rfl) am_nI (am_rI fun h1 v2 => ?_) am_eI
  refine sim_if_eq 27 dX9_latest_4 (by decide) (fun c => ?_) (fun c => ?_)
  · exact sim_lv (am_leN am_leT) (t_X9_latest_27 d (by omega) _)
  · refine sim_aload_n dX9_latest_7 rfl ?_
    refine sim_gI 9 3 dX9_latest_8 rfl wf_RX9_62 (Nat.le_of_ble_eq_true rfl) rfl (fun v4 => ?_)
    refine sim_if_le 27 dX9_latest_11 (by decide) (fun c => ?_) (fun c => ?_)
    · exact sim_lv (am_leN am_leT) (t_X9_latest_27 d (by omega) _)
    · refine sim_aload_n dX9_latest_14 rfl ?_
      refine sim_aload_n dX9_latest_15 rfl ?_
      refine sim_gI 9 3 dX9_latest_16 rfl wf_RX9_62 (Nat.le_of_ble_eq_true rfl) rfl (fun v5 => ?_)
      refine sim_iconst (1) dX9_latest_19 (by decide +kernel) ?_
      refine sim_isub dX9_latest_20 ?_
      refine sim_ao1 (fun a8 e => ?_)
      refine sim_virt (d - 1) e dX9_latest_21 (k_X9_outDay (d - 1) (by omega) _ _ _) q_X9_outDay rfl rfl wm_RX9_65 rfl rfl (by omega) (Nat.le_of_ble_eq_true rfl) am_nI (am_rI fun h6 v7 => ?_) am_eI
      refine sim_goto 28 dX9_latest_24 (by decide) ?_
      exact sim_lv (am_leN am_leT) (t_X9_latest_28 d (by omega) _ _))
theorem q_X9_latest : am_Cal m_X9_latest 0 2 := ⟨am_mem 891 (w := Cond.code yX9_latest cX9_latest 1 (some .int)) (by decide +kernel) rfl, am_mem 71 (w := Cond.initialized RX9) (by decide +kernel) rfl, fun z => absurd z (by decide), fun _ => am_mem 889 (w := Cond.instanceMethod yX9_latest) (by decide +kernel) rfl, fun z => absurd z (by decide), fun _ => am_mem 890 (w := Cond.selects RX9 yX9_latest yX9_latest) (by decide +kernel) rfl, by decide +kernel, by decide +kernel, Nat.le_of_ble_eq_true rfl⟩
abbrev m_X10_countAheadOf : am_M := (yX10_countAheadOf, cX10_countAheadOf, 8, some .int, [])
def f_X10_countAheadOf_79 (rc16 : Nat × Nat → Int32 → Int32 → Int32 → Int32 → Int32 → am_H → am_R) (a0 : Nat × Nat) (x1 : Int32) (x2 : Int32) (x3 : Int32) (x4 : Int32) (x5 : Int32) (h : am_H) : am_R := rc16 a0 x1 x2 x3 x4 (x5 + 1) h
theorem t_X10_countAheadOf_79 (d : Nat) (hd : 3 ≤ d) (rc16 : Nat × Nat → Int32 → Int32 → Int32 → Int32 → Int32 → am_H → am_R) (hrc16 : ∀ a0 x1 x2 x3 x4 x5 h, Sim m_X10_countAheadOf d 16 [some (.inr (.inr (some a0))), some (.inl x1), some (.inl x2), some (.inl x3), some (.inl x4), some (.inl x5), none, none] [] h (rc16 a0 x1 x2 x3 x4 x5 h)) (a0 : Nat × Nat) (x1 : Int32) (x2 : Int32) (x3 : Int32) (x4 : Int32) (x5 : Int32) (h : am_H) : Sim m_X10_countAheadOf d 79 [some (.inr (.inr (some a0))), some (.inl x1), some (.inl x2), some (.inl x3), some (.inl x4), some (.inl x5), none, none] [] h (f_X10_countAheadOf_79 rc16 a0 x1 x2 x3 x4 x5 h) := by
  unfold f_X10_countAheadOf_79
  refine sim_iinc (1) dX10_countAheadOf_79 rfl (by decide +kernel) (Nat.le_of_ble_eq_true rfl) ?_
  refine sim_goto 16 dX10_countAheadOf_82 (by decide) ?_
  exact sim_lv (am_leS (am_leS (am_leS (am_leS (am_leS (am_leS (am_leN (am_leN am_leT)))))))) (hrc16 _ _ _ _ _ _ _)
def f_X10_countAheadOf_60 (rc16 : Nat × Nat → Int32 → Int32 → Int32 → Int32 → Int32 → am_H → am_R) (a0 : Nat × Nat) (x1 : Int32) (x2 : Int32) (x3 : Int32) (x4 : Int32) (x5 : Int32) (s0 : Int32) (h : am_H) : am_R := if s0 = 0 then (f_X10_countAheadOf_79 rc16 a0 x1 x2 x3 x4 x5 h) else (m_bI (f_X10_has x2 x5 h) fun h12 v13 => if v13 = 0 then (f_X10_countAheadOf_79 rc16 a0 x1 x2 x3 x4 x5 h12) else (f_X10_countAheadOf_79 rc16 a0 x1 x2 x3 (x4 + 1) x5 h12))
theorem t_X10_countAheadOf_60 (d : Nat) (hd : 3 ≤ d) (rc16 : Nat × Nat → Int32 → Int32 → Int32 → Int32 → Int32 → am_H → am_R) (hrc16 : ∀ a0 x1 x2 x3 x4 x5 h, Sim m_X10_countAheadOf d 16 [some (.inr (.inr (some a0))), some (.inl x1), some (.inl x2), some (.inl x3), some (.inl x4), some (.inl x5), none, none] [] h (rc16 a0 x1 x2 x3 x4 x5 h)) (a0 : Nat × Nat) (x1 : Int32) (x2 : Int32) (x3 : Int32) (x4 : Int32) (x5 : Int32) (s0 : Int32) (h : am_H) : Sim m_X10_countAheadOf d 60 [some (.inr (.inr (some a0))), some (.inl x1), some (.inl x2), some (.inl x3), some (.inl x4), some (.inl x5), none, none] [.inl s0] h (f_X10_countAheadOf_60 rc16 a0 x1 x2 x3 x4 x5 s0 h) := by
  unfold f_X10_countAheadOf_60
  refine sim_istore dX10_countAheadOf_60 (Nat.le_of_ble_eq_true rfl) ?_
  refine sim_iload dX10_countAheadOf_62 rfl ?_
  refine sim_if_eq 79 dX10_countAheadOf_64 (by decide) (fun c => ?_) (fun c => ?_)
  · exact sim_lv (am_leS (am_leS (am_leS (am_leS (am_leS (am_leS (am_leN (am_leN am_leT)))))))) (t_X10_countAheadOf_79 d (by omega) _ hrc16 _ _ _ _ _ _ _)
  · refine sim_iload_n dX10_countAheadOf_67 rfl ?_
    refine sim_iload dX10_countAheadOf_68 rfl ?_
    refine sim_static (d - 1) dX10_countAheadOf_70 (k_X10_has (d - 1) (by omega) _ _ _) q_X10_has wm_RX10_91 rfl rfl (by omega) (Nat.le_of_ble_eq_true rfl) am_nI (am_rI fun h12 v13 => ?_) am_eI
    refine sim_if_eq 79 dX10_countAheadOf_73 (by decide) (fun c => ?_) (fun c => ?_)
    · exact sim_lv (am_leS (am_leS (am_leS (am_leS (am_leS (am_leS (am_leN (am_leN am_leT)))))))) (t_X10_countAheadOf_79 d (by omega) _ hrc16 _ _ _ _ _ _ _)
    · refine sim_iinc (1) dX10_countAheadOf_76 rfl (by decide +kernel) (Nat.le_of_ble_eq_true rfl) ?_
      exact sim_lv (am_leS (am_leS (am_leS (am_leS (am_leS (am_leS (am_leN (am_leN am_leT)))))))) (t_X10_countAheadOf_79 d (by omega) _ hrc16 _ _ _ _ _ _ _)
def f_X10_countAheadOf_59 (rc16 : Nat × Nat → Int32 → Int32 → Int32 → Int32 → Int32 → am_H → am_R) (a0 : Nat × Nat) (x1 : Int32) (x2 : Int32) (x3 : Int32) (x4 : Int32) (x5 : Int32) (h : am_H) : am_R := f_X10_countAheadOf_60 rc16 a0 x1 x2 x3 x4 x5 (0 : Int32) h
theorem t_X10_countAheadOf_59 (d : Nat) (hd : 3 ≤ d) (rc16 : Nat × Nat → Int32 → Int32 → Int32 → Int32 → Int32 → am_H → am_R) (hrc16 : ∀ a0 x1 x2 x3 x4 x5 h, Sim m_X10_countAheadOf d 16 [some (.inr (.inr (some a0))), some (.inl x1), some (.inl x2), some (.inl x3), some (.inl x4), some (.inl x5), none, none] [] h (rc16 a0 x1 x2 x3 x4 x5 h)) (a0 : Nat × Nat) (x1 : Int32) (x2 : Int32) (x3 : Int32) (x4 : Int32) (x5 : Int32) (h : am_H) : Sim m_X10_countAheadOf d 59 [some (.inr (.inr (some a0))), some (.inl x1), some (.inl x2), some (.inl x3), some (.inl x4), some (.inl x5), none, none] [] h (f_X10_countAheadOf_59 rc16 a0 x1 x2 x3 x4 x5 h) := by
  unfold f_X10_countAheadOf_59
  refine sim_iconst (0) dX10_countAheadOf_59 (by decide +kernel) ?_
  exact sim_lv (am_leS (am_leS (am_leS (am_leS (am_leS (am_leS (am_leN (am_leN am_leT)))))))) (t_X10_countAheadOf_60 d (by omega) _ hrc16 _ _ _ _ _ _ _ _)
def f_X10_countAheadOf_55 (rc16 : Nat × Nat → Int32 → Int32 → Int32 → Int32 → Int32 → am_H → am_R) (a0 : Nat × Nat) (x1 : Int32) (x2 : Int32) (x3 : Int32) (x4 : Int32) (x5 : Int32) (h : am_H) : am_R := f_X10_countAheadOf_60 rc16 a0 x1 x2 x3 x4 x5 (1 : Int32) h
theorem t_X10_countAheadOf_55 (d : Nat) (hd : 3 ≤ d) (rc16 : Nat × Nat → Int32 → Int32 → Int32 → Int32 → Int32 → am_H → am_R) (hrc16 : ∀ a0 x1 x2 x3 x4 x5 h, Sim m_X10_countAheadOf d 16 [some (.inr (.inr (some a0))), some (.inl x1), some (.inl x2), some (.inl x3), some (.inl x4), some (.inl x5), none, none] [] h (rc16 a0 x1 x2 x3 x4 x5 h)) (a0 : Nat × Nat) (x1 : Int32) (x2 : Int32) (x3 : Int32) (x4 : Int32) (x5 : Int32) (h : am_H) : Sim m_X10_countAheadOf d 55 [some (.inr (.inr (some a0))), some (.inl x1), some (.inl x2), some (.inl x3), some (.inl x4), some (.inl x5), none, none] [] h (f_X10_countAheadOf_55 rc16 a0 x1 x2 x3 x4 x5 h) := by
  unfold f_X10_countAheadOf_55
  refine sim_iconst (1) dX10_countAheadOf_55 (by decide +kernel) ?_
  refine sim_goto 60 dX10_countAheadOf_56 (by decide) ?_
  exact sim_lv (am_leS (am_leS (am_leS (am_leS (am_leS (am_leS (am_leN (am_leN am_leT)))))))) (t_X10_countAheadOf_60 d (by omega) _ hrc16 _ _ _ _ _ _ _ _)
def f_X10_countAheadOf_16  : Nat → Nat × Nat → Int32 → Int32 → Int32 → Int32 → Int32 → am_H → am_R
  | 0, _, _, _, _, _, _, _ => none
  | n + 1, a0, x1, x2, x3, x4, x5, h => m_gI (some a0) 10 4 h fun v6 => if v6 ≤ x5 then (m_ri h x4) else (m_gR (some a0) 10 3 h fun o7 => m_aR o7 5 x5 h fun o8 => m_ao o8 9 fun a11 => m_bI (f_X9_latest a11 h) fun h9 v10 => if x3 < v10 then (f_X10_countAheadOf_55 (f_X10_countAheadOf_16  n) a0 x1 x2 x3 x4 x5 h9) else (if v10 = x3 then (if x1 ≤ x5 then (f_X10_countAheadOf_59 (f_X10_countAheadOf_16  n) a0 x1 x2 x3 x4 x5 h9) else (f_X10_countAheadOf_55 (f_X10_countAheadOf_16  n) a0 x1 x2 x3 x4 x5 h9)) else (f_X10_countAheadOf_59 (f_X10_countAheadOf_16  n) a0 x1 x2 x3 x4 x5 h9)))
theorem t_X10_countAheadOf_16 (d : Nat) (hd : 3 ≤ d)  : ∀ (n : Nat) (a0 : Nat × Nat) (x1 : Int32) (x2 : Int32) (x3 : Int32) (x4 : Int32) (x5 : Int32) (h : am_H), Sim m_X10_countAheadOf d 16 [some (.inr (.inr (some a0))), some (.inl x1), some (.inl x2), some (.inl x3), some (.inl x4), some (.inl x5), none, none] [] h (f_X10_countAheadOf_16  n a0 x1 x2 x3 x4 x5 h) := by
  intro n
  induction n with
  | zero => intros; exact sim_none
  | succ n hrc16 =>
    intro a0 x1 x2 x3 x4 x5 h
    rw [f_X10_countAheadOf_16]
    refine sim_iload dX10_countAheadOf_16 rfl ?_
    refine sim_aload_n dX10_countAheadOf_18 rfl ?_
    refine sim_gI 10 4 dX10_countAheadOf_19 rfl wf_RX10_104 (Nat.le_of_ble_eq_true rfl) rfl (fun v6 => ?_)
    refine sim_ic_ge 85 dX10_countAheadOf_22 (by decide) (fun c => ?_) (fun c => ?_)
    · refine sim_iload dX10_countAheadOf_85 rfl ?_
      exact sim_iret dX10_countAheadOf_87 rfl
    · refine sim_aload_n dX10_countAheadOf_25 rfl ?_
      refine sim_gR 10 3 dX10_countAheadOf_26 rfl wf_RX10_21 (Nat.le_of_ble_eq_true rfl) rfl (fun o7 => ?_)
      refine sim_iload dX10_countAheadOf_29 rfl ?_
      refine sim_aR 5 rfl dX10_countAheadOf_31 (fun o8 => ?_)
      refine sim_ao0 (fun a11 e => ?_)
      refine sim_virt (d - 1) e dX10_countAheadOf_32 (k_X9_latest (d - 1) (by omega) _  _) q_X9_latest rfl rfl wm_RX10_443 rfl rfl (by omega) (Nat.le_of_ble_eq_true rfl) am_nI (am_rI fun h9 v10 => ?_) am_eI
      refine sim_istore dX10_countAheadOf_35 (Nat.le_of_ble_eq_true rfl) ?_
      refine sim_iload dX10_countAheadOf_37 rfl ?_
      refine sim_iload_n dX10_countAheadOf_39 rfl ?_
      refine sim_ic_gt 55 dX10_countAheadOf_40 (by decide) (fun c => ?_) (fun c => ?_)
      · exact sim_lv (am_leS (am_leS (am_leS (am_leS (am_leS (am_leS (am_leN (am_leN am_leT)))))))) (t_X10_countAheadOf_55 d (by omega) _ hrc16 _ _ _ _ _ _ _)
      · refine sim_iload dX10_countAheadOf_43 rfl ?_
        refine sim_iload_n dX10_countAheadOf_45 rfl ?_
        refine sim_ic_ne 59 dX10_countAheadOf_46 (by decide) (fun c => ?_) (fun c => ?_)
        · exact sim_lv (am_leS (am_leS (am_leS (am_leS (am_leS (am_leS (am_leN (am_leN am_leT)))))))) (t_X10_countAheadOf_59 d (by omega) _ hrc16 _ _ _ _ _ _ _)
        · refine sim_iload dX10_countAheadOf_49 rfl ?_
          refine sim_iload_n dX10_countAheadOf_51 rfl ?_
          refine sim_ic_ge 59 dX10_countAheadOf_52 (by decide) (fun c => ?_) (fun c => ?_)
          · exact sim_lv (am_leS (am_leS (am_leS (am_leS (am_leS (am_leS (am_leN (am_leN am_leT)))))))) (t_X10_countAheadOf_59 d (by omega) _ hrc16 _ _ _ _ _ _ _)
          · exact sim_lv (am_leS (am_leS (am_leS (am_leS (am_leS (am_leS (am_leN (am_leN am_leT)))))))) (t_X10_countAheadOf_55 d (by omega) _ hrc16 _ _ _ _ _ _ _)
def f_X10_countAheadOf (a0 : Nat × Nat) (x1 : Int32) (x2 : Int32) (h : am_H) : am_R := m_gR (some a0) 10 3 h fun o1 => m_aR o1 5 x1 h fun o2 => m_ao o2 9 fun a5 => m_bI (f_X9_latest a5 h) fun h3 v4 => f_X10_countAheadOf_16 5000 a0 x1 x2 v4 (0 : Int32) (0 : Int32) h3
theorem k_X10_countAheadOf (d : Nat) (hd : 3 ≤ d) (a0 : Nat × Nat) (x1 : Int32) (x2 : Int32) (h : am_H) : am_Con m_X10_countAheadOf d [.inr (.inr (some a0)), .inl x1, .inl x2] h (f_X10_countAheadOf a0 x1 x2 h) := am_con (by decide +kernel) (Nat.le_of_ble_eq_true rfl) (by
  unfold f_X10_countAheadOf
  refine sim_aload_n dX10_countAheadOf_0 rfl ?_
  refine sim_gR 10 3 dX10_countAheadOf_1 rfl wf_RX10_21 (Nat.le_of_ble_eq_true rfl) rfl (fun o1 => ?_)
  refine sim_iload_n dX10_countAheadOf_4 rfl ?_
  refine sim_aR 5 rfl dX10_countAheadOf_5 (fun o2 => ?_)
  refine sim_ao0 (fun a5 e => ?_)
  refine sim_virt (d - 1) e dX10_countAheadOf_6 (k_X9_latest (d - 1) (by omega) _  _) q_X9_latest rfl rfl wm_RX10_443 rfl rfl (by omega) (Nat.le_of_ble_eq_true rfl) am_nI (am_rI fun h3 v4 => ?_) am_eI
  refine sim_istore_n dX10_countAheadOf_9 (Nat.le_of_ble_eq_true rfl) ?_
  refine sim_iconst (0) dX10_countAheadOf_10 (by decide +kernel) ?_
  refine sim_istore dX10_countAheadOf_11 (Nat.le_of_ble_eq_true rfl) ?_
  refine sim_iconst (0) dX10_countAheadOf_13 (by decide +kernel) ?_
  refine sim_istore dX10_countAheadOf_14 (Nat.le_of_ble_eq_true rfl) ?_
  exact sim_lv (am_leS (am_leS (am_leS (am_leS (am_leS (am_leS (am_leN (am_leN am_leT)))))))) (t_X10_countAheadOf_16 d (by omega) _ _ _ _ _ _ _ _))
theorem q_X10_countAheadOf : am_Cal m_X10_countAheadOf 2 2 := ⟨am_mem 887 (w := Cond.code yX10_countAheadOf cX10_countAheadOf 8 (some .int)) (by decide +kernel) rfl, am_mem 56 (w := Cond.initialized RX10) (by decide +kernel) rfl, fun z => absurd z (by decide), fun _ => am_mem 886 (w := Cond.instanceMethod yX10_countAheadOf) (by decide +kernel) rfl, fun z => absurd z (by decide), fun _ => am_mem 20 (w := Cond.selects RX10 yX10_countAheadOf yX10_countAheadOf) (by decide +kernel) rfl, by decide +kernel, by decide +kernel, Nat.le_of_ble_eq_true rfl⟩
abbrev m_X10_placesOf : am_M := (yX10_placesOf, cX10_placesOf, 3, some .int, [])
def f_X10_placesOf_22  (s0 : Int32) (h : am_H) : am_R := m_ri h s0
theorem t_X10_placesOf_22 (d : Nat) (hd : 2 ≤ d)  (s0 : Int32) (h : am_H) : Sim m_X10_placesOf d 22 [none, none, none] [.inl s0] h (f_X10_placesOf_22  s0 h) := by
  unfold f_X10_placesOf_22
  exact sim_iret dX10_placesOf_22 rfl
def f_X10_placesOf (a0 : Nat × Nat) (x1 : Option (Nat × Nat)) (x2 : Int32) (h : am_H) : am_R := if x2 = 0 then (m_gI x1 9 8 h fun v1 => f_X10_placesOf_22 v1 h) else (m_gR (some a0) 10 7 h fun o2 => m_gI x1 9 7 h fun v3 => m_ao o2 7 fun a6 => m_bI (f_X7_belongUnder a6 v3 h) fun h4 v5 => f_X10_placesOf_22 v5 h4)
theorem k_X10_placesOf (d : Nat) (hd : 2 ≤ d) (a0 : Nat × Nat) (x1 : Option (Nat × Nat)) (x2 : Int32) (h : am_H) : am_Con m_X10_placesOf d [.inr (.inr (some a0)), .inr (.inr x1), .inl x2] h (f_X10_placesOf a0 x1 x2 h) := am_con (by decide +kernel) (Nat.le_of_ble_eq_true rfl) (by
  unfold f_X10_placesOf
  refine sim_iload_n dX10_placesOf_0 rfl ?_
  refine sim_if_eq 18 dX10_placesOf_1 (by decide) (fun c => ?_) (fun c => ?_)
  · refine sim_aload_n dX10_placesOf_18 rfl ?_
    refine sim_gI 9 8 dX10_placesOf_19 rfl wf_RX10_388 (Nat.le_of_ble_eq_true rfl) rfl (fun v1 => ?_)
    exact sim_lv (am_leN (am_leN (am_leN am_leT))) (t_X10_placesOf_22 d (by omega) _ _)
  · refine sim_aload_n dX10_placesOf_4 rfl ?_
    refine sim_gR 10 7 dX10_placesOf_5 rfl wf_RX10_34 (Nat.le_of_ble_eq_true rfl) rfl (fun o2 => ?_)
    refine sim_aload_n dX10_placesOf_8 rfl ?_
    refine sim_gI 9 7 dX10_placesOf_9 rfl wf_RX10_234 (Nat.le_of_ble_eq_true rfl) rfl (fun v3 => ?_)
    refine sim_ao1 (fun a6 e => ?_)
    refine sim_virt (d - 1) e dX10_placesOf_12 (k_X7_belongUnder (d - 1) (by omega) _ _ _) q_X7_belongUnder rfl rfl wm_RX10_236 rfl rfl (by omega) (Nat.le_of_ble_eq_true rfl) am_nI (am_rI fun h4 v5 => ?_) am_eI
    refine sim_goto 22 dX10_placesOf_15 (by decide) ?_
    exact sim_lv (am_leN (am_leN (am_leN am_leT))) (t_X10_placesOf_22 d (by omega) _ _))
theorem q_X10_placesOf : am_Cal m_X10_placesOf 2 2 := ⟨am_mem 796 (w := Cond.code yX10_placesOf cX10_placesOf 3 (some .int)) (by decide +kernel) rfl, am_mem 56 (w := Cond.initialized RX10) (by decide +kernel) rfl, fun z => absurd z (by decide), fun _ => am_mem 795 (w := Cond.instanceMethod yX10_placesOf) (by decide +kernel) rfl, fun z => absurd z (by decide), fun _ => am_mem 13 (w := Cond.selects RX10 yX10_placesOf yX10_placesOf) (by decide +kernel) rfl, by decide +kernel, by decide +kernel, Nat.le_of_ble_eq_true rfl⟩
