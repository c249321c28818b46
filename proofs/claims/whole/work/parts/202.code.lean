abbrev m_X10_digest : am_M := (yX10_digest, cX10_digest, 6, some .int, [])
def f_X10_digest_16  : Nat → Nat × Nat → Int32 → Option (Nat × Nat) → Int32 → Int32 → am_H → am_R
  | 0, _, _, _, _, _, _ => none
  | n + 1, a0, x1, x2, x3, x4, h => m_gI (some a0) 10 4 h fun v5 => if v5 ≤ x4 then (m_ri h x3) else (m_ao (some a0) 10 fun a8 => m_bI (f_X10_newChapters a8 x1 x4 h) fun h6 v7 => m_gR x2 3 3 h6 fun o9 => m_aI o9 0 x4 h6 fun v10 => m_sI o9 x4 (v10 ||| v7) h6 fun h11 => m_bI (f_J6_bitCount_0f7a4 v7 h11) fun h12 v13 => (f_X10_digest_16  n) a0 x1 x2 (x3 + v13) (x4 + 1) h12)
theorem t_X10_digest_16 (d : Nat) (hd : 7 ≤ d)  : ∀ (n : Nat) (a0 : Nat × Nat) (x1 : Int32) (x2 : Option (Nat × Nat)) (x3 : Int32) (x4 : Int32) (h : am_H), Sim m_X10_digest d 16 [some (.inr (.inr (some a0))), some (.inl x1), some (.inr (.inr x2)), some (.inl x3), some (.inl x4), none] [] h (f_X10_digest_16  n a0 x1 x2 x3 x4 h) := by
  intro n
  induction n with
  | zero => intros; exact sim_none
  | succ n hrc16 =>
    intro a0 x1 x2 x3 x4 h
    rw [f_X10_digest_16]
    refine sim_iload dX10_digest_16 rfl ?_
    refine sim_aload_n dX10_digest_18 rfl ?_
    refine sim_gI 10 4 dX10_digest_19 rfl wf_RX10_104 (Nat.le_of_ble_eq_true rfl) rfl (fun v5 => ?_)
    refine sim_ic_ge 60 dX10_digest_22 (by decide) (fun c => ?_) (fun c => ?_)
    · refine sim_iload_n dX10_digest_60 rfl ?_
      exact sim_iret dX10_digest_61 rfl
    · refine sim_aload_n dX10_digest_25 rfl ?_
      refine sim_iload_n dX10_digest_26 rfl ?_
      refine sim_iload dX10_digest_27 rfl ?_
      refine sim_ao2 (fun a8 e => ?_)
      refine sim_virt (d - 1) e dX10_digest_29 (k_X10_newChapters (d - 1) (by omega) _ _ _ _) q_X10_newChapters rfl rfl wm_RX10_370 rfl rfl (by omega) (Nat.le_of_ble_eq_true rfl) am_nI (am_rI fun h6 v7 => ?_) am_eI
      refine sim_istore dX10_digest_32 (Nat.le_of_ble_eq_true rfl) ?_
      refine sim_aload_n dX10_digest_34 rfl ?_
      refine sim_gR 3 3 dX10_digest_35 rfl wf_RX10_373 (Nat.le_of_ble_eq_true rfl) rfl (fun o9 => ?_)
      refine sim_iload dX10_digest_38 rfl ?_
      refine sim_dup2 dX10_digest_40 ?_
      refine sim_aI dX10_digest_41 (fun v10 => ?_)
      refine sim_iload dX10_digest_42 rfl ?_
      refine sim_ior dX10_digest_44 ?_
      refine sim_sI dX10_digest_45 (fun h11 => ?_)
      refine sim_iload_n dX10_digest_46 rfl ?_
      refine sim_iload dX10_digest_47 rfl ?_
      refine sim_static (d - 1) dX10_digest_49 (k_J6_bitCount_0f7a4 (d - 1) (by omega) _ _) q_J6_bitCount_0f7a4 wm_RX10_119 rfl rfl (by omega) (Nat.le_of_ble_eq_true rfl) am_nI (am_rI fun h12 v13 => ?_) am_eI
      refine sim_iadd dX10_digest_52 ?_
      refine sim_istore_n dX10_digest_53 (Nat.le_of_ble_eq_true rfl) ?_
      refine sim_iinc (1) dX10_digest_54 rfl (by decide +kernel) (Nat.le_of_ble_eq_true rfl) ?_
      refine sim_goto 16 dX10_digest_57 (by decide) ?_
      exact sim_lv (am_leS (am_leS (am_leS (am_leS (am_leS (am_leN am_leT)))))) (hrc16 _ _ _ _ _ _)
def f_X10_digest (a0 : Nat × Nat) (x1 : Int32) (h : am_H) : am_R := m_bV (f_X10_checkPerson x1 h) fun h1 => m_gR (some a0) 10 2 h1 fun o3 => m_aR o3 4 x1 h1 fun o4 => f_X10_digest_16 5000 a0 x1 o4 (0 : Int32) (0 : Int32) h1
theorem k_X10_digest (d : Nat) (hd : 7 ≤ d) (a0 : Nat × Nat) (x1 : Int32) (h : am_H) : am_Con m_X10_digest d [.inr (.inr (some a0)), .inl x1] h (f_X10_digest a0 x1 h) := am_con (by decide +kernel) (Nat.le_of_ble_eq_true rfl) (by
  unfold f_X10_digest
  refine sim_iload_n dX10_digest_0 rfl ?_
  refine sim_static (d - 1) dX10_digest_1 (k_X10_checkPerson (d - 1) (by omega) _ _) q_X10_checkPerson wm_RX10_82 rfl rfl (by omega) (Nat.le_of_ble_eq_true rfl) am_nV (am_rV fun h1 => ?_) am_eV
  refine sim_aload_n dX10_digest_4 rfl ?_
  refine sim_gR 10 2 dX10_digest_5 rfl wf_RX10_15 (Nat.le_of_ble_eq_true rfl) rfl (fun o3 => ?_)
  refine sim_iload_n dX10_digest_8 rfl ?_
  refine sim_aR 4 rfl dX10_digest_9 (fun o4 => ?_)
  refine sim_astore_n dX10_digest_10 (Nat.le_of_ble_eq_true rfl) ?_
  refine sim_iconst (0) dX10_digest_11 (by decide +kernel) ?_
  refine sim_istore_n dX10_digest_12 (Nat.le_of_ble_eq_true rfl) ?_
  refine sim_iconst (0) dX10_digest_13 (by decide +kernel) ?_
  refine sim_istore dX10_digest_14 (Nat.le_of_ble_eq_true rfl) ?_
  exact sim_lv (am_leS (am_leS (am_leS (am_leS (am_leS (am_leN am_leT)))))) (t_X10_digest_16 d (by omega) _ _ _ _ _ _ _))
theorem q_X10_digest : am_Cal m_X10_digest 1 2 := ⟨am_mem 1095 (w := Cond.code yX10_digest cX10_digest 6 (some .int)) (by decide +kernel) rfl, am_mem 56 (w := Cond.initialized RX10) (by decide +kernel) rfl, fun z => absurd z (by decide), fun _ => am_mem 1093 (w := Cond.instanceMethod yX10_digest) (by decide +kernel) rfl, fun z => absurd z (by decide), fun _ => am_mem 1094 (w := Cond.selects RX10 yX10_digest yX10_digest) (by decide +kernel) rfl, by decide +kernel, by decide +kernel, Nat.le_of_ble_eq_true rfl⟩
abbrev m_L_digest : am_M := (yL_digest, cL_digest, 4, some .int, [(0, 9, 12, 21)])
def f_L_digest (x0 : Option (Nat × Nat)) (x1 : Int32) (x2 : Option (Nat × Nat)) (h : am_H) : am_R := m_ao x0 10 fun a3 => m_bIx (f_X10_digest a3 x1 h) (fun h1 v2 => m_sL x2 (0 : Int32) (Int32.toInt64 v2) h1 fun h6 => m_ri h6 (0 : Int32)) (fun h4 e5 => if e5 = 0 then (m_ri h4 (1 : Int32)) else none)
theorem k_L_digest (d : Nat) (hd : 8 ≤ d) (x0 : Option (Nat × Nat)) (x1 : Int32) (x2 : Option (Nat × Nat)) (h : am_H) : am_Con m_L_digest d [.inr (.inr x0), .inl x1, .inr (.inr x2)] h (f_L_digest x0 x1 x2 h) := am_conX (by decide +kernel) (Nat.le_of_ble_eq_true rfl) (by
  unfold f_L_digest
  refine sim_aload_n dL_digest_0 rfl ?_
  refine sim_iconst (0) dL_digest_1 (by decide +kernel) ?_
  refine sim_aload_n dL_digest_2 rfl ?_
  refine sim_iload_n dL_digest_3 rfl ?_
  refine sim_ao1 (fun a3 e => ?_)
  refine sim_virt (d - 1) e dL_digest_4 (k_X10_digest (d - 1) (by omega) _ _ _) q_X10_digest rfl rfl wm_RL_129 rfl rfl (by omega) (Nat.le_of_ble_eq_true rfl) am_nIx (am_rIx fun h1 v2 => ?_) (am_eIx fun h9 k9 => ?_)
  · refine sim_i2l dL_digest_7 ?_
    refine sim_sL dL_digest_8 (fun h6 => ?_)
    refine sim_goto 15 dL_digest_9 (by decide) ?_
    refine sim_iconst (0) dL_digest_15 (by decide +kernel) ?_
    exact sim_iret dL_digest_16 rfl
  · refine simx_case (fun cx => ?_) (fun cx => ?_)
    · subst cx
      refine simx_catch [] (0, 9, 12, 21) [] rfl ⟨by decide, by decide⟩ (by decide) wx_RL_21 wca_0 (by decide) (fun z hz => by cases hz) ?_
      refine sim_astore_n dL_digest_12 (Nat.le_of_ble_eq_true rfl) ?_
      refine sim_iconst (1) dL_digest_13 (by decide +kernel) ?_
      exact sim_iret dL_digest_14 rfl
    exact simx_none)
theorem q_L_digest : am_Cal m_L_digest 3 0 := ⟨am_mem 1091 (w := Cond.codeWith yL_digest cL_digest 4 (some .int) [(0, 9, 12, 21)]) (by decide +kernel) rfl, am_mem 55 (w := Cond.initialized RL) (by decide +kernel) rfl, fun _ => am_mem 1090 (w := Cond.static yL_digest) (by decide +kernel) rfl, fun z => absurd rfl z, fun z => absurd z (by decide), fun z => absurd z (by decide), by decide +kernel, by decide +kernel, Nat.le_of_ble_eq_true rfl⟩
abbrev m_X10_join : am_M := (yX10_join, cX10_join, 5, some .int, [])
def f_X10_join_38   (h : am_H) : am_R := m_ex h 2
theorem t_X10_join_38 (d : Nat) (hd : 8 ≤ d)   (h : am_H) : Sim m_X10_join d 38 [none, none, none, none, none] [] h (f_X10_join_38   h) := by
  unfold f_X10_join_38
  exact sim_throw 2 (by decide) dX10_join_38 dX10_join_41 dX10_join_42 dX10_join_44 dX10_join_47 wx_RX10_77 wy_2 ws_RX10_129 at_RX10_81 gd_RX10_81 (by omega) (Nat.le_of_ble_eq_true rfl)
def f_X10_join (a0 : Nat × Nat) (x1 : Int32) (x2 : Int32) (h : am_H) : am_R := m_ao (some a0) 10 fun a3 => m_bR (f_X10_workAt a3 x1 h) fun h1 o2 => m_bV (f_X10_checkPerson x2 h1) fun h4 => m_gI o2 9 1 h4 fun v6 => m_bI (f_J6_bitCount_0f7a4 v6 h4) fun h7 v8 => m_ao o2 9 fun a11 => m_bI (f_X9_isOwnedBy a11 x2 h7) fun h9 v10 => if v10 = 0 then (if (3 : Int32) ≤ v8 then (f_X10_join_38 h9) else (if v8 = 0 then (f_X10_join_38 h9) else (m_gI o2 9 1 h9 fun v12 => m_bI (f_X10_with v12 x2 (1 : Int32) h9) fun h13 v14 => m_pI o2 9 1 v14 h13 fun h15 => m_ri h15 (v8 + (1 : Int32))))) else (f_X10_join_38 h9)
theorem k_X10_join (d : Nat) (hd : 8 ≤ d) (a0 : Nat × Nat) (x1 : Int32) (x2 : Int32) (h : am_H) : am_Con m_X10_join d [.inr (.inr (some a0)), .inl x1, .inl x2] h (f_X10_join a0 x1 x2 h) := am_con (by decide +kernel) (Nat.le_of_ble_eq_true rfl) (by
  unfold f_X10_join
  refine sim_aload_n dX10_join_0 rfl ?_
  refine sim_iload_n dX10_join_1 rfl ?_
  refine sim_ao1 (fun a3 e => ?_)
  refine sim_virt (d - 1) e dX10_join_2 (k_X10_workAt (d - 1) (by omega) _ _ _) q_X10_workAt rfl rfl wm_RX10_112 rfl rfl (by omega) (Nat.le_of_ble_eq_true rfl) am_nR (am_rR fun h1 o2 => ?_) am_eR
  refine sim_astore_n dX10_join_5 (Nat.le_of_ble_eq_true rfl) ?_
  refine sim_iload_n dX10_join_6 rfl ?_
  refine sim_static (d - 1) dX10_join_7 (k_X10_checkPerson (d - 1) (by omega) _ _) q_X10_checkPerson wm_RX10_82 rfl rfl (by omega) (Nat.le_of_ble_eq_true rfl) am_nV (am_rV fun h4 => ?_) am_eV
  refine sim_aload_n dX10_join_10 rfl ?_
  refine sim_gI 9 1 dX10_join_11 rfl wf_RX10_116 (Nat.le_of_ble_eq_true rfl) rfl (fun v6 => ?_)
  refine sim_static (d - 1) dX10_join_14 (k_J6_bitCount_0f7a4 (d - 1) (by omega) _ _) q_J6_bitCount_0f7a4 wm_RX10_119 rfl rfl (by omega) (Nat.le_of_ble_eq_true rfl) am_nI (am_rI fun h7 v8 => ?_) am_eI
  refine sim_istore dX10_join_17 (Nat.le_of_ble_eq_true rfl) ?_
  refine sim_aload_n dX10_join_19 rfl ?_
  refine sim_iload_n dX10_join_20 rfl ?_
  refine sim_ao1 (fun a11 e => ?_)
  refine sim_virt (d - 1) e dX10_join_21 (k_X9_isOwnedBy (d - 1) (by omega) _ _ _) q_X9_isOwnedBy rfl rfl wm_RX10_125 rfl rfl (by omega) (Nat.le_of_ble_eq_true rfl) am_nI (am_rI fun h9 v10 => ?_) am_eI
  refine sim_if_ne 38 dX10_join_24 (by decide) (fun c => ?_) (fun c => ?_)
  · exact sim_lv (am_leN (am_leN (am_leN (am_leN (am_leN am_leT))))) (t_X10_join_38 d (by omega) _)
  · refine sim_iload dX10_join_27 rfl ?_
    refine sim_iconst (3) dX10_join_29 (by decide +kernel) ?_
    refine sim_ic_ge 38 dX10_join_30 (by decide) (fun c => ?_) (fun c => ?_)
    · exact sim_lv (am_leN (am_leN (am_leN (am_leN (am_leN am_leT))))) (t_X10_join_38 d (by omega) _)
    · refine sim_iload dX10_join_33 rfl ?_
      refine sim_if_ne 48 dX10_join_35 (by decide) (fun c => ?_) (fun c => ?_)
      · refine sim_aload_n dX10_join_48 rfl ?_
        refine sim_aload_n dX10_join_49 rfl ?_
        refine sim_gI 9 1 dX10_join_50 rfl wf_RX10_116 (Nat.le_of_ble_eq_true rfl) rfl (fun v12 => ?_)
        refine sim_iload_n dX10_join_53 rfl ?_
        refine sim_iconst (1) dX10_join_54 (by decide +kernel) ?_
        refine sim_static (d - 1) dX10_join_55 (k_X10_with (d - 1) (by omega) _ _ _ _) q_X10_with wm_RX10_95 rfl rfl (by omega) (Nat.le_of_ble_eq_true rfl) am_nI (am_rI fun h13 v14 => ?_) am_eI
        refine sim_pI 9 1 dX10_join_58 rfl wf_RX10_116 (Nat.le_of_ble_eq_true rfl) rfl (Or.inl rfl) rfl (fun h15 => ?_)
        refine sim_iload dX10_join_61 rfl ?_
        refine sim_iconst (1) dX10_join_63 (by decide +kernel) ?_
        refine sim_iadd dX10_join_64 ?_
        exact sim_iret dX10_join_65 rfl
      · exact sim_lv (am_leN (am_leN (am_leN (am_leN (am_leN am_leT))))) (t_X10_join_38 d (by omega) _))
theorem q_X10_join : am_Cal m_X10_join 2 2 := ⟨am_mem 556 (w := Cond.code yX10_join cX10_join 5 (some .int)) (by decide +kernel) rfl, am_mem 56 (w := Cond.initialized RX10) (by decide +kernel) rfl, fun z => absurd z (by decide), fun _ => am_mem 554 (w := Cond.instanceMethod yX10_join) (by decide +kernel) rfl, fun z => absurd z (by decide), fun _ => am_mem 555 (w := Cond.selects RX10 yX10_join yX10_join) (by decide +kernel) rfl, by decide +kernel, by decide +kernel, Nat.le_of_ble_eq_true rfl⟩
abbrev m_L_join : am_M := (yL_join, cL_join, 5, some .int, [(0, 10, 13, 21), (0, 10, 17, 15)])
def f_L_join (x0 : Option (Nat × Nat)) (x1 : Int32) (x2 : Int32) (x3 : Option (Nat × Nat)) (h : am_H) : am_R := m_ao x0 10 fun a3 => m_bIx (f_X10_join a3 x1 x2 h) (fun h1 v2 => m_sL x3 (0 : Int32) (Int32.toInt64 v2) h1 fun h6 => m_ri h6 (0 : Int32)) (fun h4 e5 => if e5 = 0 then (m_ri h4 (1 : Int32)) else if e5 = 2 then (m_ri h4 (2 : Int32)) else none)
theorem k_L_join (d : Nat) (hd : 9 ≤ d) (x0 : Option (Nat × Nat)) (x1 : Int32) (x2 : Int32) (x3 : Option (Nat × Nat)) (h : am_H) : am_Con m_L_join d [.inr (.inr x0), .inl x1, .inl x2, .inr (.inr x3)] h (f_L_join x0 x1 x2 x3 h) := am_conX (by decide +kernel) (Nat.le_of_ble_eq_true rfl) (by
  unfold f_L_join
  refine sim_aload_n dL_join_0 rfl ?_
  refine sim_iconst (0) dL_join_1 (by decide +kernel) ?_
  refine sim_aload_n dL_join_2 rfl ?_
  refine sim_iload_n dL_join_3 rfl ?_
  refine sim_iload_n dL_join_4 rfl ?_
  refine sim_ao2 (fun a3 e => ?_)
  refine sim_virt (d - 1) e dL_join_5 (k_X10_join (d - 1) (by omega) _ _ _ _) q_X10_join rfl rfl wm_RL_31 rfl rfl (by omega) (Nat.le_of_ble_eq_true rfl) am_nIx (am_rIx fun h1 v2 => ?_) (am_eIx fun h9 k9 => ?_)
  · refine sim_i2l dL_join_8 ?_
    refine sim_sL dL_join_9 (fun h6 => ?_)
    refine sim_goto 21 dL_join_10 (by decide) ?_
    refine sim_iconst (0) dL_join_21 (by decide +kernel) ?_
    exact sim_iret dL_join_22 rfl
  · refine simx_case (fun cx => ?_) (fun cx => ?_)
    · subst cx
      refine simx_catch [] (0, 10, 13, 21) [(0, 10, 17, 15)] rfl ⟨by decide, by decide⟩ (by decide) wx_RL_21 wca_0 (by decide) (fun z hz => by cases hz) ?_
      refine sim_astore dL_join_13 (Nat.le_of_ble_eq_true rfl) ?_
      refine sim_iconst (1) dL_join_15 (by decide +kernel) ?_
      exact sim_iret dL_join_16 rfl
    refine simx_case (fun cx => ?_) (fun cx => ?_)
    · subst cx
      refine simx_catch [(0, 10, 13, 21)] (0, 10, 17, 15) [] rfl ⟨by decide, by decide⟩ (by decide) wx_RL_15 wca_2 (by decide) (fun z hz => by simp only [List.mem_cons, List.not_mem_nil, or_false] at hz; subst hz; exact ⟨by decide, 0, _, by decide, by decide, wx_RL_21⟩) ?_
      refine sim_astore dL_join_17 (Nat.le_of_ble_eq_true rfl) ?_
      refine sim_iconst (2) dL_join_19 (by decide +kernel) ?_
      exact sim_iret dL_join_20 rfl
    exact simx_none)
theorem q_L_join : am_Cal m_L_join 4 0 := ⟨am_mem 552 (w := Cond.codeWith yL_join cL_join 5 (some .int) [(0, 10, 13, 21), (0, 10, 17, 15)]) (by decide +kernel) rfl, am_mem 55 (w := Cond.initialized RL) (by decide +kernel) rfl, fun _ => am_mem 551 (w := Cond.static yL_join) (by decide +kernel) rfl, fun z => absurd rfl z, fun z => absurd z (by decide), fun z => absurd z (by decide), by decide +kernel, by decide +kernel, Nat.le_of_ble_eq_true rfl⟩
abbrev m_X10_countKudos : am_M := (yX10_countKudos, cX10_countKudos, 5, some .int, [])
def f_X10_countKudos_48 (rc4 : Nat × Nat → Option (Nat × Nat) → Int32 → Int32 → am_H → am_R) (a0 : Nat × Nat) (x1 : Option (Nat × Nat)) (x2 : Int32) (x3 : Int32) (h : am_H) : am_R := rc4 a0 x1 x2 (x3 + 1) h
theorem t_X10_countKudos_48 (d : Nat) (hd : 1 ≤ d) (rc4 : Nat × Nat → Option (Nat × Nat) → Int32 → Int32 → am_H → am_R) (hrc4 : ∀ a0 x1 x2 x3 h, Sim m_X10_countKudos d 4 [some (.inr (.inr (some a0))), some (.inr (.inr x1)), some (.inl x2), some (.inl x3), none] [] h (rc4 a0 x1 x2 x3 h)) (a0 : Nat × Nat) (x1 : Option (Nat × Nat)) (x2 : Int32) (x3 : Int32) (h : am_H) : Sim m_X10_countKudos d 48 [some (.inr (.inr (some a0))), some (.inr (.inr x1)), some (.inl x2), some (.inl x3), none] [] h (f_X10_countKudos_48 rc4 a0 x1 x2 x3 h) := by
  unfold f_X10_countKudos_48
  refine sim_iinc (1) dX10_countKudos_48 rfl (by decide +kernel) (Nat.le_of_ble_eq_true rfl) ?_
  refine sim_goto 4 dX10_countKudos_51 (by decide) ?_
  exact sim_lv (am_leS (am_leS (am_leS (am_leS (am_leN am_leT))))) (hrc4 _ _ _ _ _)
def f_X10_countKudos_4  : Nat → Nat × Nat → Option (Nat × Nat) → Int32 → Int32 → am_H → am_R
  | 0, _, _, _, _, _ => none
  | n + 1, a0, x1, x2, x3, h => if (32 : Int32) ≤ x3 then (m_ri h x2) else (m_gI x1 9 11 h fun v1 => m_bI (f_X10_has v1 x3 h) fun h2 v3 => if v3 = 0 then (f_X10_countKudos_48 (f_X10_countKudos_4  n) a0 x1 x2 x3 h2) else (m_gI x1 9 11 h2 fun v4 => m_gR (some a0) 10 1 h2 fun o5 => m_aI o5 0 x3 h2 fun v6 => if ((v4 &&& v6) &&& (((1 : Int32) <<< (x3 &&& 31)) - (1 : Int32))) = 0 then (f_X10_countKudos_48 (f_X10_countKudos_4  n) a0 x1 (x2 + 1) x3 h2) else (f_X10_countKudos_48 (f_X10_countKudos_4  n) a0 x1 x2 x3 h2)))
theorem t_X10_countKudos_4 (d : Nat) (hd : 1 ≤ d)  : ∀ (n : Nat) (a0 : Nat × Nat) (x1 : Option (Nat × Nat)) (x2 : Int32) (x3 : Int32) (h : am_H), Sim m_X10_countKudos d 4 [some (.inr (.inr (some a0))), some (.inr (.inr x1)), some (.inl x2), some (.inl x3), none] [] h (f_X10_countKudos_4  n a0 x1 x2 x3 h) := by
  intro n
  induction n with
  | zero => intros; exact sim_none
  | succ n hrc4 =>
    intro a0 x1 x2 x3 h
    rw [f_X10_countKudos_4]
    refine sim_iload_n dX10_countKudos_4 rfl ?_
    refine sim_bipush (32) dX10_countKudos_5 (by decide +kernel) ?_
    refine sim_ic_ge 54 dX10_countKudos_7 (by decide) (fun c => ?_) (fun c => ?_)
    · refine sim_iload_n dX10_countKudos_54 rfl ?_
      exact sim_iret dX10_countKudos_55 rfl
    · refine sim_iconst (1) dX10_countKudos_10 (by decide +kernel) ?_
      refine sim_iload_n dX10_countKudos_11 rfl ?_
      refine sim_ishl dX10_countKudos_12 ?_
      refine sim_iconst (1) dX10_countKudos_13 (by decide +kernel) ?_
      refine sim_isub dX10_countKudos_14 ?_
      refine sim_istore dX10_countKudos_15 (Nat.le_of_ble_eq_true rfl) ?_
      refine sim_aload_n dX10_countKudos_17 rfl ?_
      refine sim_gI 9 11 dX10_countKudos_18 rfl wf_RX10_352 (Nat.le_of_ble_eq_true rfl) rfl (fun v1 => ?_)
      refine sim_iload_n dX10_countKudos_21 rfl ?_
      refine sim_static (d - 1) dX10_countKudos_22 (k_X10_has (d - 1) (by omega) _ _ _) q_X10_has wm_RX10_91 rfl rfl (by omega) (Nat.le_of_ble_eq_true rfl) am_nI (am_rI fun h2 v3 => ?_) am_eI
      refine sim_if_eq 48 dX10_countKudos_25 (by decide) (fun c => ?_) (fun c => ?_)
      · exact sim_lv (am_leS (am_leS (am_leS (am_leS (am_leN am_leT))))) (t_X10_countKudos_48 d (by omega) _ hrc4 _ _ _ _ _)
      · refine sim_aload_n dX10_countKudos_28 rfl ?_
        refine sim_gI 9 11 dX10_countKudos_29 rfl wf_RX10_352 (Nat.le_of_ble_eq_true rfl) rfl (fun v4 => ?_)
        refine sim_aload_n dX10_countKudos_32 rfl ?_
        refine sim_gR 10 1 dX10_countKudos_33 rfl wf_RX10_9 (Nat.le_of_ble_eq_true rfl) rfl (fun o5 => ?_)
        refine sim_iload_n dX10_countKudos_36 rfl ?_
        refine sim_aI dX10_countKudos_37 (fun v6 => ?_)
        refine sim_iand dX10_countKudos_38 ?_
        refine sim_iload dX10_countKudos_39 rfl ?_
        refine sim_iand dX10_countKudos_41 ?_
        refine sim_if_ne 48 dX10_countKudos_42 (by decide) (fun c => ?_) (fun c => ?_)
        · exact sim_lv (am_leS (am_leS (am_leS (am_leS (am_leN am_leT))))) (t_X10_countKudos_48 d (by omega) _ hrc4 _ _ _ _ _)
        · refine sim_iinc (1) dX10_countKudos_45 rfl (by decide +kernel) (Nat.le_of_ble_eq_true rfl) ?_
          exact sim_lv (am_leS (am_leS (am_leS (am_leS (am_leN am_leT))))) (t_X10_countKudos_48 d (by omega) _ hrc4 _ _ _ _ _)
def f_X10_countKudos (a0 : Nat × Nat) (x1 : Option (Nat × Nat)) (h : am_H) : am_R := f_X10_countKudos_4 5000 a0 x1 (0 : Int32) (0 : Int32) h
theorem k_X10_countKudos (d : Nat) (hd : 1 ≤ d) (a0 : Nat × Nat) (x1 : Option (Nat × Nat)) (h : am_H) : am_Con m_X10_countKudos d [.inr (.inr (some a0)), .inr (.inr x1)] h (f_X10_countKudos a0 x1 h) := am_con (by decide +kernel) (Nat.le_of_ble_eq_true rfl) (by
  unfold f_X10_countKudos
  refine sim_iconst (0) dX10_countKudos_0 (by decide +kernel) ?_
  refine sim_istore_n dX10_countKudos_1 (Nat.le_of_ble_eq_true rfl) ?_
  refine sim_iconst (0) dX10_countKudos_2 (by decide +kernel) ?_
  refine sim_istore_n dX10_countKudos_3 (Nat.le_of_ble_eq_true rfl) ?_
  exact sim_lv (am_leS (am_leS (am_leS (am_leS (am_leN am_leT))))) (t_X10_countKudos_4 d (by omega) _ _ _ _ _ _))
theorem q_X10_countKudos : am_Cal m_X10_countKudos 1 2 := ⟨am_mem 1049 (w := Cond.code yX10_countKudos cX10_countKudos 5 (some .int)) (by decide +kernel) rfl, am_mem 56 (w := Cond.initialized RX10) (by decide +kernel) rfl, fun z => absurd z (by decide), fun _ => am_mem 1048 (w := Cond.instanceMethod yX10_countKudos) (by decide +kernel) rfl, fun z => absurd z (by decide), fun _ => am_mem 27 (w := Cond.selects RX10 yX10_countKudos yX10_countKudos) (by decide +kernel) rfl, by decide +kernel, by decide +kernel, Nat.le_of_ble_eq_true rfl⟩
abbrev m_X10_kudos : am_M := (yX10_kudos, cX10_kudos, 4, some .int, [])
def f_X10_kudos_44   (h : am_H) : am_R := m_ex h 2
theorem t_X10_kudos_44 (d : Nat) (hd : 8 ≤ d)   (h : am_H) : Sim m_X10_kudos d 44 [none, none, none, none] [] h (f_X10_kudos_44   h) := by
  unfold f_X10_kudos_44
  exact sim_throwW 2 (by decide) dX10_kudos_44 dX10_kudos_47 dX10_kudos_48 dX10_kudos_51 dX10_kudos_54 wx_RX10_77 wy_2 ws_RX10_355 at_RX10_81 gd_RX10_81 (by omega) (Nat.le_of_ble_eq_true rfl)
def f_X10_kudos (a0 : Nat × Nat) (x1 : Int32) (x2 : Int32) (h : am_H) : am_R := m_ao (some a0) 10 fun a3 => m_bR (f_X10_workAt a3 x1 h) fun h1 o2 => m_bV (f_X10_checkFace x2 h1) fun h4 => m_gI (some a0) 10 0 h4 fun v6 => m_ao o2 9 fun a9 => m_bI (f_X9_isSeenBy a9 x2 v6 h4) fun h7 v8 => if v8 = 0 then (f_X10_kudos_44 h7) else (m_ao o2 9 fun a12 => m_bI (f_X9_isOwnedBy a12 x2 h7) fun h10 v11 => if v11 = 0 then (m_gI o2 9 11 h10 fun v13 => m_gR (some a0) 10 1 h10 fun o14 => m_aI o14 0 x2 h10 fun v15 => if (v13 &&& v15) = 0 then (m_gI o2 9 11 h10 fun v16 => m_bI (f_X10_with v16 x2 (1 : Int32) h10) fun h17 v18 => m_pI o2 9 11 v18 h17 fun h19 => m_ao (some a0) 10 fun a22 => m_bI (f_X10_countKudos a22 o2 h19) fun h20 v21 => m_ri h20 v21) else (f_X10_kudos_44 h10)) else (f_X10_kudos_44 h10))
theorem k_X10_kudos (d : Nat) (hd : 8 ≤ d) (a0 : Nat × Nat) (x1 : Int32) (x2 : Int32) (h : am_H) : am_Con m_X10_kudos d [.inr (.inr (some a0)), .inl x1, .inl x2] h (f_X10_kudos a0 x1 x2 h) := am_con (by decide +kernel) (Nat.le_of_ble_eq_true rfl) (by
  unfold f_X10_kudos
  refine sim_aload_n dX10_kudos_0 rfl ?_
  refine sim_iload_n dX10_kudos_1 rfl ?_
  refine sim_ao1 (fun a3 e => ?_)
  refine sim_virt (d - 1) e dX10_kudos_2 (k_X10_workAt (d - 1) (by omega) _ _ _) q_X10_workAt rfl rfl wm_RX10_112 rfl rfl (by omega) (Nat.le_of_ble_eq_true rfl) am_nR (am_rR fun h1 o2 => ?_) am_eR
  refine sim_astore_n dX10_kudos_5 (Nat.le_of_ble_eq_true rfl) ?_
  refine sim_iload_n dX10_kudos_6 rfl ?_
  refine sim_static (d - 1) dX10_kudos_7 (k_X10_checkFace (d - 1) (by omega) _ _) q_X10_checkFace wm_RX10_99 rfl rfl (by omega) (Nat.le_of_ble_eq_true rfl) am_nV (am_rV fun h4 => ?_) am_eV
  refine sim_aload_n dX10_kudos_10 rfl ?_
  refine sim_iload_n dX10_kudos_11 rfl ?_
  refine sim_aload_n dX10_kudos_12 rfl ?_
  refine sim_gI 10 0 dX10_kudos_13 rfl wf_RX10_73 (Nat.le_of_ble_eq_true rfl) rfl (fun v6 => ?_)
  refine sim_ao2 (fun a9 e => ?_)
  refine sim_virt (d - 1) e dX10_kudos_16 (k_X9_isSeenBy (d - 1) (by omega) _ _ _ _) q_X9_isSeenBy rfl rfl wm_RX10_173 rfl rfl (by omega) (Nat.le_of_ble_eq_true rfl) am_nI (am_rI fun h7 v8 => ?_) am_eI
  refine sim_if_eq 44 dX10_kudos_19 (by decide) (fun c => ?_) (fun c => ?_)
  · exact sim_lv (am_leN (am_leN (am_leN (am_leN am_leT)))) (t_X10_kudos_44 d (by omega) _)
  · refine sim_aload_n dX10_kudos_22 rfl ?_
    refine sim_iload_n dX10_kudos_23 rfl ?_
    refine sim_ao1 (fun a12 e => ?_)
    refine sim_virt (d - 1) e dX10_kudos_24 (k_X9_isOwnedBy (d - 1) (by omega) _ _ _) q_X9_isOwnedBy rfl rfl wm_RX10_125 rfl rfl (by omega) (Nat.le_of_ble_eq_true rfl) am_nI (am_rI fun h10 v11 => ?_) am_eI
    refine sim_if_ne 44 dX10_kudos_27 (by decide) (fun c => ?_) (fun c => ?_)
    · exact sim_lv (am_leN (am_leN (am_leN (am_leN am_leT)))) (t_X10_kudos_44 d (by omega) _)
    · refine sim_aload_n dX10_kudos_30 rfl ?_
      refine sim_gI 9 11 dX10_kudos_31 rfl wf_RX10_352 (Nat.le_of_ble_eq_true rfl) rfl (fun v13 => ?_)
      refine sim_aload_n dX10_kudos_34 rfl ?_
      refine sim_gR 10 1 dX10_kudos_35 rfl wf_RX10_9 (Nat.le_of_ble_eq_true rfl) rfl (fun o14 => ?_)
      refine sim_iload_n dX10_kudos_38 rfl ?_
      refine sim_aI dX10_kudos_39 (fun v15 => ?_)
      refine sim_iand dX10_kudos_40 ?_
      refine sim_if_eq 55 dX10_kudos_41 (by decide) (fun c => ?_) (fun c => ?_)
      · refine sim_aload_n dX10_kudos_55 rfl ?_
        refine sim_aload_n dX10_kudos_56 rfl ?_
        refine sim_gI 9 11 dX10_kudos_57 rfl wf_RX10_352 (Nat.le_of_ble_eq_true rfl) rfl (fun v16 => ?_)
        refine sim_iload_n dX10_kudos_60 rfl ?_
        refine sim_iconst (1) dX10_kudos_61 (by decide +kernel) ?_
        refine sim_static (d - 1) dX10_kudos_62 (k_X10_with (d - 1) (by omega) _ _ _ _) q_X10_with wm_RX10_95 rfl rfl (by omega) (Nat.le_of_ble_eq_true rfl) am_nI (am_rI fun h17 v18 => ?_) am_eI
        refine sim_pI 9 11 dX10_kudos_65 rfl wf_RX10_352 (Nat.le_of_ble_eq_true rfl) rfl (Or.inl rfl) rfl (fun h19 => ?_)
        refine sim_aload_n dX10_kudos_68 rfl ?_
        refine sim_aload_n dX10_kudos_69 rfl ?_
        refine sim_ao1 (fun a22 e => ?_)
        refine sim_virt (d - 1) e dX10_kudos_70 (k_X10_countKudos (d - 1) (by omega) _ _ _) q_X10_countKudos rfl rfl wm_RX10_357 rfl rfl (by omega) (Nat.le_of_ble_eq_true rfl) am_nI (am_rI fun h20 v21 => ?_) am_eI
        exact sim_iret dX10_kudos_73 rfl
      · exact sim_lv (am_leN (am_leN (am_leN (am_leN am_leT)))) (t_X10_kudos_44 d (by omega) _))
theorem q_X10_kudos : am_Cal m_X10_kudos 2 2 := ⟨am_mem 1044 (w := Cond.code yX10_kudos cX10_kudos 4 (some .int)) (by decide +kernel) rfl, am_mem 56 (w := Cond.initialized RX10) (by decide +kernel) rfl, fun z => absurd z (by decide), fun _ => am_mem 1042 (w := Cond.instanceMethod yX10_kudos) (by decide +kernel) rfl, fun z => absurd z (by decide), fun _ => am_mem 1043 (w := Cond.selects RX10 yX10_kudos yX10_kudos) (by decide +kernel) rfl, by decide +kernel, by decide +kernel, Nat.le_of_ble_eq_true rfl⟩
abbrev m_L_kudos : am_M := (yL_kudos, cL_kudos, 5, some .int, [(0, 10, 13, 21), (0, 10, 17, 15)])
def f_L_kudos (x0 : Option (Nat × Nat)) (x1 : Int32) (x2 : Int32) (x3 : Option (Nat × Nat)) (h : am_H) : am_R := m_ao x0 10 fun a3 => m_bIx (f_X10_kudos a3 x1 x2 h) (fun h1 v2 => m_sL x3 (0 : Int32) (Int32.toInt64 v2) h1 fun h6 => m_ri h6 (0 : Int32)) (fun h4 e5 => if e5 = 0 then (m_ri h4 (1 : Int32)) else if e5 = 2 then (m_ri h4 (2 : Int32)) else none)
theorem k_L_kudos (d : Nat) (hd : 9 ≤ d) (x0 : Option (Nat × Nat)) (x1 : Int32) (x2 : Int32) (x3 : Option (Nat × Nat)) (h : am_H) : am_Con m_L_kudos d [.inr (.inr x0), .inl x1, .inl x2, .inr (.inr x3)] h (f_L_kudos x0 x1 x2 x3 h) := am_conX (by decide +kernel) (Nat.le_of_ble_eq_true rfl) (by
  unfold f_L_kudos
  refine sim_aload_n dL_kudos_0 rfl ?_
  refine sim_iconst (0) dL_kudos_1 (by decide +kernel) ?_
  refine sim_aload_n dL_kudos_2 rfl ?_
  refine sim_iload_n dL_kudos_3 rfl ?_
  refine sim_iload_n dL_kudos_4 rfl ?_
  refine sim_ao2 (fun a3 e => ?_)
  refine sim_virt (d - 1) e dL_kudos_5 (k_X10_kudos (d - 1) (by omega) _ _ _ _) q_X10_kudos rfl rfl wm_RL_116 rfl rfl (by omega) (Nat.le_of_ble_eq_true rfl) am_nIx (am_rIx fun h1 v2 => ?_) (am_eIx fun h9 k9 => ?_)
  · refine sim_i2l dL_kudos_8 ?_
    refine sim_sL dL_kudos_9 (fun h6 => ?_)
    refine sim_goto 21 dL_kudos_10 (by decide) ?_
    refine sim_iconst (0) dL_kudos_21 (by decide +kernel) ?_
    exact sim_iret dL_kudos_22 rfl
  · refine simx_case (fun cx => ?_) (fun cx => ?_)
    · subst cx
      refine simx_catch [] (0, 10, 13, 21) [(0, 10, 17, 15)] rfl ⟨by decide, by decide⟩ (by decide) wx_RL_21 wca_0 (by decide) (fun z hz => by cases hz) ?_
      refine sim_astore dL_kudos_13 (Nat.le_of_ble_eq_true rfl) ?_
      refine sim_iconst (1) dL_kudos_15 (by decide +kernel) ?_
      exact sim_iret dL_kudos_16 rfl
    refine simx_case (fun cx => ?_) (fun cx => ?_)
    · subst cx
      refine simx_catch [(0, 10, 13, 21)] (0, 10, 17, 15) [] rfl ⟨by decide, by decide⟩ (by decide) wx_RL_15 wca_2 (by decide) (fun z hz => by simp only [List.mem_cons, List.not_mem_nil, or_false] at hz; subst hz; exact ⟨by decide, 0, _, by decide, by decide, wx_RL_21⟩) ?_
      refine sim_astore dL_kudos_17 (Nat.le_of_ble_eq_true rfl) ?_
      refine sim_iconst (2) dL_kudos_19 (by decide +kernel) ?_
      exact sim_iret dL_kudos_20 rfl
    exact simx_none)
theorem q_L_kudos : am_Cal m_L_kudos 4 0 := ⟨am_mem 1040 (w := Cond.codeWith yL_kudos cL_kudos 5 (some .int) [(0, 10, 13, 21), (0, 10, 17, 15)]) (by decide +kernel) rfl, am_mem 55 (w := Cond.initialized RL) (by decide +kernel) rfl, fun _ => am_mem 1039 (w := Cond.static yL_kudos) (by decide +kernel) rfl, fun z => absurd rfl z, fun z => absurd z (by decide), fun z => absurd z (by decide), by decide +kernel, by decide +kernel, Nat.le_of_ble_eq_true rfl⟩
abbrev m_X10_leave : am_M := (yX10_leave, cX10_leave, 4, some .int, [])
def f_X10_leave (a0 : Nat × Nat) (x1 : Int32) (x2 : Int32) (h : am_H) : am_R := m_ao (some a0) 10 fun a3 => m_bR (f_X10_workAt a3 x1 h) fun h1 o2 => m_bV (f_X10_checkPerson x2 h1) fun h4 => m_ao o2 9 fun a8 => m_bI (f_X9_isOwnedBy a8 x2 h4) fun h6 v7 => if v7 = 0 then (m_ex h6 2) else (m_gI o2 9 1 h6 fun v9 => m_bI (f_X10_with v9 x2 (0 : Int32) h6) fun h10 v11 => m_pI o2 9 1 v11 h10 fun h12 => m_gI o2 9 1 h12 fun v13 => m_bI (f_J6_bitCount_0f7a4 v13 h12) fun h14 v15 => m_ri h14 v15)
theorem k_X10_leave (d : Nat) (hd : 8 ≤ d) (a0 : Nat × Nat) (x1 : Int32) (x2 : Int32) (h : am_H) : am_Con m_X10_leave d [.inr (.inr (some a0)), .inl x1, .inl x2] h (f_X10_leave a0 x1 x2 h) := am_con (by decide +kernel) (Nat.le_of_ble_eq_true rfl) (by
  unfold f_X10_leave
  refine sim_aload_n dX10_leave_0 rfl ?_
  refine sim_iload_n dX10_leave_1 rfl ?_
  refine sim_ao1 (fun a3 e => ?_)
  refine sim_virt (d - 1) e dX10_leave_2 (k_X10_workAt (d - 1) (by omega) _ _ _) q_X10_workAt rfl rfl wm_RX10_112 rfl rfl (by omega) (Nat.le_of_ble_eq_true rfl) am_nR (am_rR fun h1 o2 => ?_) am_eR
  refine sim_astore_n dX10_leave_5 (Nat.le_of_ble_eq_true rfl) ?_
  refine sim_iload_n dX10_leave_6 rfl ?_
  refine sim_static (d - 1) dX10_leave_7 (k_X10_checkPerson (d - 1) (by omega) _ _) q_X10_checkPerson wm_RX10_82 rfl rfl (by omega) (Nat.le_of_ble_eq_true rfl) am_nV (am_rV fun h4 => ?_) am_eV
  refine sim_aload_n dX10_leave_10 rfl ?_
  refine sim_iload_n dX10_leave_11 rfl ?_
  refine sim_ao1 (fun a8 e => ?_)
  refine sim_virt (d - 1) e dX10_leave_12 (k_X9_isOwnedBy (d - 1) (by omega) _ _ _) q_X9_isOwnedBy rfl rfl wm_RX10_125 rfl rfl (by omega) (Nat.le_of_ble_eq_true rfl) am_nI (am_rI fun h6 v7 => ?_) am_eI
  refine sim_if_ne 28 dX10_leave_15 (by decide) (fun c => ?_) (fun c => ?_)
  · refine sim_aload_n dX10_leave_28 rfl ?_
    refine sim_aload_n dX10_leave_29 rfl ?_
    refine sim_gI 9 1 dX10_leave_30 rfl wf_RX10_116 (Nat.le_of_ble_eq_true rfl) rfl (fun v9 => ?_)
    refine sim_iload_n dX10_leave_33 rfl ?_
    refine sim_iconst (0) dX10_leave_34 (by decide +kernel) ?_
    refine sim_static (d - 1) dX10_leave_35 (k_X10_with (d - 1) (by omega) _ _ _ _) q_X10_with wm_RX10_95 rfl rfl (by omega) (Nat.le_of_ble_eq_true rfl) am_nI (am_rI fun h10 v11 => ?_) am_eI
    refine sim_pI 9 1 dX10_leave_38 rfl wf_RX10_116 (Nat.le_of_ble_eq_true rfl) rfl (Or.inl rfl) rfl (fun h12 => ?_)
    refine sim_aload_n dX10_leave_41 rfl ?_
    refine sim_gI 9 1 dX10_leave_42 rfl wf_RX10_116 (Nat.le_of_ble_eq_true rfl) rfl (fun v13 => ?_)
    refine sim_static (d - 1) dX10_leave_45 (k_J6_bitCount_0f7a4 (d - 1) (by omega) _ _) q_J6_bitCount_0f7a4 wm_RX10_119 rfl rfl (by omega) (Nat.le_of_ble_eq_true rfl) am_nI (am_rI fun h14 v15 => ?_) am_eI
    exact sim_iret dX10_leave_48 rfl
  · exact sim_throw 2 (by decide) dX10_leave_18 dX10_leave_21 dX10_leave_22 dX10_leave_24 dX10_leave_27 wx_RX10_77 wy_2 ws_RX10_131 at_RX10_81 gd_RX10_81 (by omega) (Nat.le_of_ble_eq_true rfl))
theorem q_X10_leave : am_Cal m_X10_leave 2 2 := ⟨am_mem 579 (w := Cond.code yX10_leave cX10_leave 4 (some .int)) (by decide +kernel) rfl, am_mem 56 (w := Cond.initialized RX10) (by decide +kernel) rfl, fun z => absurd z (by decide), fun _ => am_mem 577 (w := Cond.instanceMethod yX10_leave) (by decide +kernel) rfl, fun z => absurd z (by decide), fun _ => am_mem 578 (w := Cond.selects RX10 yX10_leave yX10_leave) (by decide +kernel) rfl, by decide +kernel, by decide +kernel, Nat.le_of_ble_eq_true rfl⟩
abbrev m_L_leave : am_M := (yL_leave, cL_leave, 5, some .int, [(0, 10, 13, 21), (0, 10, 17, 15)])
def f_L_leave (x0 : Option (Nat × Nat)) (x1 : Int32) (x2 : Int32) (x3 : Option (Nat × Nat)) (h : am_H) : am_R := m_ao x0 10 fun a3 => m_bIx (f_X10_leave a3 x1 x2 h) (fun h1 v2 => m_sL x3 (0 : Int32) (Int32.toInt64 v2) h1 fun h6 => m_ri h6 (0 : Int32)) (fun h4 e5 => if e5 = 0 then (m_ri h4 (1 : Int32)) else if e5 = 2 then (m_ri h4 (2 : Int32)) else none)
theorem k_L_leave (d : Nat) (hd : 9 ≤ d) (x0 : Option (Nat × Nat)) (x1 : Int32) (x2 : Int32) (x3 : Option (Nat × Nat)) (h : am_H) : am_Con m_L_leave d [.inr (.inr x0), .inl x1, .inl x2, .inr (.inr x3)] h (f_L_leave x0 x1 x2 x3 h) := am_conX (by decide +kernel) (Nat.le_of_ble_eq_true rfl) (by
  unfold f_L_leave
  refine sim_aload_n dL_leave_0 rfl ?_
  refine sim_iconst (0) dL_leave_1 (by decide +kernel) ?_
  refine sim_aload_n dL_leave_2 rfl ?_
  refine sim_iload_n dL_leave_3 rfl ?_
  refine sim_iload_n dL_leave_4 rfl ?_
  refine sim_ao2 (fun a3 e => ?_)
  refine sim_virt (d - 1) e dL_leave_5 (k_X10_leave (d - 1) (by omega) _ _ _ _) q_X10_leave rfl rfl wm_RL_34 rfl rfl (by omega) (Nat.le_of_ble_eq_true rfl) am_nIx (am_rIx fun h1 v2 => ?_) (am_eIx fun h9 k9 => ?_)
  · refine sim_i2l dL_leave_8 ?_
    refine sim_sL dL_leave_9 (fun h6 => ?_)
    refine sim_goto 21 dL_leave_10 (by decide) ?_
    refine sim_iconst (0) dL_leave_21 (by decide +kernel) ?_
    exact sim_iret dL_leave_22 rfl
  · refine simx_case (fun cx => ?_) (fun cx => ?_)
    · subst cx
      refine simx_catch [] (0, 10, 13, 21) [(0, 10, 17, 15)] rfl ⟨by decide, by decide⟩ (by decide) wx_RL_21 wca_0 (by decide) (fun z hz => by cases hz) ?_
      refine sim_astore dL_leave_13 (Nat.le_of_ble_eq_true rfl) ?_
      refine sim_iconst (1) dL_leave_15 (by decide +kernel) ?_
      exact sim_iret dL_leave_16 rfl
    refine simx_case (fun cx => ?_) (fun cx => ?_)
    · subst cx
      refine simx_catch [(0, 10, 13, 21)] (0, 10, 17, 15) [] rfl ⟨by decide, by decide⟩ (by decide) wx_RL_15 wca_2 (by decide) (fun z hz => by simp only [List.mem_cons, List.not_mem_nil, or_false] at hz; subst hz; exact ⟨by decide, 0, _, by decide, by decide, wx_RL_21⟩) ?_
      refine sim_astore dL_leave_17 (Nat.le_of_ble_eq_true rfl) ?_
      refine sim_iconst (2) dL_leave_19 (by decide +kernel) ?_
      exact sim_iret dL_leave_20 rfl
    exact simx_none)
theorem q_L_leave : am_Cal m_L_leave 4 0 := ⟨am_mem 575 (w := Cond.codeWith yL_leave cL_leave 5 (some .int) [(0, 10, 13, 21), (0, 10, 17, 15)]) (by decide +kernel) rfl, am_mem 55 (w := Cond.initialized RL) (by decide +kernel) rfl, fun _ => am_mem 574 (w := Cond.static yL_leave) (by decide +kernel) rfl, fun z => absurd rfl z, fun z => absurd z (by decide), fun z => absurd z (by decide), by decide +kernel, by decide +kernel, Nat.le_of_ble_eq_true rfl⟩
abbrev m_X10_liked : am_M := (yX10_liked, cX10_liked, 2, some .int, [])
def f_X10_liked (a0 : Nat × Nat) (x1 : Int32) (h : am_H) : am_R := m_ao (some a0) 10 fun a3 => m_bR (f_X10_workAt a3 x1 h) fun h1 o2 => m_ao (some a0) 10 fun a6 => m_bI (f_X10_countKudos a6 o2 h1) fun h4 v5 => m_ri h4 v5
theorem k_X10_liked (d : Nat) (hd : 8 ≤ d) (a0 : Nat × Nat) (x1 : Int32) (h : am_H) : am_Con m_X10_liked d [.inr (.inr (some a0)), .inl x1] h (f_X10_liked a0 x1 h) := am_con (by decide +kernel) (Nat.le_of_ble_eq_true rfl) (by
  unfold f_X10_liked
  refine sim_aload_n dX10_liked_0 rfl ?_
  refine sim_aload_n dX10_liked_1 rfl ?_
  refine sim_iload_n dX10_liked_2 rfl ?_
  refine sim_ao1 (fun a3 e => ?_)
  refine sim_virt (d - 1) e dX10_liked_3 (k_X10_workAt (d - 1) (by omega) _ _ _) q_X10_workAt rfl rfl wm_RX10_112 rfl rfl (by omega) (Nat.le_of_ble_eq_true rfl) am_nR (am_rR fun h1 o2 => ?_) am_eR
  refine sim_ao1 (fun a6 e => ?_)
  refine sim_virt (d - 1) e dX10_liked_6 (k_X10_countKudos (d - 1) (by omega) _ _ _) q_X10_countKudos rfl rfl wm_RX10_357 rfl rfl (by omega) (Nat.le_of_ble_eq_true rfl) am_nI (am_rI fun h4 v5 => ?_) am_eI
  exact sim_iret dX10_liked_9 rfl)
theorem q_X10_liked : am_Cal m_X10_liked 1 2 := ⟨am_mem 1056 (w := Cond.code yX10_liked cX10_liked 2 (some .int)) (by decide +kernel) rfl, am_mem 56 (w := Cond.initialized RX10) (by decide +kernel) rfl, fun z => absurd z (by decide), fun _ => am_mem 1054 (w := Cond.instanceMethod yX10_liked) (by decide +kernel) rfl, fun z => absurd z (by decide), fun _ => am_mem 1055 (w := Cond.selects RX10 yX10_liked yX10_liked) (by decide +kernel) rfl, by decide +kernel, by decide +kernel, Nat.le_of_ble_eq_true rfl⟩
abbrev m_L_liked : am_M := (yL_liked, cL_liked, 4, some .int, [(0, 9, 12, 21)])
def f_L_liked (x0 : Option (Nat × Nat)) (x1 : Int32) (x2 : Option (Nat × Nat)) (h : am_H) : am_R := m_ao x0 10 fun a3 => m_bIx (f_X10_liked a3 x1 h) (fun h1 v2 => m_sL x2 (0 : Int32) (Int32.toInt64 v2) h1 fun h6 => m_ri h6 (0 : Int32)) (fun h4 e5 => if e5 = 0 then (m_ri h4 (1 : Int32)) else none)
theorem k_L_liked (d : Nat) (hd : 9 ≤ d) (x0 : Option (Nat × Nat)) (x1 : Int32) (x2 : Option (Nat × Nat)) (h : am_H) : am_Con m_L_liked d [.inr (.inr x0), .inl x1, .inr (.inr x2)] h (f_L_liked x0 x1 x2 h) := am_conX (by decide +kernel) (Nat.le_of_ble_eq_true rfl) (by
  unfold f_L_liked
  refine sim_aload_n dL_liked_0 rfl ?_
  refine sim_iconst (0) dL_liked_1 (by decide +kernel) ?_
  refine sim_aload_n dL_liked_2 rfl ?_
  refine sim_iload_n dL_liked_3 rfl ?_
  refine sim_ao1 (fun a3 e => ?_)
  refine sim_virt (d - 1) e dL_liked_4 (k_X10_liked (d - 1) (by omega) _ _ _) q_X10_liked rfl rfl wm_RL_119 rfl rfl (by omega) (Nat.le_of_ble_eq_true rfl) am_nIx (am_rIx fun h1 v2 => ?_) (am_eIx fun h9 k9 => ?_)
  · refine sim_i2l dL_liked_7 ?_
    refine sim_sL dL_liked_8 (fun h6 => ?_)
    refine sim_goto 15 dL_liked_9 (by decide) ?_
    refine sim_iconst (0) dL_liked_15 (by decide +kernel) ?_
    exact sim_iret dL_liked_16 rfl
  · refine simx_case (fun cx => ?_) (fun cx => ?_)
    · subst cx
      refine simx_catch [] (0, 9, 12, 21) [] rfl ⟨by decide, by decide⟩ (by decide) wx_RL_21 wca_0 (by decide) (fun z hz => by cases hz) ?_
      refine sim_astore_n dL_liked_12 (Nat.le_of_ble_eq_true rfl) ?_
      refine sim_iconst (1) dL_liked_13 (by decide +kernel) ?_
      exact sim_iret dL_liked_14 rfl
    exact simx_none)
theorem q_L_liked : am_Cal m_L_liked 3 0 := ⟨am_mem 1052 (w := Cond.codeWith yL_liked cL_liked 4 (some .int) [(0, 9, 12, 21)]) (by decide +kernel) rfl, am_mem 55 (w := Cond.initialized RL) (by decide +kernel) rfl, fun _ => am_mem 1051 (w := Cond.static yL_liked) (by decide +kernel) rfl, fun z => absurd rfl z, fun z => absurd z (by decide), fun z => absurd z (by decide), by decide +kernel, by decide +kernel, Nat.le_of_ble_eq_true rfl⟩
abbrev m_X10_lock : am_M := (yX10_lock, cX10_lock, 5, some .boolean, [])
def f_X10_lock (a0 : Nat × Nat) (x1 : Int32) (x2 : Int32) (h : am_H) : am_R := m_ao (some a0) 10 fun a3 => m_bR (f_X10_workAt a3 x1 h) fun h1 o2 => m_gI o2 9 5 h1 fun v4 => m_pZ o2 9 5 x2 h1 fun h5 => m_rz h5 v4
theorem k_X10_lock (d : Nat) (hd : 8 ≤ d) (a0 : Nat × Nat) (x1 : Int32) (x2 : Int32) (h : am_H) : am_Con m_X10_lock d [.inr (.inr (some a0)), .inl x1, .inl x2] h (f_X10_lock a0 x1 x2 h) := am_con (by decide +kernel) (Nat.le_of_ble_eq_true rfl) (by
  unfold f_X10_lock
  refine sim_aload_n dX10_lock_0 rfl ?_
  refine sim_iload_n dX10_lock_1 rfl ?_
  refine sim_ao1 (fun a3 e => ?_)
  refine sim_virt (d - 1) e dX10_lock_2 (k_X10_workAt (d - 1) (by omega) _ _ _) q_X10_workAt rfl rfl wm_RX10_112 rfl rfl (by omega) (Nat.le_of_ble_eq_true rfl) am_nR (am_rR fun h1 o2 => ?_) am_eR
  refine sim_astore_n dX10_lock_5 (Nat.le_of_ble_eq_true rfl) ?_
  refine sim_aload_n dX10_lock_6 rfl ?_
  refine sim_gI 9 5 dX10_lock_7 rfl wf_RX10_150 (Nat.le_of_ble_eq_true rfl) rfl (fun v4 => ?_)
  refine sim_istore dX10_lock_10 (Nat.le_of_ble_eq_true rfl) ?_
  refine sim_aload_n dX10_lock_12 rfl ?_
  refine sim_iload_n dX10_lock_13 rfl ?_
  refine sim_pZ 9 5 dX10_lock_14 rfl wf_RX10_150 (Nat.le_of_ble_eq_true rfl) rfl (Or.inl rfl) rfl (fun h5 => ?_)
  refine sim_iload dX10_lock_17 rfl ?_
  exact sim_zret dX10_lock_19 rfl)
theorem q_X10_lock : am_Cal m_X10_lock 2 2 := ⟨am_mem 607 (w := Cond.code yX10_lock cX10_lock 5 (some .boolean)) (by decide +kernel) rfl, am_mem 56 (w := Cond.initialized RX10) (by decide +kernel) rfl, fun z => absurd z (by decide), fun _ => am_mem 605 (w := Cond.instanceMethod yX10_lock) (by decide +kernel) rfl, fun z => absurd z (by decide), fun _ => am_mem 606 (w := Cond.selects RX10 yX10_lock yX10_lock) (by decide +kernel) rfl, by decide +kernel, by decide +kernel, Nat.le_of_ble_eq_true rfl⟩
abbrev m_L_lock : am_M := (yL_lock, cL_lock, 5, some .int, [(0, 17, 20, 21)])
def f_L_lock_16  (s0 : Int64) (s1 : Int32) (s2 : Option (Nat × Nat)) (h : am_H) : am_R := m_sL s2 s1 s0 h fun h6 => m_ri h6 (0 : Int32)
theorem t_L_lock_16 (d : Nat) (hd : 9 ≤ d)  (s0 : Int64) (s1 : Int32) (s2 : Option (Nat × Nat)) (h : am_H) : Sim m_L_lock d 16 [none, none, none, none, none] [.inr (.inl s0), .inl s1, .inr (.inr s2)] h (f_L_lock_16  s0 s1 s2 h) := by
  unfold f_L_lock_16
  refine sim_sL dL_lock_16 (fun h6 => ?_)
  refine sim_goto 24 dL_lock_17 (by decide) ?_
  refine sim_iconst (0) dL_lock_24 (by decide +kernel) ?_
  exact sim_iret dL_lock_25 rfl
def f_L_lock (x0 : Option (Nat × Nat)) (x1 : Int32) (x2 : Int32) (x3 : Option (Nat × Nat)) (h : am_H) : am_R := m_ao x0 10 fun a3 => m_bIx (f_X10_lock a3 x1 x2 h) (fun h1 v2 => if v2 = 0 then (f_L_lock_16 (0 : Int64) (0 : Int32) x3 h1) else (f_L_lock_16 (1 : Int64) (0 : Int32) x3 h1)) (fun h4 e5 => if e5 = 0 then (m_ri h4 (1 : Int32)) else none)
theorem k_L_lock (d : Nat) (hd : 9 ≤ d) (x0 : Option (Nat × Nat)) (x1 : Int32) (x2 : Int32) (x3 : Option (Nat × Nat)) (h : am_H) : am_Con m_L_lock d [.inr (.inr x0), .inl x1, .inl x2, .inr (.inr x3)] h (f_L_lock x0 x1 x2 x3 h) := am_conX (by decide +kernel) (Nat.le_of_ble_eq_true rfl) (by
  unfold f_L_lock
  refine sim_aload_n dL_lock_0 rfl ?_
  refine sim_iconst (0) dL_lock_1 (by decide +kernel) ?_
  refine sim_aload_n dL_lock_2 rfl ?_
  refine sim_iload_n dL_lock_3 rfl ?_
  refine sim_iload_n dL_lock_4 rfl ?_
  refine sim_ao2 (fun a3 e => ?_)
  refine sim_virt (d - 1) e dL_lock_5 (k_X10_lock (d - 1) (by omega) _ _ _ _) q_X10_lock rfl rfl wm_RL_43 rfl rfl (by omega) (Nat.le_of_ble_eq_true rfl) am_nIx (am_rIx fun h1 v2 => ?_) (am_eIx fun h9 k9 => ?_)
  · refine sim_if_eq 15 dL_lock_8 (by decide) (fun c => ?_) (fun c => ?_)
    · refine sim_lconst (0) dL_lock_15 (by decide +kernel) ?_
      exact sim_lv (am_leN (am_leN (am_leN (am_leN (am_leN am_leT))))) (t_L_lock_16 d (by omega) _ _ _ _)
    · refine sim_lconst (1) dL_lock_11 (by decide +kernel) ?_
      refine sim_goto 16 dL_lock_12 (by decide) ?_
      exact sim_lv (am_leN (am_leN (am_leN (am_leN (am_leN am_leT))))) (t_L_lock_16 d (by omega) _ _ _ _)
  · refine simx_case (fun cx => ?_) (fun cx => ?_)
    · subst cx
      refine simx_catch [] (0, 17, 20, 21) [] rfl ⟨by decide, by decide⟩ (by decide) wx_RL_21 wca_0 (by decide) (fun z hz => by cases hz) ?_
      refine sim_astore dL_lock_20 (Nat.le_of_ble_eq_true rfl) ?_
      refine sim_iconst (1) dL_lock_22 (by decide +kernel) ?_
      exact sim_iret dL_lock_23 rfl
    exact simx_none)
theorem q_L_lock : am_Cal m_L_lock 4 0 := ⟨am_mem 603 (w := Cond.codeWith yL_lock cL_lock 5 (some .int) [(0, 17, 20, 21)]) (by decide +kernel) rfl, am_mem 55 (w := Cond.initialized RL) (by decide +kernel) rfl, fun _ => am_mem 602 (w := Cond.static yL_lock) (by decide +kernel) rfl, fun z => absurd rfl z, fun z => absurd z (by decide), fun z => absurd z (by decide), by decide +kernel, by decide +kernel, Nat.le_of_ble_eq_true rfl⟩
abbrev m_X10_checkTag : am_M := (yX10_checkTag, cX10_checkTag, 2, none, [])
def f_X10_checkTag_15   (h : am_H) : am_R := m_ex h 0
theorem t_X10_checkTag_15 (d : Nat) (hd : 6 ≤ d)   (h : am_H) : Sim m_X10_checkTag d 15 [none, none] [] h (f_X10_checkTag_15   h) := by
  unfold f_X10_checkTag_15
  exact sim_throwW 0 (by decide) dX10_checkTag_15 dX10_checkTag_18 dX10_checkTag_19 dX10_checkTag_22 dX10_checkTag_25 wx_RX10_162 wy_0 ws_RX10_380 at_RX10_166 gd_RX10_166 (by omega) (Nat.le_of_ble_eq_true rfl)
def f_X10_checkTag (a0 : Nat × Nat) (x1 : Int32) (h : am_H) : am_R := if x1 < 0 then (f_X10_checkTag_15 h) else (m_gR (some a0) 10 7 h fun o1 => m_gI o1 7 0 h fun v2 => if x1 < v2 then (m_rt h none) else (f_X10_checkTag_15 h))
theorem k_X10_checkTag (d : Nat) (hd : 6 ≤ d) (a0 : Nat × Nat) (x1 : Int32) (h : am_H) : am_Con m_X10_checkTag d [.inr (.inr (some a0)), .inl x1] h (f_X10_checkTag a0 x1 h) := am_con (by decide +kernel) (Nat.le_of_ble_eq_true rfl) (by
  unfold f_X10_checkTag
  refine sim_iload_n dX10_checkTag_0 rfl ?_
  refine sim_if_lt 15 dX10_checkTag_1 (by decide) (fun c => ?_) (fun c => ?_)
  · exact sim_lv (am_leN (am_leN am_leT)) (t_X10_checkTag_15 d (by omega) _)
  · refine sim_iload_n dX10_checkTag_4 rfl ?_
    refine sim_aload_n dX10_checkTag_5 rfl ?_
    refine sim_gR 10 7 dX10_checkTag_6 rfl wf_RX10_34 (Nat.le_of_ble_eq_true rfl) rfl (fun o1 => ?_)
    refine sim_gI 7 0 dX10_checkTag_9 rfl wf_RX10_180 (Nat.le_of_ble_eq_true rfl) rfl (fun v2 => ?_)
    refine sim_ic_lt 26 dX10_checkTag_12 (by decide) (fun c => ?_) (fun c => ?_)
    · exact sim_vret dX10_checkTag_26 rfl
    · exact sim_lv (am_leN (am_leN am_leT)) (t_X10_checkTag_15 d (by omega) _))
theorem q_X10_checkTag : am_Cal m_X10_checkTag 1 2 := ⟨am_mem 687 (w := Cond.code yX10_checkTag cX10_checkTag 2 none) (by decide +kernel) rfl, am_mem 56 (w := Cond.initialized RX10) (by decide +kernel) rfl, fun z => absurd z (by decide), fun _ => am_mem 686 (w := Cond.instanceMethod yX10_checkTag) (by decide +kernel) rfl, fun z => absurd z (by decide), fun _ => am_mem 8 (w := Cond.selects RX10 yX10_checkTag yX10_checkTag) (by decide +kernel) rfl, by decide +kernel, by decide +kernel, Nat.le_of_ble_eq_true rfl⟩
abbrev m_X10_letTaggedWorksWait : am_M := (yX10_letTaggedWorksWait, cX10_letTaggedWorksWait, 3, none, [])
def f_X10_letTaggedWorksWait_37 (rc2 : Nat × Nat → Int32 → am_H → am_R) (a0 : Nat × Nat) (x1 : Int32) (s0 : Int32) (s1 : Option (Nat × Nat)) (h : am_H) : am_R := m_pZ s1 9 9 s0 h fun h6 => rc2 a0 (x1 + 1) h6
theorem t_X10_letTaggedWorksWait_37 (d : Nat) (hd : 0 ≤ d) (rc2 : Nat × Nat → Int32 → am_H → am_R) (hrc2 : ∀ a0 x1 h, Sim m_X10_letTaggedWorksWait d 2 [some (.inr (.inr (some a0))), some (.inl x1), none] [] h (rc2 a0 x1 h)) (a0 : Nat × Nat) (x1 : Int32) (s0 : Int32) (s1 : Option (Nat × Nat)) (h : am_H) : Sim m_X10_letTaggedWorksWait d 37 [some (.inr (.inr (some a0))), some (.inl x1), none] [.inl s0, .inr (.inr s1)] h (f_X10_letTaggedWorksWait_37 rc2 a0 x1 s0 s1 h) := by
  unfold f_X10_letTaggedWorksWait_37
  refine sim_pZ 9 9 dX10_letTaggedWorksWait_37 rfl wf_RX10_244 (Nat.le_of_ble_eq_true rfl) rfl (Or.inl rfl) rfl (fun h6 => ?_)
  refine sim_iinc (1) dX10_letTaggedWorksWait_40 rfl (by decide +kernel) (Nat.le_of_ble_eq_true rfl) ?_
  refine sim_goto 2 dX10_letTaggedWorksWait_43 (by decide) ?_
  exact sim_lv (am_leS (am_leS (am_leN am_leT))) (hrc2 _ _ _)
def f_X10_letTaggedWorksWait_32 (rc2 : Nat × Nat → Int32 → am_H → am_R) (a0 : Nat × Nat) (x1 : Int32) (s0 : Option (Nat × Nat)) (h : am_H) : am_R := f_X10_letTaggedWorksWait_37 rc2 a0 x1 (1 : Int32) s0 h
theorem t_X10_letTaggedWorksWait_32 (d : Nat) (hd : 0 ≤ d) (rc2 : Nat × Nat → Int32 → am_H → am_R) (hrc2 : ∀ a0 x1 h, Sim m_X10_letTaggedWorksWait d 2 [some (.inr (.inr (some a0))), some (.inl x1), none] [] h (rc2 a0 x1 h)) (a0 : Nat × Nat) (x1 : Int32) (s0 : Option (Nat × Nat)) (h : am_H) : Sim m_X10_letTaggedWorksWait d 32 [some (.inr (.inr (some a0))), some (.inl x1), none] [.inr (.inr s0)] h (f_X10_letTaggedWorksWait_32 rc2 a0 x1 s0 h) := by
  unfold f_X10_letTaggedWorksWait_32
  refine sim_iconst (1) dX10_letTaggedWorksWait_32 (by decide +kernel) ?_
  refine sim_goto 37 dX10_letTaggedWorksWait_33 (by decide) ?_
  exact sim_lv (am_leS (am_leS (am_leN am_leT))) (t_X10_letTaggedWorksWait_37 d (by omega) _ hrc2 _ _ _ _ _)
def f_X10_letTaggedWorksWait_2  : Nat → Nat × Nat → Int32 → am_H → am_R
  | 0, _, _, _ => none
  | n + 1, a0, x1, h => m_gI (some a0) 10 4 h fun v1 => if v1 ≤ x1 then (m_rt h none) else (m_gR (some a0) 10 3 h fun o2 => m_aR o2 5 x1 h fun o3 => m_gI o3 9 9 h fun v4 => if v4 = 0 then (m_gI o3 9 7 h fun v5 => if v5 = 0 then (f_X10_letTaggedWorksWait_37 (f_X10_letTaggedWorksWait_2  n) a0 x1 (0 : Int32) o3 h) else (f_X10_letTaggedWorksWait_32 (f_X10_letTaggedWorksWait_2  n) a0 x1 o3 h)) else (f_X10_letTaggedWorksWait_32 (f_X10_letTaggedWorksWait_2  n) a0 x1 o3 h))
theorem t_X10_letTaggedWorksWait_2 (d : Nat) (hd : 0 ≤ d)  : ∀ (n : Nat) (a0 : Nat × Nat) (x1 : Int32) (h : am_H), Sim m_X10_letTaggedWorksWait d 2 [some (.inr (.inr (some a0))), some (.inl x1), none] [] h (f_X10_letTaggedWorksWait_2  n a0 x1 h) := by
  intro n
  induction n with
  | zero => intros; exact sim_none
  | succ n hrc2 =>
    intro a0 x1 h
    rw [f_X10_letTaggedWorksWait_2]
    refine sim_iload_n dX10_letTaggedWorksWait_2 rfl ?_
    refine sim_aload_n dX10_letTaggedWorksWait_3 rfl ?_
    refine sim_gI 10 4 dX10_letTaggedWorksWait_4 rfl wf_RX10_104 (Nat.le_of_ble_eq_true rfl) rfl (fun v1 => ?_)
    refine sim_ic_ge 46 dX10_letTaggedWorksWait_7 (by decide) (fun c => ?_) (fun c => ?_)
    · exact sim_vret dX10_letTaggedWorksWait_46 rfl
    · refine sim_aload_n dX10_letTaggedWorksWait_10 rfl ?_
      refine sim_gR 10 3 dX10_letTaggedWorksWait_11 rfl wf_RX10_21 (Nat.le_of_ble_eq_true rfl) rfl (fun o2 => ?_)
      refine sim_iload_n dX10_letTaggedWorksWait_14 rfl ?_
      refine sim_aR 5 rfl dX10_letTaggedWorksWait_15 (fun o3 => ?_)
      refine sim_astore_n dX10_letTaggedWorksWait_16 (Nat.le_of_ble_eq_true rfl) ?_
      refine sim_aload_n dX10_letTaggedWorksWait_17 rfl ?_
      refine sim_aload_n dX10_letTaggedWorksWait_18 rfl ?_
      refine sim_gI 9 9 dX10_letTaggedWorksWait_19 rfl wf_RX10_244 (Nat.le_of_ble_eq_true rfl) rfl (fun v4 => ?_)
      refine sim_if_ne 32 dX10_letTaggedWorksWait_22 (by decide) (fun c => ?_) (fun c => ?_)
      · exact sim_lv (am_leS (am_leS (am_leN am_leT))) (t_X10_letTaggedWorksWait_32 d (by omega) _ hrc2 _ _ _ _)
      · refine sim_aload_n dX10_letTaggedWorksWait_25 rfl ?_
        refine sim_gI 9 7 dX10_letTaggedWorksWait_26 rfl wf_RX10_234 (Nat.le_of_ble_eq_true rfl) rfl (fun v5 => ?_)
        refine sim_if_eq 36 dX10_letTaggedWorksWait_29 (by decide) (fun c => ?_) (fun c => ?_)
        · refine sim_iconst (0) dX10_letTaggedWorksWait_36 (by decide +kernel) ?_
          exact sim_lv (am_leS (am_leS (am_leN am_leT))) (t_X10_letTaggedWorksWait_37 d (by omega) _ hrc2 _ _ _ _ _)
        · exact sim_lv (am_leS (am_leS (am_leN am_leT))) (t_X10_letTaggedWorksWait_32 d (by omega) _ hrc2 _ _ _ _)
def f_X10_letTaggedWorksWait (a0 : Nat × Nat) (h : am_H) : am_R := f_X10_letTaggedWorksWait_2 5000 a0 (0 : Int32) h
theorem k_X10_letTaggedWorksWait (d : Nat) (hd : 0 ≤ d) (a0 : Nat × Nat) (h : am_H) : am_Con m_X10_letTaggedWorksWait d [.inr (.inr (some a0))] h (f_X10_letTaggedWorksWait a0 h) := am_con (by decide +kernel) (Nat.le_of_ble_eq_true rfl) (by
  unfold f_X10_letTaggedWorksWait
  refine sim_iconst (0) dX10_letTaggedWorksWait_0 (by decide +kernel) ?_
  refine sim_istore_n dX10_letTaggedWorksWait_1 (Nat.le_of_ble_eq_true rfl) ?_
  exact sim_lv (am_leS (am_leS (am_leN am_leT))) (t_X10_letTaggedWorksWait_2 d (by omega) _ _ _ _))
theorem q_X10_letTaggedWorksWait : am_Cal m_X10_letTaggedWorksWait 0 2 := ⟨am_mem 701 (w := Cond.code yX10_letTaggedWorksWait cX10_letTaggedWorksWait 3 none) (by decide +kernel) rfl, am_mem 56 (w := Cond.initialized RX10) (by decide +kernel) rfl, fun z => absurd z (by decide), fun _ => am_mem 700 (w := Cond.instanceMethod yX10_letTaggedWorksWait) (by decide +kernel) rfl, fun z => absurd z (by decide), fun _ => am_mem 9 (w := Cond.selects RX10 yX10_letTaggedWorksWait yX10_letTaggedWorksWait) (by decide +kernel) rfl, by decide +kernel, by decide +kernel, Nat.le_of_ble_eq_true rfl⟩
abbrev m_X7_kindOf : am_M := (yX7_kindOf, cX7_kindOf, 2, some .int, [])
def f_X7_kindOf_27  (s0 : Int32) (h : am_H) : am_R := m_ri h s0
theorem t_X7_kindOf_27 (d : Nat) (hd : 0 ≤ d)  (s0 : Int32) (h : am_H) : Sim m_X7_kindOf d 27 [none, none] [.inl s0] h (f_X7_kindOf_27  s0 h) := by
  unfold f_X7_kindOf_27
  exact sim_iret dX7_kindOf_27 rfl
def f_X7_kindOf (a0 : Nat × Nat) (x1 : Int32) (h : am_H) : am_R := m_gR (some a0) 7 1 h fun o1 => m_aI o1 0 x1 h fun v2 => if v2 = (-1 : Int32) then (m_ri h (0 : Int32)) else (m_gR (some a0) 7 1 h fun o3 => m_aI o3 0 x1 h fun v4 => if v4 = x1 then (f_X7_kindOf_27 (1 : Int32) h) else (f_X7_kindOf_27 (2 : Int32) h))
theorem k_X7_kindOf (d : Nat) (hd : 0 ≤ d) (a0 : Nat × Nat) (x1 : Int32) (h : am_H) : am_Con m_X7_kindOf d [.inr (.inr (some a0)), .inl x1] h (f_X7_kindOf a0 x1 h) := am_con (by decide +kernel) (Nat.le_of_ble_eq_true rfl) (by
  unfold f_X7_kindOf
  refine sim_aload_n dX7_kindOf_0 rfl ?_
  refine sim_gR 7 1 dX7_kindOf_1 rfl wf_RX7_9 (Nat.le_of_ble_eq_true rfl) rfl (fun o1 => ?_)
  refine sim_iload_n dX7_kindOf_4 rfl ?_
  refine sim_aI dX7_kindOf_5 (fun v2 => ?_)
  refine sim_iconst (-1) dX7_kindOf_6 (by decide +kernel) ?_
  refine sim_ic_ne 12 dX7_kindOf_7 (by decide) (fun c => ?_) (fun c => ?_)
  · refine sim_aload_n dX7_kindOf_12 rfl ?_
    refine sim_gR 7 1 dX7_kindOf_13 rfl wf_RX7_9 (Nat.le_of_ble_eq_true rfl) rfl (fun o3 => ?_)
    refine sim_iload_n dX7_kindOf_16 rfl ?_
    refine sim_aI dX7_kindOf_17 (fun v4 => ?_)
    refine sim_iload_n dX7_kindOf_18 rfl ?_
    refine sim_ic_ne 26 dX7_kindOf_19 (by decide) (fun c => ?_) (fun c => ?_)
    · refine sim_iconst (2) dX7_kindOf_26 (by decide +kernel) ?_
      exact sim_lv (am_leN (am_leN am_leT)) (t_X7_kindOf_27 d (by omega) _ _)
    · refine sim_iconst (1) dX7_kindOf_22 (by decide +kernel) ?_
      refine sim_goto 27 dX7_kindOf_23 (by decide) ?_
      exact sim_lv (am_leN (am_leN am_leT)) (t_X7_kindOf_27 d (by omega) _ _)
  · refine sim_iconst (0) dX7_kindOf_10 (by decide +kernel) ?_
    exact sim_iret dX7_kindOf_11 rfl)
theorem q_X7_kindOf : am_Cal m_X7_kindOf 1 2 := ⟨am_mem 692 (w := Cond.code yX7_kindOf cX7_kindOf 2 (some .int)) (by decide +kernel) rfl, am_mem 57 (w := Cond.initialized RX7) (by decide +kernel) rfl, fun z => absurd z (by decide), fun _ => am_mem 690 (w := Cond.instanceMethod yX7_kindOf) (by decide +kernel) rfl, fun z => absurd z (by decide), fun _ => am_mem 691 (w := Cond.selects RX7 yX7_kindOf yX7_kindOf) (by decide +kernel) rfl, by decide +kernel, by decide +kernel, Nat.le_of_ble_eq_true rfl⟩
abbrev m_X7_makeMain : am_M := (yX7_makeMain, cX7_makeMain, 2, none, [])
def f_X7_makeMain (a0 : Nat × Nat) (x1 : Int32) (h : am_H) : am_R := m_gR (some a0) 7 1 h fun o1 => m_sI o1 x1 x1 h fun h2 => m_rt h2 none
theorem k_X7_makeMain (d : Nat) (hd : 0 ≤ d) (a0 : Nat × Nat) (x1 : Int32) (h : am_H) : am_Con m_X7_makeMain d [.inr (.inr (some a0)), .inl x1] h (f_X7_makeMain a0 x1 h) := am_con (by decide +kernel) (Nat.le_of_ble_eq_true rfl) (by
  unfold f_X7_makeMain
  refine sim_aload_n dX7_makeMain_0 rfl ?_
  refine sim_gR 7 1 dX7_makeMain_1 rfl wf_RX7_9 (Nat.le_of_ble_eq_true rfl) rfl (fun o1 => ?_)
  refine sim_iload_n dX7_makeMain_4 rfl ?_
  refine sim_iload_n dX7_makeMain_5 rfl ?_
  refine sim_sI dX7_makeMain_6 (fun h2 => ?_)
  exact sim_vret dX7_makeMain_7 rfl)
theorem q_X7_makeMain : am_Cal m_X7_makeMain 1 2 := ⟨am_mem 697 (w := Cond.code yX7_makeMain cX7_makeMain 2 none) (by decide +kernel) rfl, am_mem 57 (w := Cond.initialized RX7) (by decide +kernel) rfl, fun z => absurd z (by decide), fun _ => am_mem 695 (w := Cond.instanceMethod yX7_makeMain) (by decide +kernel) rfl, fun z => absurd z (by decide), fun _ => am_mem 696 (w := Cond.selects RX7 yX7_makeMain yX7_makeMain) (by decide +kernel) rfl, by decide +kernel, by decide +kernel, Nat.le_of_ble_eq_true rfl⟩
abbrev m_X10_make : am_M := (yX10_make, cX10_make, 3, some .int, [])
def f_X10_make (a0 : Nat × Nat) (x1 : Int32) (h : am_H) : am_R := m_ao (some a0) 10 fun a3 => m_bV (f_X10_checkTag a3 x1 h) fun h1 => m_gR (some a0) 10 7 h1 fun o4 => m_ao o4 7 fun a7 => m_bI (f_X7_kindOf a7 x1 h1) fun h5 v6 => if v6 = (1 : Int32) then (m_ex h5 2) else (m_gR (some a0) 10 7 h5 fun o8 => m_ao o8 7 fun a11 => m_bV (f_X7_makeMain a11 x1 h5) fun h9 => m_ao (some a0) 10 fun a14 => m_bV (f_X10_letTaggedWorksWait a14 h9) fun h12 => m_ri h12 v6)
theorem k_X10_make (d : Nat) (hd : 7 ≤ d) (a0 : Nat × Nat) (x1 : Int32) (h : am_H) : am_Con m_X10_make d [.inr (.inr (some a0)), .inl x1] h (f_X10_make a0 x1 h) := am_con (by decide +kernel) (Nat.le_of_ble_eq_true rfl) (by
  unfold f_X10_make
  refine sim_aload_n dX10_make_0 rfl ?_
  refine sim_iload_n dX10_make_1 rfl ?_
  refine sim_ao1 (fun a3 e => ?_)
  refine sim_virt (d - 1) e dX10_make_2 (k_X10_checkTag (d - 1) (by omega) _ _ _) q_X10_checkTag rfl rfl wm_RX10_189 rfl rfl (by omega) (Nat.le_of_ble_eq_true rfl) am_nV (am_rV fun h1 => ?_) am_eV
  refine sim_aload_n dX10_make_5 rfl ?_
  refine sim_gR 10 7 dX10_make_6 rfl wf_RX10_34 (Nat.le_of_ble_eq_true rfl) rfl (fun o4 => ?_)
  refine sim_iload_n dX10_make_9 rfl ?_
  refine sim_ao1 (fun a7 e => ?_)
  refine sim_virt (d - 1) e dX10_make_10 (k_X7_kindOf (d - 1) (by omega) _ _ _) q_X7_kindOf rfl rfl wm_RX10_192 rfl rfl (by omega) (Nat.le_of_ble_eq_true rfl) am_nI (am_rI fun h5 v6 => ?_) am_eI
  refine sim_istore_n dX10_make_13 (Nat.le_of_ble_eq_true rfl) ?_
  refine sim_iload_n dX10_make_14 rfl ?_
  refine sim_iconst (1) dX10_make_15 (by decide +kernel) ?_
  refine sim_ic_ne 29 dX10_make_16 (by decide) (fun c => ?_) (fun c => ?_)
  · refine sim_aload_n dX10_make_29 rfl ?_
    refine sim_gR 10 7 dX10_make_30 rfl wf_RX10_34 (Nat.le_of_ble_eq_true rfl) rfl (fun o8 => ?_)
    refine sim_iload_n dX10_make_33 rfl ?_
    refine sim_ao1 (fun a11 e => ?_)
    refine sim_virt (d - 1) e dX10_make_34 (k_X7_makeMain (d - 1) (by omega) _ _ _) q_X7_makeMain rfl rfl wm_RX10_197 rfl rfl (by omega) (Nat.le_of_ble_eq_true rfl) am_nV (am_rV fun h9 => ?_) am_eV
    refine sim_aload_n dX10_make_37 rfl ?_
    refine sim_ao0 (fun a14 e => ?_)
    refine sim_virt (d - 1) e dX10_make_38 (k_X10_letTaggedWorksWait (d - 1) (by omega) _  _) q_X10_letTaggedWorksWait rfl rfl wm_RX10_200 rfl rfl (by omega) (Nat.le_of_ble_eq_true rfl) am_nV (am_rV fun h12 => ?_) am_eV
    refine sim_iload_n dX10_make_41 rfl ?_
    exact sim_iret dX10_make_42 rfl
  · exact sim_throw 2 (by decide) dX10_make_19 dX10_make_22 dX10_make_23 dX10_make_25 dX10_make_28 wx_RX10_77 wy_2 ws_RX10_195 at_RX10_81 gd_RX10_81 (by omega) (Nat.le_of_ble_eq_true rfl))
theorem q_X10_make : am_Cal m_X10_make 1 2 := ⟨am_mem 683 (w := Cond.code yX10_make cX10_make 3 (some .int)) (by decide +kernel) rfl, am_mem 56 (w := Cond.initialized RX10) (by decide +kernel) rfl, fun z => absurd z (by decide), fun _ => am_mem 681 (w := Cond.instanceMethod yX10_make) (by decide +kernel) rfl, fun z => absurd z (by decide), fun _ => am_mem 682 (w := Cond.selects RX10 yX10_make yX10_make) (by decide +kernel) rfl, by decide +kernel, by decide +kernel, Nat.le_of_ble_eq_true rfl⟩
abbrev m_L_make : am_M := (yL_make, cL_make, 4, some .int, [(0, 9, 12, 21), (0, 9, 15, 15)])
def f_L_make (x0 : Option (Nat × Nat)) (x1 : Int32) (x2 : Option (Nat × Nat)) (h : am_H) : am_R := m_ao x0 10 fun a3 => m_bIx (f_X10_make a3 x1 h) (fun h1 v2 => m_sL x2 (0 : Int32) (Int32.toInt64 v2) h1 fun h6 => m_ri h6 (0 : Int32)) (fun h4 e5 => if e5 = 0 then (m_ri h4 (1 : Int32)) else if e5 = 2 then (m_ri h4 (2 : Int32)) else none)
theorem k_L_make (d : Nat) (hd : 8 ≤ d) (x0 : Option (Nat × Nat)) (x1 : Int32) (x2 : Option (Nat × Nat)) (h : am_H) : am_Con m_L_make d [.inr (.inr x0), .inl x1, .inr (.inr x2)] h (f_L_make x0 x1 x2 h) := am_conX (by decide +kernel) (Nat.le_of_ble_eq_true rfl) (by
  unfold f_L_make
  refine sim_aload_n dL_make_0 rfl ?_
  refine sim_iconst (0) dL_make_1 (by decide +kernel) ?_
  refine sim_aload_n dL_make_2 rfl ?_
  refine sim_iload_n dL_make_3 rfl ?_
  refine sim_ao1 (fun a3 e => ?_)
  refine sim_virt (d - 1) e dL_make_4 (k_X10_make (d - 1) (by omega) _ _ _) q_X10_make rfl rfl wm_RL_64 rfl rfl (by omega) (Nat.le_of_ble_eq_true rfl) am_nIx (am_rIx fun h1 v2 => ?_) (am_eIx fun h9 k9 => ?_)
  · refine sim_i2l dL_make_7 ?_
    refine sim_sL dL_make_8 (fun h6 => ?_)
    refine sim_goto 18 dL_make_9 (by decide) ?_
    refine sim_iconst (0) dL_make_18 (by decide +kernel) ?_
    exact sim_iret dL_make_19 rfl
  · refine simx_case (fun cx => ?_) (fun cx => ?_)
    · subst cx
      refine simx_catch [] (0, 9, 12, 21) [(0, 9, 15, 15)] rfl ⟨by decide, by decide⟩ (by decide) wx_RL_21 wca_0 (by decide) (fun z hz => by cases hz) ?_
      refine sim_astore_n dL_make_12 (Nat.le_of_ble_eq_true rfl) ?_
      refine sim_iconst (1) dL_make_13 (by decide +kernel) ?_
      exact sim_iret dL_make_14 rfl
    refine simx_case (fun cx => ?_) (fun cx => ?_)
    · subst cx
      refine simx_catch [(0, 9, 12, 21)] (0, 9, 15, 15) [] rfl ⟨by decide, by decide⟩ (by decide) wx_RL_15 wca_2 (by decide) (fun z hz => by simp only [List.mem_cons, List.not_mem_nil, or_false] at hz; subst hz; exact ⟨by decide, 0, _, by decide, by decide, wx_RL_21⟩) ?_
      refine sim_astore_n dL_make_15 (Nat.le_of_ble_eq_true rfl) ?_
      refine sim_iconst (2) dL_make_16 (by decide +kernel) ?_
      exact sim_iret dL_make_17 rfl
    exact simx_none)
theorem q_L_make : am_Cal m_L_make 3 0 := ⟨am_mem 679 (w := Cond.codeWith yL_make cL_make 4 (some .int) [(0, 9, 12, 21), (0, 9, 15, 15)]) (by decide +kernel) rfl, am_mem 55 (w := Cond.initialized RL) (by decide +kernel) rfl, fun _ => am_mem 678 (w := Cond.static yL_make) (by decide +kernel) rfl, fun z => absurd rfl z, fun z => absurd z (by decide), fun z => absurd z (by decide), by decide +kernel, by decide +kernel, Nat.le_of_ble_eq_true rfl⟩
