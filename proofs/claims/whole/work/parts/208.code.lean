abbrev m_X10_type : am_M := (yX10_type, cX10_type, 5, some .int, [])
def f_X10_type_87  : Nat → Nat × Nat → Int64 → Int32 → Int32 → am_H → am_R
  | 0, _, _, _, _, _ => none
  | n + 1, a0, x1, x3, x4, h => if x3 ≤ x4 then (m_gR (some a0) 10 8 h fun o7 => m_gI o7 8 1 h fun v8 => m_ri h v8) else (m_gR (some a0) 10 8 h fun o9 => m_bI (f_X10_characterAt x1 x4 h) fun h10 v11 => m_ao o9 8 fun a14 => m_bV (f_X8_add a14 v11 h10) fun h12 => (f_X10_type_87  n) a0 x1 x3 (x4 + 1) h12)
theorem t_X10_type_87 (d : Nat) (hd : 6 ≤ d)  : ∀ (n : Nat) (a0 : Nat × Nat) (x1 : Int64) (x3 : Int32) (x4 : Int32) (h : am_H), Sim m_X10_type d 87 [some (.inr (.inr (some a0))), some (.inr (.inl x1)), none, some (.inl x3), some (.inl x4)] [] h (f_X10_type_87  n a0 x1 x3 x4 h) := by
  intro n
  induction n with
  | zero => intros; exact sim_none
  | succ n hrc87 =>
    intro a0 x1 x3 x4 h
    rw [f_X10_type_87]
    refine sim_iload dX10_type_87 rfl ?_
    refine sim_iload_n dX10_type_89 rfl ?_
    refine sim_ic_ge 112 dX10_type_90 (by decide) (fun c => ?_) (fun c => ?_)
    · refine sim_aload_n dX10_type_112 rfl ?_
      refine sim_gR 10 8 dX10_type_113 rfl wf_RX10_41 (Nat.le_of_ble_eq_true rfl) rfl (fun o7 => ?_)
      refine sim_gI 8 1 dX10_type_116 rfl wf_RX10_263 (Nat.le_of_ble_eq_true rfl) rfl (fun v8 => ?_)
      exact sim_iret dX10_type_119 rfl
    · refine sim_aload_n dX10_type_93 rfl ?_
      refine sim_gR 10 8 dX10_type_94 rfl wf_RX10_41 (Nat.le_of_ble_eq_true rfl) rfl (fun o9 => ?_)
      refine sim_lload_n dX10_type_97 rfl ?_
      refine sim_iload dX10_type_98 rfl ?_
      refine sim_static (d - 1) dX10_type_100 (k_X10_characterAt (d - 1) (by omega) _ _ _) q_X10_characterAt wm_RX10_253 rfl rfl (by omega) (Nat.le_of_ble_eq_true rfl) am_nI (am_rI fun h10 v11 => ?_) am_eI
      refine sim_ao1 (fun a14 e => ?_)
      refine sim_virt (d - 1) e dX10_type_103 (k_X8_add (d - 1) (by omega) _ _ _) q_X8_add rfl rfl wm_RX10_268 rfl rfl (by omega) (Nat.le_of_ble_eq_true rfl) am_nV (am_rV fun h12 => ?_) am_eV
      refine sim_iinc (1) dX10_type_106 rfl (by decide +kernel) (Nat.le_of_ble_eq_true rfl) ?_
      refine sim_goto 87 dX10_type_109 (by decide) ?_
      exact sim_lv (am_leS (am_leS (am_leN (am_leS (am_leS am_leT))))) (hrc87 _ _ _ _ _)
def f_X10_type_24  : Nat → Nat × Nat → Int64 → Int32 → Int32 → am_H → am_R
  | 0, _, _, _, _, _ => none
  | n + 1, a0, x1, x3, x4, h => if x3 ≤ x4 then (m_gR (some a0) 10 8 h fun o1 => m_gI o1 8 1 h fun v2 => if (v2 + x3) ≤ (60 : Int32) then (f_X10_type_87 5000 a0 x1 x3 (0 : Int32) h) else (m_ex h 2)) else (m_bI (f_X10_characterAt x1 x4 h) fun h3 v4 => m_bI (f_X8_holds v4 h3) fun h5 v6 => if v6 = 0 then (m_ex h5 1) else ((f_X10_type_24  n) a0 x1 x3 (x4 + 1) h5))
theorem t_X10_type_24 (d : Nat) (hd : 6 ≤ d)  : ∀ (n : Nat) (a0 : Nat × Nat) (x1 : Int64) (x3 : Int32) (x4 : Int32) (h : am_H), Sim m_X10_type d 24 [some (.inr (.inr (some a0))), some (.inr (.inl x1)), none, some (.inl x3), some (.inl x4)] [] h (f_X10_type_24  n a0 x1 x3 x4 h) := by
  intro n
  induction n with
  | zero => intros; exact sim_none
  | succ n hrc24 =>
    intro a0 x1 x3 x4 h
    rw [f_X10_type_24]
    refine sim_iload dX10_type_24 rfl ?_
    refine sim_iload_n dX10_type_26 rfl ?_
    refine sim_ic_ge 59 dX10_type_27 (by decide) (fun c => ?_) (fun c => ?_)
    · refine sim_aload_n dX10_type_59 rfl ?_
      refine sim_gR 10 8 dX10_type_60 rfl wf_RX10_41 (Nat.le_of_ble_eq_true rfl) rfl (fun o1 => ?_)
      refine sim_gI 8 1 dX10_type_63 rfl wf_RX10_263 (Nat.le_of_ble_eq_true rfl) rfl (fun v2 => ?_)
      refine sim_iload_n dX10_type_66 rfl ?_
      refine sim_iadd dX10_type_67 ?_
      refine sim_bipush (60) dX10_type_68 (by decide +kernel) ?_
      refine sim_ic_le 84 dX10_type_70 (by decide) (fun c => ?_) (fun c => ?_)
      · refine sim_iconst (0) dX10_type_84 (by decide +kernel) ?_
        refine sim_istore dX10_type_85 (Nat.le_of_ble_eq_true rfl) ?_
        exact sim_lv (am_leS (am_leS (am_leN (am_leS (am_leS am_leT))))) (t_X10_type_87 d (by omega) _ _ _ _ _ _)
      · exact sim_throwW 2 (by decide) dX10_type_73 dX10_type_76 dX10_type_77 dX10_type_80 dX10_type_83 wx_RX10_77 wy_2 ws_RX10_266 at_RX10_81 gd_RX10_81 (by omega) (Nat.le_of_ble_eq_true rfl)
    · refine sim_lload_n dX10_type_30 rfl ?_
      refine sim_iload dX10_type_31 rfl ?_
      refine sim_static (d - 1) dX10_type_33 (k_X10_characterAt (d - 1) (by omega) _ _ _) q_X10_characterAt wm_RX10_253 rfl rfl (by omega) (Nat.le_of_ble_eq_true rfl) am_nI (am_rI fun h3 v4 => ?_) am_eI
      refine sim_static (d - 1) dX10_type_36 (k_X8_holds (d - 1) (by omega) _ _) q_X8_holds wm_RX10_257 rfl rfl (by omega) (Nat.le_of_ble_eq_true rfl) am_nI (am_rI fun h5 v6 => ?_) am_eI
      refine sim_if_ne 53 dX10_type_39 (by decide) (fun c => ?_) (fun c => ?_)
      · refine sim_iinc (1) dX10_type_53 rfl (by decide +kernel) (Nat.le_of_ble_eq_true rfl) ?_
        refine sim_goto 24 dX10_type_56 (by decide) ?_
        exact sim_lv (am_leS (am_leS (am_leN (am_leS (am_leS am_leT))))) (hrc24 _ _ _ _ _)
      · exact sim_throwW 1 (by decide) dX10_type_42 dX10_type_45 dX10_type_46 dX10_type_49 dX10_type_52 wx_RX10_66 wy_1 ws_RX10_261 at_RX10_70 gd_RX10_70 (by omega) (Nat.le_of_ble_eq_true rfl)
def f_X10_type_11   (h : am_H) : am_R := m_ex h 1
theorem t_X10_type_11 (d : Nat) (hd : 6 ≤ d)   (h : am_H) : Sim m_X10_type d 11 [none, none, none, none, none] [] h (f_X10_type_11   h) := by
  unfold f_X10_type_11
  exact sim_throw 1 (by decide) dX10_type_11 dX10_type_14 dX10_type_15 dX10_type_17 dX10_type_20 wx_RX10_66 wy_1 ws_RX10_251 at_RX10_70 gd_RX10_70 (by omega) (Nat.le_of_ble_eq_true rfl)
def f_X10_type (a0 : Nat × Nat) (x1 : Int64) (x3 : Int32) (h : am_H) : am_R := if x3 < (1 : Int32) then (f_X10_type_11 h) else (if x3 ≤ (8 : Int32) then (f_X10_type_24 5000 a0 x1 x3 (0 : Int32) h) else (f_X10_type_11 h))
theorem k_X10_type (d : Nat) (hd : 6 ≤ d) (a0 : Nat × Nat) (x1 : Int64) (x3 : Int32) (h : am_H) : am_Con m_X10_type d [.inr (.inr (some a0)), .inr (.inl x1), .inl x3] h (f_X10_type a0 x1 x3 h) := am_con (by decide +kernel) (Nat.le_of_ble_eq_true rfl) (by
  unfold f_X10_type
  refine sim_iload_n dX10_type_0 rfl ?_
  refine sim_iconst (1) dX10_type_1 (by decide +kernel) ?_
  refine sim_ic_lt 11 dX10_type_2 (by decide) (fun c => ?_) (fun c => ?_)
  · exact sim_lv (am_leN (am_leN (am_leN (am_leN (am_leN am_leT))))) (t_X10_type_11 d (by omega) _)
  · refine sim_iload_n dX10_type_5 rfl ?_
    refine sim_bipush (8) dX10_type_6 (by decide +kernel) ?_
    refine sim_ic_le 21 dX10_type_8 (by decide) (fun c => ?_) (fun c => ?_)
    · refine sim_iconst (0) dX10_type_21 (by decide +kernel) ?_
      refine sim_istore dX10_type_22 (Nat.le_of_ble_eq_true rfl) ?_
      exact sim_lv (am_leS (am_leS (am_leN (am_leS (am_leS am_leT))))) (t_X10_type_24 d (by omega) _ _ _ _ _ _)
    · exact sim_lv (am_leN (am_leN (am_leN (am_leN (am_leN am_leT))))) (t_X10_type_11 d (by omega) _))
theorem q_X10_type : am_Cal m_X10_type 2 2 := ⟨am_mem 803 (w := Cond.code yX10_type cX10_type 5 (some .int)) (by decide +kernel) rfl, am_mem 56 (w := Cond.initialized RX10) (by decide +kernel) rfl, fun z => absurd z (by decide), fun _ => am_mem 801 (w := Cond.instanceMethod yX10_type) (by decide +kernel) rfl, fun z => absurd z (by decide), fun _ => am_mem 802 (w := Cond.selects RX10 yX10_type yX10_type) (by decide +kernel) rfl, by decide +kernel, by decide +kernel, Nat.le_of_ble_eq_true rfl⟩
abbrev m_L_type : am_M := (yL_type, cL_type, 6, some .int, [(0, 11, 14, 13), (0, 11, 18, 15)])
def f_L_type (x0 : Option (Nat × Nat)) (x1 : Int64) (x3 : Int32) (x4 : Option (Nat × Nat)) (h : am_H) : am_R := m_ao x0 10 fun a3 => m_bIx (f_X10_type a3 x1 x3 h) (fun h1 v2 => m_sL x4 (0 : Int32) (Int32.toInt64 v2) h1 fun h6 => m_ri h6 (0 : Int32)) (fun h4 e5 => if e5 = 1 then (m_ri h4 (1 : Int32)) else if e5 = 2 then (m_ri h4 (2 : Int32)) else none)
theorem k_L_type (d : Nat) (hd : 7 ≤ d) (x0 : Option (Nat × Nat)) (x1 : Int64) (x3 : Int32) (x4 : Option (Nat × Nat)) (h : am_H) : am_Con m_L_type d [.inr (.inr x0), .inr (.inl x1), .inl x3, .inr (.inr x4)] h (f_L_type x0 x1 x3 x4 h) := am_conX (by decide +kernel) (Nat.le_of_ble_eq_true rfl) (by
  unfold f_L_type
  refine sim_aload dL_type_0 rfl ?_
  refine sim_iconst (0) dL_type_2 (by decide +kernel) ?_
  refine sim_aload_n dL_type_3 rfl ?_
  refine sim_lload_n dL_type_4 rfl ?_
  refine sim_iload_n dL_type_5 rfl ?_
  refine sim_ao2 (fun a3 e => ?_)
  refine sim_virt (d - 1) e dL_type_6 (k_X10_type (d - 1) (by omega) _ _ _ _) q_X10_type rfl rfl wm_RL_86 rfl rfl (by omega) (Nat.le_of_ble_eq_true rfl) am_nIx (am_rIx fun h1 v2 => ?_) (am_eIx fun h9 k9 => ?_)
  · refine sim_i2l dL_type_9 ?_
    refine sim_sL dL_type_10 (fun h6 => ?_)
    refine sim_goto 22 dL_type_11 (by decide) ?_
    refine sim_iconst (0) dL_type_22 (by decide +kernel) ?_
    exact sim_iret dL_type_23 rfl
  · refine simx_case (fun cx => ?_) (fun cx => ?_)
    · subst cx
      refine simx_catch [] (0, 11, 14, 13) [(0, 11, 18, 15)] rfl ⟨by decide, by decide⟩ (by decide) wx_RL_13 wca_1 (by decide) (fun z hz => by cases hz) ?_
      refine sim_astore dL_type_14 (Nat.le_of_ble_eq_true rfl) ?_
      refine sim_iconst (1) dL_type_16 (by decide +kernel) ?_
      exact sim_iret dL_type_17 rfl
    refine simx_case (fun cx => ?_) (fun cx => ?_)
    · subst cx
      refine simx_catch [(0, 11, 14, 13)] (0, 11, 18, 15) [] rfl ⟨by decide, by decide⟩ (by decide) wx_RL_15 wca_2 (by decide) (fun z hz => by simp only [List.mem_cons, List.not_mem_nil, or_false] at hz; subst hz; exact ⟨by decide, 1, _, by decide, by decide, wx_RL_13⟩) ?_
      refine sim_astore dL_type_18 (Nat.le_of_ble_eq_true rfl) ?_
      refine sim_iconst (2) dL_type_20 (by decide +kernel) ?_
      exact sim_iret dL_type_21 rfl
    exact simx_none)
theorem q_L_type : am_Cal m_L_type 4 0 := ⟨am_mem 799 (w := Cond.codeWith yL_type cL_type 6 (some .int) [(0, 11, 14, 13), (0, 11, 18, 15)]) (by decide +kernel) rfl, am_mem 55 (w := Cond.initialized RL) (by decide +kernel) rfl, fun _ => am_mem 798 (w := Cond.static yL_type) (by decide +kernel) rfl, fun z => absurd rfl z, fun z => absurd z (by decide), fun z => absurd z (by decide), by decide +kernel, by decide +kernel, Nat.le_of_ble_eq_true rfl⟩
abbrev m_X10_under : am_M := (yX10_under, cX10_under, 3, some .int, [])
def f_X10_under (a0 : Nat × Nat) (x1 : Int32) (x2 : Int32) (h : am_H) : am_R := m_ao (some a0) 10 fun a3 => m_bR (f_X10_workAt a3 x1 h) fun h1 o2 => m_ao (some a0) 10 fun a6 => m_bI (f_X10_placesOf a6 o2 x2 h1) fun h4 v5 => m_ri h4 v5
theorem k_X10_under (d : Nat) (hd : 8 ≤ d) (a0 : Nat × Nat) (x1 : Int32) (x2 : Int32) (h : am_H) : am_Con m_X10_under d [.inr (.inr (some a0)), .inl x1, .inl x2] h (f_X10_under a0 x1 x2 h) := am_con (by decide +kernel) (Nat.le_of_ble_eq_true rfl) (by
  unfold f_X10_under
  refine sim_aload_n dX10_under_0 rfl ?_
  refine sim_aload_n dX10_under_1 rfl ?_
  refine sim_iload_n dX10_under_2 rfl ?_
  refine sim_ao1 (fun a3 e => ?_)
  refine sim_virt (d - 1) e dX10_under_3 (k_X10_workAt (d - 1) (by omega) _ _ _) q_X10_workAt rfl rfl wm_RX10_112 rfl rfl (by omega) (Nat.le_of_ble_eq_true rfl) am_nR (am_rR fun h1 o2 => ?_) am_eR
  refine sim_iload_n dX10_under_6 rfl ?_
  refine sim_ao2 (fun a6 e => ?_)
  refine sim_virt (d - 1) e dX10_under_7 (k_X10_placesOf (d - 1) (by omega) _ _ _ _) q_X10_placesOf rfl rfl wm_RX10_247 rfl rfl (by omega) (Nat.le_of_ble_eq_true rfl) am_nI (am_rI fun h4 v5 => ?_) am_eI
  exact sim_iret dX10_under_10 rfl)
theorem q_X10_under : am_Cal m_X10_under 2 2 := ⟨am_mem 792 (w := Cond.code yX10_under cX10_under 3 (some .int)) (by decide +kernel) rfl, am_mem 56 (w := Cond.initialized RX10) (by decide +kernel) rfl, fun z => absurd z (by decide), fun _ => am_mem 790 (w := Cond.instanceMethod yX10_under) (by decide +kernel) rfl, fun z => absurd z (by decide), fun _ => am_mem 791 (w := Cond.selects RX10 yX10_under yX10_under) (by decide +kernel) rfl, by decide +kernel, by decide +kernel, Nat.le_of_ble_eq_true rfl⟩
abbrev m_L_under : am_M := (yL_under, cL_under, 5, some .int, [(0, 10, 13, 21)])
def f_L_under (x0 : Option (Nat × Nat)) (x1 : Int32) (x2 : Int32) (x3 : Option (Nat × Nat)) (h : am_H) : am_R := m_ao x0 10 fun a3 => m_bIx (f_X10_under a3 x1 x2 h) (fun h1 v2 => m_sL x3 (0 : Int32) (Int32.toInt64 v2) h1 fun h6 => m_ri h6 (0 : Int32)) (fun h4 e5 => if e5 = 0 then (m_ri h4 (1 : Int32)) else none)
theorem k_L_under (d : Nat) (hd : 9 ≤ d) (x0 : Option (Nat × Nat)) (x1 : Int32) (x2 : Int32) (x3 : Option (Nat × Nat)) (h : am_H) : am_Con m_L_under d [.inr (.inr x0), .inl x1, .inl x2, .inr (.inr x3)] h (f_L_under x0 x1 x2 x3 h) := am_conX (by decide +kernel) (Nat.le_of_ble_eq_true rfl) (by
  unfold f_L_under
  refine sim_aload_n dL_under_0 rfl ?_
  refine sim_iconst (0) dL_under_1 (by decide +kernel) ?_
  refine sim_aload_n dL_under_2 rfl ?_
  refine sim_iload_n dL_under_3 rfl ?_
  refine sim_iload_n dL_under_4 rfl ?_
  refine sim_ao2 (fun a3 e => ?_)
  refine sim_virt (d - 1) e dL_under_5 (k_X10_under (d - 1) (by omega) _ _ _ _) q_X10_under rfl rfl wm_RL_82 rfl rfl (by omega) (Nat.le_of_ble_eq_true rfl) am_nIx (am_rIx fun h1 v2 => ?_) (am_eIx fun h9 k9 => ?_)
  · refine sim_i2l dL_under_8 ?_
    refine sim_sL dL_under_9 (fun h6 => ?_)
    refine sim_goto 17 dL_under_10 (by decide) ?_
    refine sim_iconst (0) dL_under_17 (by decide +kernel) ?_
    exact sim_iret dL_under_18 rfl
  · refine simx_case (fun cx => ?_) (fun cx => ?_)
    · subst cx
      refine simx_catch [] (0, 10, 13, 21) [] rfl ⟨by decide, by decide⟩ (by decide) wx_RL_21 wca_0 (by decide) (fun z hz => by cases hz) ?_
      refine sim_astore dL_under_13 (Nat.le_of_ble_eq_true rfl) ?_
      refine sim_iconst (1) dL_under_15 (by decide +kernel) ?_
      exact sim_iret dL_under_16 rfl
    exact simx_none)
theorem q_L_under : am_Cal m_L_under 4 0 := ⟨am_mem 788 (w := Cond.codeWith yL_under cL_under 5 (some .int) [(0, 10, 13, 21)]) (by decide +kernel) rfl, am_mem 55 (w := Cond.initialized RL) (by decide +kernel) rfl, fun _ => am_mem 787 (w := Cond.static yL_under) (by decide +kernel) rfl, fun z => absurd rfl z, fun z => absurd z (by decide), fun z => absurd z (by decide), by decide +kernel, by decide +kernel, Nat.le_of_ble_eq_true rfl⟩
abbrev m_X10_wave : am_M := (yX10_wave, cX10_wave, 5, some .int, [])
def f_X10_wave_80  (x2 : Int32) (h : am_H) : am_R := m_ri h x2
theorem t_X10_wave_80 (d : Nat) (hd : 6 ≤ d)  (x2 : Int32) (h : am_H) : Sim m_X10_wave d 80 [none, none, some (.inl x2), none, none] [] h (f_X10_wave_80  x2 h) := by
  unfold f_X10_wave_80
  refine sim_iload_n dX10_wave_80 rfl ?_
  exact sim_iret dX10_wave_81 rfl
def f_X10_wave_74 (rc25 : Nat × Nat → Int32 → Int32 → Int32 → am_H → am_R) (a0 : Nat × Nat) (x1 : Int32) (x2 : Int32) (x3 : Int32) (h : am_H) : am_R := rc25 a0 x1 x2 (x3 + 1) h
theorem t_X10_wave_74 (d : Nat) (hd : 6 ≤ d) (rc25 : Nat × Nat → Int32 → Int32 → Int32 → am_H → am_R) (hrc25 : ∀ a0 x1 x2 x3 h, Sim m_X10_wave d 25 [some (.inr (.inr (some a0))), some (.inl x1), some (.inl x2), some (.inl x3), none] [] h (rc25 a0 x1 x2 x3 h)) (a0 : Nat × Nat) (x1 : Int32) (x2 : Int32) (x3 : Int32) (h : am_H) : Sim m_X10_wave d 74 [some (.inr (.inr (some a0))), some (.inl x1), some (.inl x2), some (.inl x3), none] [] h (f_X10_wave_74 rc25 a0 x1 x2 x3 h) := by
  unfold f_X10_wave_74
  refine sim_iinc (1) dX10_wave_74 rfl (by decide +kernel) (Nat.le_of_ble_eq_true rfl) ?_
  refine sim_goto 25 dX10_wave_77 (by decide) ?_
  exact sim_lv (am_leS (am_leS (am_leS (am_leS (am_leN am_leT))))) (hrc25 _ _ _ _ _)
def f_X10_wave_25  : Nat → Nat × Nat → Int32 → Int32 → Int32 → am_H → am_R
  | 0, _, _, _, _, _ => none
  | n + 1, a0, x1, x2, x3, h => m_gI (some a0) 10 4 h fun v1 => if v1 ≤ x3 then (f_X10_wave_80 x2 h) else (if x1 ≤ x2 then (f_X10_wave_80 x2 h) else (m_gR (some a0) 10 3 h fun o2 => m_aR o2 5 x3 h fun o3 => m_gI o3 9 9 h fun v4 => if v4 = 0 then (f_X10_wave_74 (f_X10_wave_25  n) a0 x1 x2 x3 h) else (m_gR (some a0) 10 7 h fun o5 => m_gI o3 9 7 h fun v6 => m_ao o5 7 fun a9 => m_bI (f_X7_belongUnder a9 v6 h) fun h7 v8 => m_ao o3 9 fun a12 => m_bV (f_X9_fileUnder a12 v8 h7) fun h10 => f_X10_wave_74 (f_X10_wave_25  n) a0 x1 (x2 + 1) x3 h10)))
theorem t_X10_wave_25 (d : Nat) (hd : 6 ≤ d)  : ∀ (n : Nat) (a0 : Nat × Nat) (x1 : Int32) (x2 : Int32) (x3 : Int32) (h : am_H), Sim m_X10_wave d 25 [some (.inr (.inr (some a0))), some (.inl x1), some (.inl x2), some (.inl x3), none] [] h (f_X10_wave_25  n a0 x1 x2 x3 h) := by
  intro n
  induction n with
  | zero => intros; exact sim_none
  | succ n hrc25 =>
    intro a0 x1 x2 x3 h
    rw [f_X10_wave_25]
    refine sim_iload_n dX10_wave_25 rfl ?_
    refine sim_aload_n dX10_wave_26 rfl ?_
    refine sim_gI 10 4 dX10_wave_27 rfl wf_RX10_104 (Nat.le_of_ble_eq_true rfl) rfl (fun v1 => ?_)
    refine sim_ic_ge 80 dX10_wave_30 (by decide) (fun c => ?_) (fun c => ?_)
    · exact sim_lv (am_leN (am_leN (am_leS (am_leN (am_leN am_leT))))) (t_X10_wave_80 d (by omega) _ _)
    · refine sim_iload_n dX10_wave_33 rfl ?_
      refine sim_iload_n dX10_wave_34 rfl ?_
      refine sim_ic_ge 80 dX10_wave_35 (by decide) (fun c => ?_) (fun c => ?_)
      · exact sim_lv (am_leN (am_leN (am_leS (am_leN (am_leN am_leT))))) (t_X10_wave_80 d (by omega) _ _)
      · refine sim_aload_n dX10_wave_38 rfl ?_
        refine sim_gR 10 3 dX10_wave_39 rfl wf_RX10_21 (Nat.le_of_ble_eq_true rfl) rfl (fun o2 => ?_)
        refine sim_iload_n dX10_wave_42 rfl ?_
        refine sim_aR 5 rfl dX10_wave_43 (fun o3 => ?_)
        refine sim_astore dX10_wave_44 (Nat.le_of_ble_eq_true rfl) ?_
        refine sim_aload dX10_wave_46 rfl ?_
        refine sim_gI 9 9 dX10_wave_48 rfl wf_RX10_244 (Nat.le_of_ble_eq_true rfl) rfl (fun v4 => ?_)
        refine sim_if_eq 74 dX10_wave_51 (by decide) (fun c => ?_) (fun c => ?_)
        · exact sim_lv (am_leS (am_leS (am_leS (am_leS (am_leN am_leT))))) (t_X10_wave_74 d (by omega) _ hrc25 _ _ _ _ _)
        · refine sim_aload dX10_wave_54 rfl ?_
          refine sim_aload_n dX10_wave_56 rfl ?_
          refine sim_gR 10 7 dX10_wave_57 rfl wf_RX10_34 (Nat.le_of_ble_eq_true rfl) rfl (fun o5 => ?_)
          refine sim_aload dX10_wave_60 rfl ?_
          refine sim_gI 9 7 dX10_wave_62 rfl wf_RX10_234 (Nat.le_of_ble_eq_true rfl) rfl (fun v6 => ?_)
          refine sim_ao1 (fun a9 e => ?_)
          refine sim_virt (d - 1) e dX10_wave_65 (k_X7_belongUnder (d - 1) (by omega) _ _ _) q_X7_belongUnder rfl rfl wm_RX10_236 rfl rfl (by omega) (Nat.le_of_ble_eq_true rfl) am_nI (am_rI fun h7 v8 => ?_) am_eI
          refine sim_ao1 (fun a12 e => ?_)
          refine sim_virt (d - 1) e dX10_wave_68 (k_X9_fileUnder (d - 1) (by omega) _ _ _) q_X9_fileUnder rfl rfl wm_RX10_239 rfl rfl (by omega) (Nat.le_of_ble_eq_true rfl) am_nV (am_rV fun h10 => ?_) am_eV
          refine sim_iinc (1) dX10_wave_71 rfl (by decide +kernel) (Nat.le_of_ble_eq_true rfl) ?_
          exact sim_lv (am_leS (am_leS (am_leS (am_leS (am_leN am_leT))))) (t_X10_wave_74 d (by omega) _ hrc25 _ _ _ _ _)
def f_X10_wave_11   (h : am_H) : am_R := m_ex h 1
theorem t_X10_wave_11 (d : Nat) (hd : 6 ≤ d)   (h : am_H) : Sim m_X10_wave d 11 [none, none, none, none, none] [] h (f_X10_wave_11   h) := by
  unfold f_X10_wave_11
  exact sim_throw 1 (by decide) dX10_wave_11 dX10_wave_14 dX10_wave_15 dX10_wave_17 dX10_wave_20 wx_RX10_66 wy_1 ws_RX10_242 at_RX10_70 gd_RX10_70 (by omega) (Nat.le_of_ble_eq_true rfl)
def f_X10_wave (a0 : Nat × Nat) (x1 : Int32) (h : am_H) : am_R := if x1 < (1 : Int32) then (f_X10_wave_11 h) else (if x1 ≤ (20 : Int32) then (f_X10_wave_25 5000 a0 x1 (0 : Int32) (0 : Int32) h) else (f_X10_wave_11 h))
theorem k_X10_wave (d : Nat) (hd : 6 ≤ d) (a0 : Nat × Nat) (x1 : Int32) (h : am_H) : am_Con m_X10_wave d [.inr (.inr (some a0)), .inl x1] h (f_X10_wave a0 x1 h) := am_con (by decide +kernel) (Nat.le_of_ble_eq_true rfl) (by
  unfold f_X10_wave
  refine sim_iload_n dX10_wave_0 rfl ?_
  refine sim_iconst (1) dX10_wave_1 (by decide +kernel) ?_
  refine sim_ic_lt 11 dX10_wave_2 (by decide) (fun c => ?_) (fun c => ?_)
  · exact sim_lv (am_leN (am_leN (am_leN (am_leN (am_leN am_leT))))) (t_X10_wave_11 d (by omega) _)
  · refine sim_iload_n dX10_wave_5 rfl ?_
    refine sim_bipush (20) dX10_wave_6 (by decide +kernel) ?_
    refine sim_ic_le 21 dX10_wave_8 (by decide) (fun c => ?_) (fun c => ?_)
    · refine sim_iconst (0) dX10_wave_21 (by decide +kernel) ?_
      refine sim_istore_n dX10_wave_22 (Nat.le_of_ble_eq_true rfl) ?_
      refine sim_iconst (0) dX10_wave_23 (by decide +kernel) ?_
      refine sim_istore_n dX10_wave_24 (Nat.le_of_ble_eq_true rfl) ?_
      exact sim_lv (am_leS (am_leS (am_leS (am_leS (am_leN am_leT))))) (t_X10_wave_25 d (by omega) _ _ _ _ _ _)
    · exact sim_lv (am_leN (am_leN (am_leN (am_leN (am_leN am_leT))))) (t_X10_wave_11 d (by omega) _))
theorem q_X10_wave : am_Cal m_X10_wave 1 2 := ⟨am_mem 784 (w := Cond.code yX10_wave cX10_wave 5 (some .int)) (by decide +kernel) rfl, am_mem 56 (w := Cond.initialized RX10) (by decide +kernel) rfl, fun z => absurd z (by decide), fun _ => am_mem 782 (w := Cond.instanceMethod yX10_wave) (by decide +kernel) rfl, fun z => absurd z (by decide), fun _ => am_mem 783 (w := Cond.selects RX10 yX10_wave yX10_wave) (by decide +kernel) rfl, by decide +kernel, by decide +kernel, Nat.le_of_ble_eq_true rfl⟩
abbrev m_L_wave : am_M := (yL_wave, cL_wave, 4, some .int, [(0, 9, 12, 13)])
def f_L_wave (x0 : Option (Nat × Nat)) (x1 : Int32) (x2 : Option (Nat × Nat)) (h : am_H) : am_R := m_ao x0 10 fun a3 => m_bIx (f_X10_wave a3 x1 h) (fun h1 v2 => m_sL x2 (0 : Int32) (Int32.toInt64 v2) h1 fun h6 => m_ri h6 (0 : Int32)) (fun h4 e5 => if e5 = 1 then (m_ri h4 (1 : Int32)) else none)
theorem k_L_wave (d : Nat) (hd : 7 ≤ d) (x0 : Option (Nat × Nat)) (x1 : Int32) (x2 : Option (Nat × Nat)) (h : am_H) : am_Con m_L_wave d [.inr (.inr x0), .inl x1, .inr (.inr x2)] h (f_L_wave x0 x1 x2 h) := am_conX (by decide +kernel) (Nat.le_of_ble_eq_true rfl) (by
  unfold f_L_wave
  refine sim_aload_n dL_wave_0 rfl ?_
  refine sim_iconst (0) dL_wave_1 (by decide +kernel) ?_
  refine sim_aload_n dL_wave_2 rfl ?_
  refine sim_iload_n dL_wave_3 rfl ?_
  refine sim_ao1 (fun a3 e => ?_)
  refine sim_virt (d - 1) e dL_wave_4 (k_X10_wave (d - 1) (by omega) _ _ _) q_X10_wave rfl rfl wm_RL_79 rfl rfl (by omega) (Nat.le_of_ble_eq_true rfl) am_nIx (am_rIx fun h1 v2 => ?_) (am_eIx fun h9 k9 => ?_)
  · refine sim_i2l dL_wave_7 ?_
    refine sim_sL dL_wave_8 (fun h6 => ?_)
    refine sim_goto 15 dL_wave_9 (by decide) ?_
    refine sim_iconst (0) dL_wave_15 (by decide +kernel) ?_
    exact sim_iret dL_wave_16 rfl
  · refine simx_case (fun cx => ?_) (fun cx => ?_)
    · subst cx
      refine simx_catch [] (0, 9, 12, 13) [] rfl ⟨by decide, by decide⟩ (by decide) wx_RL_13 wca_1 (by decide) (fun z hz => by cases hz) ?_
      refine sim_astore_n dL_wave_12 (Nat.le_of_ble_eq_true rfl) ?_
      refine sim_iconst (1) dL_wave_13 (by decide +kernel) ?_
      exact sim_iret dL_wave_14 rfl
    exact simx_none)
theorem q_L_wave : am_Cal m_L_wave 3 0 := ⟨am_mem 780 (w := Cond.codeWith yL_wave cL_wave 4 (some .int) [(0, 9, 12, 13)]) (by decide +kernel) rfl, am_mem 55 (w := Cond.initialized RL) (by decide +kernel) rfl, fun _ => am_mem 779 (w := Cond.static yL_wave) (by decide +kernel) rfl, fun z => absurd rfl z, fun z => absurd z (by decide), fun z => absurd z (by decide), by decide +kernel, by decide +kernel, Nat.le_of_ble_eq_true rfl⟩
abbrev m_X9_init : am_M := (yX9_init, cX9_init, 3, none, [])
def f_X9_init (a0 : Nat × Nat) (x1 : Int32) (x2 : Int32) (h : am_H) : am_R := m_new 16 8 h fun a1 h2 => m_pR (some a0) 9 2 (some a1) h2 fun h3 => m_pI (some a0) 9 4 (-1 : Int32) h3 fun h4 => m_pI (some a0) 9 1 ((1 : Int32) <<< (x1 &&& 31)) h4 fun h5 => m_pI (some a0) 9 0 x2 h5 fun h6 => m_rt h6 none
theorem k_X9_init (d : Nat) (hd : 1 ≤ d) (a0 : Nat × Nat) (x1 : Int32) (x2 : Int32) (h : am_H) : am_Con m_X9_init d [.inr (.inr (some a0)), .inl x1, .inl x2] h (f_X9_init a0 x1 x2 h) := am_con (by decide +kernel) (Nat.le_of_ble_eq_true rfl) (by
  unfold f_X9_init
  refine sim_aload_n dX9_init_0 rfl ?_
  refine sim_obj dX9_init_1 wm_RX9_3 wobj_i wobj_c (by omega) (Nat.le_of_ble_eq_true rfl) ?_
  refine sim_aload_n dX9_init_4 rfl ?_
  refine sim_bipush (8) dX9_init_5 (by decide +kernel) ?_
  refine sim_nwI 16 0 8 dX9_init_7 rfl rfl rfl (by decide +kernel) (Nat.le_of_ble_eq_true rfl) (fun _ => rfl) rfl (Nat.le_of_ble_eq_true rfl) wa_int (fun a1 h2 => ?_)
  refine sim_pR 9 2 dX9_init_9 rfl wf_RX9_9 (Nat.le_of_ble_eq_true rfl) rfl (Or.inr ⟨rfl, rfl, rfl⟩) (fun h3 => ?_)
  refine sim_aload_n dX9_init_12 rfl ?_
  refine sim_iconst (-1) dX9_init_13 (by decide +kernel) ?_
  refine sim_pI 9 4 dX9_init_14 rfl wf_RX9_15 (Nat.le_of_ble_eq_true rfl) rfl (Or.inl rfl) rfl (fun h4 => ?_)
  refine sim_aload_n dX9_init_17 rfl ?_
  refine sim_iconst (1) dX9_init_18 (by decide +kernel) ?_
  refine sim_iload_n dX9_init_19 rfl ?_
  refine sim_ishl dX9_init_20 ?_
  refine sim_pI 9 1 dX9_init_21 rfl wf_RX9_19 (Nat.le_of_ble_eq_true rfl) rfl (Or.inl rfl) rfl (fun h5 => ?_)
  refine sim_aload_n dX9_init_24 rfl ?_
  refine sim_iload_n dX9_init_25 rfl ?_
  refine sim_pI 9 0 dX9_init_26 rfl wf_RX9_22 (Nat.le_of_ble_eq_true rfl) rfl (Or.inr ⟨rfl, rfl, rfl⟩) rfl (fun h6 => ?_)
  exact sim_vret dX9_init_29 rfl)
theorem q_X9_init : am_Cal m_X9_init 2 1 := ⟨am_mem 502 (w := Cond.code yX9_init cX9_init 3 none) (by decide +kernel) rfl, am_mem 71 (w := Cond.initialized RX9) (by decide +kernel) rfl, fun z => absurd z (by decide), fun _ => am_mem 501 (w := Cond.instanceMethod yX9_init) (by decide +kernel) rfl, fun _ => rfl, fun z => absurd z (by decide), by decide +kernel, by decide +kernel, Nat.le_of_ble_eq_true rfl⟩
abbrev m_X10_work : am_M := (yX10_work, cX10_work, 3, some .int, [])
def f_X10_work_13   (h : am_H) : am_R := m_ex h 1
theorem t_X10_work_13 (d : Nat) (hd : 7 ≤ d)   (h : am_H) : Sim m_X10_work d 13 [none, none, none] [] h (f_X10_work_13   h) := by
  unfold f_X10_work_13
  exact sim_throw 1 (by decide) dX10_work_13 dX10_work_16 dX10_work_17 dX10_work_19 dX10_work_22 wx_RX10_66 wy_1 ws_RX10_102 at_RX10_70 gd_RX10_70 (by omega) (Nat.le_of_ble_eq_true rfl)
def f_X10_work (a0 : Nat × Nat) (x1 : Int32) (x2 : Int32) (h : am_H) : am_R := m_bV (f_X10_checkPerson x1 h) fun h1 => if x2 < 0 then (f_X10_work_13 h1) else (if x2 ≤ (3 : Int32) then (m_gI (some a0) 10 4 h1 fun v3 => if v3 < (20 : Int32) then (m_gR (some a0) 10 3 h1 fun o4 => m_gI (some a0) 10 4 h1 fun v5 => m_new 27 12 h1 fun a6 h7 => m_bW (f_X9_init a6 x1 x2 h7) fun h8 => m_sR o4 5 9 v5 (some a6) h8 fun h10 => m_gI (some a0) 10 4 h10 fun v11 => m_pI (some a0) 10 4 (v11 + (1 : Int32)) h10 fun h12 => m_gI (some a0) 10 4 h12 fun v13 => m_ri h12 (v13 - (1 : Int32))) else (m_ex h1 2)) else (f_X10_work_13 h1))
theorem k_X10_work (d : Nat) (hd : 7 ≤ d) (a0 : Nat × Nat) (x1 : Int32) (x2 : Int32) (h : am_H) : am_Con m_X10_work d [.inr (.inr (some a0)), .inl x1, .inl x2] h (f_X10_work a0 x1 x2 h) := am_con (by decide +kernel) (Nat.le_of_ble_eq_true rfl) (by
  unfold f_X10_work
  refine sim_iload_n dX10_work_0 rfl ?_
  refine sim_static (d - 1) dX10_work_1 (k_X10_checkPerson (d - 1) (by omega) _ _) q_X10_checkPerson wm_RX10_82 rfl rfl (by omega) (Nat.le_of_ble_eq_true rfl) am_nV (am_rV fun h1 => ?_) am_eV
  refine sim_iload_n dX10_work_4 rfl ?_
  refine sim_if_lt 13 dX10_work_5 (by decide) (fun c => ?_) (fun c => ?_)
  · exact sim_lv (am_leN (am_leN (am_leN am_leT))) (t_X10_work_13 d (by omega) _)
  · refine sim_iload_n dX10_work_8 rfl ?_
    refine sim_iconst (3) dX10_work_9 (by decide +kernel) ?_
    refine sim_ic_le 23 dX10_work_10 (by decide) (fun c => ?_) (fun c => ?_)
    · refine sim_aload_n dX10_work_23 rfl ?_
      refine sim_gI 10 4 dX10_work_24 rfl wf_RX10_104 (Nat.le_of_ble_eq_true rfl) rfl (fun v3 => ?_)
      refine sim_bipush (20) dX10_work_27 (by decide +kernel) ?_
      refine sim_ic_lt 42 dX10_work_29 (by decide) (fun c => ?_) (fun c => ?_)
      · refine sim_aload_n dX10_work_42 rfl ?_
        refine sim_gR 10 3 dX10_work_43 rfl wf_RX10_21 (Nat.le_of_ble_eq_true rfl) rfl (fun o4 => ?_)
        refine sim_aload_n dX10_work_46 rfl ?_
        refine sim_gI 10 4 dX10_work_47 rfl wf_RX10_104 (Nat.le_of_ble_eq_true rfl) rfl (fun v5 => ?_)
        refine sim_nw 27 9 12 dX10_work_50 rfl rfl wc_RX10_19 wi_RX9 wz_RX9 (fun a6 h7 => ?_)
        refine sim_dup_r dX10_work_53 ?_
        refine sim_iload_n dX10_work_54 rfl ?_
        refine sim_iload_n dX10_work_55 rfl ?_
        refine sim_ctor (d - 1) dX10_work_56 (k_X9_init (d - 1) (by omega) _ _ _ _) q_X9_init wm_RX10_109 rfl rfl (by omega) (Nat.le_of_ble_eq_true rfl) am_nW am_xW (am_rW fun h8 => ?_)
        refine sim_sR 5 rfl dX10_work_59 (fun h10 => ?_)
        refine sim_aload_n dX10_work_60 rfl ?_
        refine sim_dup_r dX10_work_61 ?_
        refine sim_gI 10 4 dX10_work_62 rfl wf_RX10_104 (Nat.le_of_ble_eq_true rfl) rfl (fun v11 => ?_)
        refine sim_iconst (1) dX10_work_65 (by decide +kernel) ?_
        refine sim_iadd dX10_work_66 ?_
        refine sim_pI 10 4 dX10_work_67 rfl wf_RX10_104 (Nat.le_of_ble_eq_true rfl) rfl (Or.inl rfl) rfl (fun h12 => ?_)
        refine sim_aload_n dX10_work_70 rfl ?_
        refine sim_gI 10 4 dX10_work_71 rfl wf_RX10_104 (Nat.le_of_ble_eq_true rfl) rfl (fun v13 => ?_)
        refine sim_iconst (1) dX10_work_74 (by decide +kernel) ?_
        refine sim_isub dX10_work_75 ?_
        exact sim_iret dX10_work_76 rfl
      · exact sim_throw 2 (by decide) dX10_work_32 dX10_work_35 dX10_work_36 dX10_work_38 dX10_work_41 wx_RX10_77 wy_2 ws_RX10_107 at_RX10_81 gd_RX10_81 (by omega) (Nat.le_of_ble_eq_true rfl)
    · exact sim_lv (am_leN (am_leN (am_leN am_leT))) (t_X10_work_13 d (by omega) _))
theorem q_X10_work : am_Cal m_X10_work 2 2 := ⟨am_mem 496 (w := Cond.code yX10_work cX10_work 3 (some .int)) (by decide +kernel) rfl, am_mem 56 (w := Cond.initialized RX10) (by decide +kernel) rfl, fun z => absurd z (by decide), fun _ => am_mem 494 (w := Cond.instanceMethod yX10_work) (by decide +kernel) rfl, fun z => absurd z (by decide), fun _ => am_mem 495 (w := Cond.selects RX10 yX10_work yX10_work) (by decide +kernel) rfl, by decide +kernel, by decide +kernel, Nat.le_of_ble_eq_true rfl⟩
abbrev m_L_work : am_M := (yL_work, cL_work, 5, some .int, [(0, 10, 13, 21), (0, 10, 17, 13), (0, 10, 21, 15)])
def f_L_work (x0 : Option (Nat × Nat)) (x1 : Int32) (x2 : Int32) (x3 : Option (Nat × Nat)) (h : am_H) : am_R := m_ao x0 10 fun a3 => m_bIx (f_X10_work a3 x1 x2 h) (fun h1 v2 => m_sL x3 (0 : Int32) (Int32.toInt64 v2) h1 fun h6 => m_ri h6 (0 : Int32)) (fun h4 e5 => if e5 = 0 then (m_ri h4 (1 : Int32)) else if e5 = 1 then (m_ri h4 (2 : Int32)) else if e5 = 2 then (m_ri h4 (3 : Int32)) else none)
theorem k_L_work (d : Nat) (hd : 8 ≤ d) (x0 : Option (Nat × Nat)) (x1 : Int32) (x2 : Int32) (x3 : Option (Nat × Nat)) (h : am_H) : am_Con m_L_work d [.inr (.inr x0), .inl x1, .inl x2, .inr (.inr x3)] h (f_L_work x0 x1 x2 x3 h) := am_conX (by decide +kernel) (Nat.le_of_ble_eq_true rfl) (by
  unfold f_L_work
  refine sim_aload_n dL_work_0 rfl ?_
  refine sim_iconst (0) dL_work_1 (by decide +kernel) ?_
  refine sim_aload_n dL_work_2 rfl ?_
  refine sim_iload_n dL_work_3 rfl ?_
  refine sim_iload_n dL_work_4 rfl ?_
  refine sim_ao2 (fun a3 e => ?_)
  refine sim_virt (d - 1) e dL_work_5 (k_X10_work (d - 1) (by omega) _ _ _ _) q_X10_work rfl rfl wm_RL_27 rfl rfl (by omega) (Nat.le_of_ble_eq_true rfl) am_nIx (am_rIx fun h1 v2 => ?_) (am_eIx fun h9 k9 => ?_)
  · refine sim_i2l dL_work_8 ?_
    refine sim_sL dL_work_9 (fun h6 => ?_)
    refine sim_goto 25 dL_work_10 (by decide) ?_
    refine sim_iconst (0) dL_work_25 (by decide +kernel) ?_
    exact sim_iret dL_work_26 rfl
  · refine simx_case (fun cx => ?_) (fun cx => ?_)
    · subst cx
      refine simx_catch [] (0, 10, 13, 21) [(0, 10, 17, 13), (0, 10, 21, 15)] rfl ⟨by decide, by decide⟩ (by decide) wx_RL_21 wca_0 (by decide) (fun z hz => by cases hz) ?_
      refine sim_astore dL_work_13 (Nat.le_of_ble_eq_true rfl) ?_
      refine sim_iconst (1) dL_work_15 (by decide +kernel) ?_
      exact sim_iret dL_work_16 rfl
    refine simx_case (fun cx => ?_) (fun cx => ?_)
    · subst cx
      refine simx_catch [(0, 10, 13, 21)] (0, 10, 17, 13) [(0, 10, 21, 15)] rfl ⟨by decide, by decide⟩ (by decide) wx_RL_13 wca_1 (by decide) (fun z hz => by simp only [List.mem_cons, List.not_mem_nil, or_false] at hz; subst hz; exact ⟨by decide, 0, _, by decide, by decide, wx_RL_21⟩) ?_
      refine sim_astore dL_work_17 (Nat.le_of_ble_eq_true rfl) ?_
      refine sim_iconst (2) dL_work_19 (by decide +kernel) ?_
      exact sim_iret dL_work_20 rfl
    refine simx_case (fun cx => ?_) (fun cx => ?_)
    · subst cx
      refine simx_catch [(0, 10, 13, 21), (0, 10, 17, 13)] (0, 10, 21, 15) [] rfl ⟨by decide, by decide⟩ (by decide) wx_RL_15 wca_2 (by decide) (fun z hz => by
        simp only [List.mem_cons, List.not_mem_nil, or_false] at hz
        rcases hz with rfl | rfl
        · exact ⟨by decide, 0, _, by decide, by decide, wx_RL_21⟩
        · exact ⟨by decide, 1, _, by decide, by decide, wx_RL_13⟩) ?_
      refine sim_astore dL_work_21 (Nat.le_of_ble_eq_true rfl) ?_
      refine sim_iconst (3) dL_work_23 (by decide +kernel) ?_
      exact sim_iret dL_work_24 rfl
    exact simx_none)
theorem q_L_work : am_Cal m_L_work 4 0 := ⟨am_mem 492 (w := Cond.codeWith yL_work cL_work 5 (some .int) [(0, 10, 13, 21), (0, 10, 17, 13), (0, 10, 21, 15)]) (by decide +kernel) rfl, am_mem 55 (w := Cond.initialized RL) (by decide +kernel) rfl, fun _ => am_mem 491 (w := Cond.static yL_work) (by decide +kernel) rfl, fun z => absurd rfl z, fun z => absurd z (by decide), fun z => absurd z (by decide), by decide +kernel, by decide +kernel, Nat.le_of_ble_eq_true rfl⟩
abbrev m_X10_fault : am_M := (yX10_fault, cX10_fault, 1, some .int, [])
def f_X10_fault (a0 : Nat × Nat) (h : am_H) : am_R := m_gR (some a0) 10 8 h fun o1 => m_ao o1 8 fun a4 => m_bI (f_X8_firstFault a4 h) fun h2 v3 => m_ri h2 v3
theorem k_X10_fault (d : Nat) (hd : 4 ≤ d) (a0 : Nat × Nat) (h : am_H) : am_Con m_X10_fault d [.inr (.inr (some a0))] h (f_X10_fault a0 h) := am_con (by decide +kernel) (Nat.le_of_ble_eq_true rfl) (by
  unfold f_X10_fault
  refine sim_aload_n dX10_fault_0 rfl ?_
  refine sim_gR 10 8 dX10_fault_1 rfl wf_RX10_41 (Nat.le_of_ble_eq_true rfl) rfl (fun o1 => ?_)
  refine sim_ao0 (fun a4 e => ?_)
  refine sim_virt (d - 1) e dX10_fault_4 (k_X8_firstFault (d - 1) (by omega) _  _) q_X8_firstFault rfl rfl wm_RX10_271 rfl rfl (by omega) (Nat.le_of_ble_eq_true rfl) am_nI (am_rI fun h2 v3 => ?_) am_eI
  exact sim_iret dX10_fault_7 rfl)
theorem q_X10_fault : am_Cal m_X10_fault 0 2 := ⟨am_mem 279 (w := Cond.code yX10_fault cX10_fault 1 (some .int)) (by decide +kernel) rfl, am_mem 56 (w := Cond.initialized RX10) (by decide +kernel) rfl, fun z => absurd z (by decide), fun _ => am_mem 277 (w := Cond.instanceMethod yX10_fault) (by decide +kernel) rfl, fun z => absurd z (by decide), fun _ => am_mem 278 (w := Cond.selects RX10 yX10_fault yX10_fault) (by decide +kernel) rfl, by decide +kernel, by decide +kernel, Nat.le_of_ble_eq_true rfl⟩
abbrev m_X2_init : am_M := (yX2_init, cX2_init, 1, none, [])
def f_X2_init (a0 : Nat × Nat) (h : am_H) : am_R := m_new 2 8 h fun a1 h2 => m_pR (some a0) 2 0 (some a1) h2 fun h3 => m_new 3 8 h3 fun a4 h5 => m_pR (some a0) 2 2 (some a4) h5 fun h6 => m_new 4 256 h6 fun a7 h8 => m_pR (some a0) 2 3 (some a7) h8 fun h9 => m_rt h9 none
theorem k_X2_init (d : Nat) (hd : 1 ≤ d) (a0 : Nat × Nat) (h : am_H) : am_Con m_X2_init d [.inr (.inr (some a0))] h (f_X2_init a0 h) := am_con (by decide +kernel) (Nat.le_of_ble_eq_true rfl) (by
  unfold f_X2_init
  refine sim_aload_n dX2_init_0 rfl ?_
  refine sim_obj dX2_init_1 wm_RX2_3 wobj_i wobj_c (by omega) (Nat.le_of_ble_eq_true rfl) ?_
  refine sim_aload_n dX2_init_4 rfl ?_
  refine sim_bipush (8) dX2_init_5 (by decide +kernel) ?_
  refine sim_nwR 2 8 8 dX2_init_7 rfl rfl rfl (by decide +kernel) (Nat.le_of_ble_eq_true rfl) wc_RX2_9 wo_RX6 (fun a1 h2 => ?_)
  refine sim_pR 2 0 dX2_init_10 rfl wf_RX2_11 (Nat.le_of_ble_eq_true rfl) rfl (Or.inr ⟨rfl, rfl, rfl⟩) (fun h3 => ?_)
  refine sim_aload_n dX2_init_13 rfl ?_
  refine sim_bipush (8) dX2_init_14 (by decide +kernel) ?_
  refine sim_nwI 3 0 8 dX2_init_16 rfl rfl rfl (by decide +kernel) (Nat.le_of_ble_eq_true rfl) (fun _ => rfl) rfl (Nat.le_of_ble_eq_true rfl) wa_int (fun a4 h5 => ?_)
  refine sim_pR 2 2 dX2_init_18 rfl wf_RX2_17 (Nat.le_of_ble_eq_true rfl) rfl (Or.inr ⟨rfl, rfl, rfl⟩) (fun h6 => ?_)
  refine sim_aload_n dX2_init_21 rfl ?_
  refine sim_sipush (256) dX2_init_22 (by decide +kernel) ?_
  refine sim_nwI 4 0 256 dX2_init_25 rfl rfl rfl (by decide +kernel) (Nat.le_of_ble_eq_true rfl) (fun _ => rfl) rfl (Nat.le_of_ble_eq_true rfl) wa_int (fun a7 h8 => ?_)
  refine sim_pR 2 3 dX2_init_27 rfl wf_RX2_21 (Nat.le_of_ble_eq_true rfl) rfl (Or.inr ⟨rfl, rfl, rfl⟩) (fun h9 => ?_)
  exact sim_vret dX2_init_30 rfl)
theorem q_X2_init : am_Cal m_X2_init 0 1 := ⟨am_mem 181 (w := Cond.code yX2_init cX2_init 1 none) (by decide +kernel) rfl, am_mem 61 (w := Cond.initialized RX2) (by decide +kernel) rfl, fun z => absurd z (by decide), fun _ => am_mem 180 (w := Cond.instanceMethod yX2_init) (by decide +kernel) rfl, fun _ => rfl, fun z => absurd z (by decide), by decide +kernel, by decide +kernel, Nat.le_of_ble_eq_true rfl⟩
abbrev m_J7_fill_53178 : am_M := (yJ7_fill_53178, cJ7_fill_53178, 4, none, [])
def f_J7_fill_53178_5  : Nat → Option (Nat × Nat) → Int32 → Int32 → Int32 → am_H → am_R
  | 0, _, _, _, _, _ => none
  | n + 1, x0, x1, x2, x3, h => if x3 ≤ x2 then (m_rt h none) else (m_sI x0 x2 x1 h fun h2 => (f_J7_fill_53178_5  n) x0 x1 (x2 + 1) x3 h2)
theorem t_J7_fill_53178_5 (d : Nat) (hd : 0 ≤ d)  : ∀ (n : Nat) (x0 : Option (Nat × Nat)) (x1 : Int32) (x2 : Int32) (x3 : Int32) (h : am_H), Sim m_J7_fill_53178 d 5 [some (.inr (.inr x0)), some (.inl x1), some (.inl x2), some (.inl x3)] [] h (f_J7_fill_53178_5  n x0 x1 x2 x3 h) := by
  intro n
  induction n with
  | zero => intros; exact sim_none
  | succ n hrc5 =>
    intro x0 x1 x2 x3 h
    rw [f_J7_fill_53178_5]
    refine sim_iload_n dJ7_fill_53178_5 rfl ?_
    refine sim_iload_n dJ7_fill_53178_6 rfl ?_
    refine sim_ic_ge 20 dJ7_fill_53178_7 (by decide) (fun c => ?_) (fun c => ?_)
    · exact sim_vret dJ7_fill_53178_20 rfl
    · refine sim_aload_n dJ7_fill_53178_10 rfl ?_
      refine sim_iload_n dJ7_fill_53178_11 rfl ?_
      refine sim_iload_n dJ7_fill_53178_12 rfl ?_
      refine sim_sI dJ7_fill_53178_13 (fun h2 => ?_)
      refine sim_iinc (1) dJ7_fill_53178_14 rfl (by decide +kernel) (Nat.le_of_ble_eq_true rfl) ?_
      refine sim_goto 5 dJ7_fill_53178_17 (by decide) ?_
      exact sim_lv (am_leS (am_leS (am_leS (am_leS am_leT)))) (hrc5 _ _ _ _ _)
def f_J7_fill_53178 (x0 : Option (Nat × Nat)) (x1 : Int32) (h : am_H) : am_R := m_len x0 fun v1 => f_J7_fill_53178_5 5000 x0 x1 (0 : Int32) v1 h
theorem k_J7_fill_53178 (d : Nat) (hd : 0 ≤ d) (x0 : Option (Nat × Nat)) (x1 : Int32) (h : am_H) : am_Con m_J7_fill_53178 d [.inr (.inr x0), .inl x1] h (f_J7_fill_53178 x0 x1 h) := am_con (by decide +kernel) (Nat.le_of_ble_eq_true rfl) (by
  unfold f_J7_fill_53178
  refine sim_iconst (0) dJ7_fill_53178_0 (by decide +kernel) ?_
  refine sim_istore_n dJ7_fill_53178_1 (Nat.le_of_ble_eq_true rfl) ?_
  refine sim_aload_n dJ7_fill_53178_2 rfl ?_
  refine sim_len dJ7_fill_53178_3 (fun v1 => ?_)
  refine sim_istore_n dJ7_fill_53178_4 (Nat.le_of_ble_eq_true rfl) ?_
  exact sim_lv (am_leS (am_leS (am_leS (am_leS am_leT)))) (t_J7_fill_53178_5 d (by omega) _ _ _ _ _ _))
theorem q_J7_fill_53178 : am_Cal m_J7_fill_53178 2 0 := ⟨am_mem 208 (w := Cond.code yJ7_fill_53178 cJ7_fill_53178 4 none) (by decide +kernel) rfl, am_mem 63 (w := Cond.initialized RJ7) (by decide +kernel) rfl, fun _ => am_mem 207 (w := Cond.static yJ7_fill_53178) (by decide +kernel) rfl, fun z => absurd rfl z, fun z => absurd z (by decide), fun z => absurd z (by decide), by decide +kernel, by decide +kernel, Nat.le_of_ble_eq_true rfl⟩
abbrev m_X3_init : am_M := (yX3_init, cX3_init, 1, none, [])
def f_X3_init (a0 : Nat × Nat) (h : am_H) : am_R := m_new 5 20 h fun a1 h2 => m_pR (some a0) 3 1 (some a1) h2 fun h3 => m_new 6 12 h3 fun a4 h5 => m_pR (some a0) 3 2 (some a4) h5 fun h6 => m_new 7 20 h6 fun a7 h8 => m_pR (some a0) 3 3 (some a7) h8 fun h9 => m_gR (some a0) 3 1 h9 fun o10 => m_bV (f_J7_fill_53178 o10 (2001 : Int32) h9) fun h11 => m_gR (some a0) 3 2 h11 fun o13 => m_bV (f_J7_fill_53178 o13 (2001 : Int32) h11) fun h14 => m_rt h14 none
theorem k_X3_init (d : Nat) (hd : 1 ≤ d) (a0 : Nat × Nat) (h : am_H) : am_Con m_X3_init d [.inr (.inr (some a0))] h (f_X3_init a0 h) := am_con (by decide +kernel) (Nat.le_of_ble_eq_true rfl) (by
  unfold f_X3_init
  refine sim_aload_n dX3_init_0 rfl ?_
  refine sim_obj dX3_init_1 wm_RX3_3 wobj_i wobj_c (by omega) (Nat.le_of_ble_eq_true rfl) ?_
  refine sim_aload_n dX3_init_4 rfl ?_
  refine sim_bipush (20) dX3_init_5 (by decide +kernel) ?_
  refine sim_nwI 5 0 20 dX3_init_7 rfl rfl rfl (by decide +kernel) (Nat.le_of_ble_eq_true rfl) (fun _ => rfl) rfl (Nat.le_of_ble_eq_true rfl) wa_int (fun a1 h2 => ?_)
  refine sim_pR 3 1 dX3_init_9 rfl wf_RX3_9 (Nat.le_of_ble_eq_true rfl) rfl (Or.inr ⟨rfl, rfl, rfl⟩) (fun h3 => ?_)
  refine sim_aload_n dX3_init_12 rfl ?_
  refine sim_bipush (12) dX3_init_13 (by decide +kernel) ?_
  refine sim_nwI 6 0 12 dX3_init_15 rfl rfl rfl (by decide +kernel) (Nat.le_of_ble_eq_true rfl) (fun _ => rfl) rfl (Nat.le_of_ble_eq_true rfl) wa_int (fun a4 h5 => ?_)
  refine sim_pR 3 2 dX3_init_17 rfl wf_RX3_15 (Nat.le_of_ble_eq_true rfl) rfl (Or.inr ⟨rfl, rfl, rfl⟩) (fun h6 => ?_)
  refine sim_aload_n dX3_init_20 rfl ?_
  refine sim_bipush (20) dX3_init_21 (by decide +kernel) ?_
  refine sim_nwI 7 0 20 dX3_init_23 rfl rfl rfl (by decide +kernel) (Nat.le_of_ble_eq_true rfl) (fun _ => rfl) rfl (Nat.le_of_ble_eq_true rfl) wa_int (fun a7 h8 => ?_)
  refine sim_pR 3 3 dX3_init_25 rfl wf_RX3_18 (Nat.le_of_ble_eq_true rfl) rfl (Or.inr ⟨rfl, rfl, rfl⟩) (fun h9 => ?_)
  refine sim_aload_n dX3_init_28 rfl ?_
  refine sim_gR 3 1 dX3_init_29 rfl wf_RX3_9 (Nat.le_of_ble_eq_true rfl) rfl (fun o10 => ?_)
  refine sim_sipush (2001) dX3_init_32 (by decide +kernel) ?_
  refine sim_static (d - 1) dX3_init_35 (k_J7_fill_53178 (d - 1) (by omega) _ _ _) q_J7_fill_53178 wm_RX3_21 rfl rfl (by omega) (Nat.le_of_ble_eq_true rfl) am_nV (am_rV fun h11 => ?_) am_eV
  refine sim_aload_n dX3_init_38 rfl ?_
  refine sim_gR 3 2 dX3_init_39 rfl wf_RX3_15 (Nat.le_of_ble_eq_true rfl) rfl (fun o13 => ?_)
  refine sim_sipush (2001) dX3_init_42 (by decide +kernel) ?_
  refine sim_static (d - 1) dX3_init_45 (k_J7_fill_53178 (d - 1) (by omega) _ _ _) q_J7_fill_53178 wm_RX3_21 rfl rfl (by omega) (Nat.le_of_ble_eq_true rfl) am_nV (am_rV fun h14 => ?_) am_eV
  exact sim_vret dX3_init_48 rfl)
theorem q_X3_init : am_Cal m_X3_init 0 1 := ⟨am_mem 204 (w := Cond.code yX3_init cX3_init 1 none) (by decide +kernel) rfl, am_mem 62 (w := Cond.initialized RX3) (by decide +kernel) rfl, fun z => absurd z (by decide), fun _ => am_mem 203 (w := Cond.instanceMethod yX3_init) (by decide +kernel) rfl, fun _ => rfl, fun z => absurd z (by decide), by decide +kernel, by decide +kernel, Nat.le_of_ble_eq_true rfl⟩
abbrev m_X5_init : am_M := (yX5_init, cX5_init, 1, none, [])
def f_X5_init (a0 : Nat × Nat) (h : am_H) : am_R := m_new 8 61 h fun a1 h2 => m_pR (some a0) 5 0 (some a1) h2 fun h3 => m_new 9 61 h3 fun a4 h5 => m_pR (some a0) 5 1 (some a4) h5 fun h6 => m_new 10 61 h6 fun a7 h8 => m_pR (some a0) 5 2 (some a7) h8 fun h9 => m_rt h9 none
theorem k_X5_init (d : Nat) (hd : 1 ≤ d) (a0 : Nat × Nat) (h : am_H) : am_Con m_X5_init d [.inr (.inr (some a0))] h (f_X5_init a0 h) := am_con (by decide +kernel) (Nat.le_of_ble_eq_true rfl) (by
  unfold f_X5_init
  refine sim_aload_n dX5_init_0 rfl ?_
  refine sim_obj dX5_init_1 wm_RX5_3 wobj_i wobj_c (by omega) (Nat.le_of_ble_eq_true rfl) ?_
  refine sim_aload_n dX5_init_4 rfl ?_
  refine sim_bipush (61) dX5_init_5 (by decide +kernel) ?_
  refine sim_nwI 8 0 61 dX5_init_7 rfl rfl rfl (by decide +kernel) (Nat.le_of_ble_eq_true rfl) (fun _ => rfl) rfl (Nat.le_of_ble_eq_true rfl) wa_int (fun a1 h2 => ?_)
  refine sim_pR 5 0 dX5_init_9 rfl wf_RX5_9 (Nat.le_of_ble_eq_true rfl) rfl (Or.inr ⟨rfl, rfl, rfl⟩) (fun h3 => ?_)
  refine sim_aload_n dX5_init_12 rfl ?_
  refine sim_bipush (61) dX5_init_13 (by decide +kernel) ?_
  refine sim_nwI 9 0 61 dX5_init_15 rfl rfl rfl (by decide +kernel) (Nat.le_of_ble_eq_true rfl) (fun _ => rfl) rfl (Nat.le_of_ble_eq_true rfl) wa_int (fun a4 h5 => ?_)
  refine sim_pR 5 1 dX5_init_17 rfl wf_RX5_15 (Nat.le_of_ble_eq_true rfl) rfl (Or.inr ⟨rfl, rfl, rfl⟩) (fun h6 => ?_)
  refine sim_aload_n dX5_init_20 rfl ?_
  refine sim_bipush (61) dX5_init_21 (by decide +kernel) ?_
  refine sim_nwI 10 1 61 dX5_init_23 rfl rfl rfl (by decide +kernel) (Nat.le_of_ble_eq_true rfl) (fun _ => rfl) rfl (Nat.le_of_ble_eq_true rfl) wa_boolean (fun a7 h8 => ?_)
  refine sim_pR 5 2 dX5_init_25 rfl wf_RX5_18 (Nat.le_of_ble_eq_true rfl) rfl (Or.inr ⟨rfl, rfl, rfl⟩) (fun h9 => ?_)
  exact sim_vret dX5_init_28 rfl)
theorem q_X5_init : am_Cal m_X5_init 0 1 := ⟨am_mem 161 (w := Cond.code yX5_init cX5_init 1 none) (by decide +kernel) rfl, am_mem 60 (w := Cond.initialized RX5) (by decide +kernel) rfl, fun z => absurd z (by decide), fun _ => am_mem 160 (w := Cond.instanceMethod yX5_init) (by decide +kernel) rfl, fun _ => rfl, fun z => absurd z (by decide), by decide +kernel, by decide +kernel, Nat.le_of_ble_eq_true rfl⟩
abbrev m_X7_init : am_M := (yX7_init, cX7_init, 1, none, [])
def f_X7_init (a0 : Nat × Nat) (h : am_H) : am_R := m_new 11 30 h fun a1 h2 => m_pR (some a0) 7 1 (some a1) h2 fun h3 => m_new 12 30 h3 fun a4 h5 => m_pR (some a0) 7 2 (some a4) h5 fun h6 => m_new 13 30 h6 fun a7 h8 => m_pR (some a0) 7 3 (some a7) h8 fun h9 => m_rt h9 none
theorem k_X7_init (d : Nat) (hd : 1 ≤ d) (a0 : Nat × Nat) (h : am_H) : am_Con m_X7_init d [.inr (.inr (some a0))] h (f_X7_init a0 h) := am_con (by decide +kernel) (Nat.le_of_ble_eq_true rfl) (by
  unfold f_X7_init
  refine sim_aload_n dX7_init_0 rfl ?_
  refine sim_obj dX7_init_1 wm_RX7_3 wobj_i wobj_c (by omega) (Nat.le_of_ble_eq_true rfl) ?_
  refine sim_aload_n dX7_init_4 rfl ?_
  refine sim_bipush (30) dX7_init_5 (by decide +kernel) ?_
  refine sim_nwI 11 0 30 dX7_init_7 rfl rfl rfl (by decide +kernel) (Nat.le_of_ble_eq_true rfl) (fun _ => rfl) rfl (Nat.le_of_ble_eq_true rfl) wa_int (fun a1 h2 => ?_)
  refine sim_pR 7 1 dX7_init_9 rfl wf_RX7_9 (Nat.le_of_ble_eq_true rfl) rfl (Or.inr ⟨rfl, rfl, rfl⟩) (fun h3 => ?_)
  refine sim_aload_n dX7_init_12 rfl ?_
  refine sim_bipush (30) dX7_init_13 (by decide +kernel) ?_
  refine sim_nwI 12 0 30 dX7_init_15 rfl rfl rfl (by decide +kernel) (Nat.le_of_ble_eq_true rfl) (fun _ => rfl) rfl (Nat.le_of_ble_eq_true rfl) wa_int (fun a4 h5 => ?_)
  refine sim_pR 7 2 dX7_init_17 rfl wf_RX7_15 (Nat.le_of_ble_eq_true rfl) rfl (Or.inr ⟨rfl, rfl, rfl⟩) (fun h6 => ?_)
  refine sim_aload_n dX7_init_20 rfl ?_
  refine sim_bipush (30) dX7_init_21 (by decide +kernel) ?_
  refine sim_nwI 13 0 30 dX7_init_23 rfl rfl rfl (by decide +kernel) (Nat.le_of_ble_eq_true rfl) (fun _ => rfl) rfl (Nat.le_of_ble_eq_true rfl) wa_int (fun a7 h8 => ?_)
  refine sim_pR 7 3 dX7_init_25 rfl wf_RX7_18 (Nat.le_of_ble_eq_true rfl) rfl (Or.inr ⟨rfl, rfl, rfl⟩) (fun h9 => ?_)
  exact sim_vret dX7_init_28 rfl)
theorem q_X7_init : am_Cal m_X7_init 0 1 := ⟨am_mem 96 (w := Cond.code yX7_init cX7_init 1 none) (by decide +kernel) rfl, am_mem 57 (w := Cond.initialized RX7) (by decide +kernel) rfl, fun z => absurd z (by decide), fun _ => am_mem 95 (w := Cond.instanceMethod yX7_init) (by decide +kernel) rfl, fun _ => rfl, fun z => absurd z (by decide), by decide +kernel, by decide +kernel, Nat.le_of_ble_eq_true rfl⟩
abbrev m_X4_init : am_M := (yX4_init, cX4_init, 1, none, [])
def f_X4_init (a0 : Nat × Nat) (h : am_H) : am_R := m_rt h none
theorem k_X4_init (d : Nat) (hd : 1 ≤ d) (a0 : Nat × Nat) (h : am_H) : am_Con m_X4_init d [.inr (.inr (some a0))] h (f_X4_init a0 h) := am_con (by decide +kernel) (Nat.le_of_ble_eq_true rfl) (by
  unfold f_X4_init
  refine sim_aload_n dX4_init_0 rfl ?_
  refine sim_obj dX4_init_1 wm_RX4_3 wobj_i wobj_c (by omega) (Nat.le_of_ble_eq_true rfl) ?_
  exact sim_vret dX4_init_4 rfl)
theorem q_X4_init : am_Cal m_X4_init 0 1 := ⟨am_mem 123 (w := Cond.code yX4_init cX4_init 1 none) (by decide +kernel) rfl, am_mem 59 (w := Cond.initialized RX4) (by decide +kernel) rfl, fun z => absurd z (by decide), fun _ => am_mem 122 (w := Cond.instanceMethod yX4_init) (by decide +kernel) rfl, fun _ => rfl, fun z => absurd z (by decide), by decide +kernel, by decide +kernel, Nat.le_of_ble_eq_true rfl⟩
abbrev m_X8_init : am_M := (yX8_init, cX8_init, 1, none, [])
def f_X8_init (a0 : Nat × Nat) (h : am_H) : am_R := m_new 14 60 h fun a1 h2 => m_pR (some a0) 8 0 (some a1) h2 fun h3 => m_new 15 5 h3 fun a4 h5 => m_bW (f_X4_init a4 h5) fun h6 => m_pR (some a0) 8 2 (some a4) h6 fun h8 => m_rt h8 none
theorem k_X8_init (d : Nat) (hd : 2 ≤ d) (a0 : Nat × Nat) (h : am_H) : am_Con m_X8_init d [.inr (.inr (some a0))] h (f_X8_init a0 h) := am_con (by decide +kernel) (Nat.le_of_ble_eq_true rfl) (by
  unfold f_X8_init
  refine sim_aload_n dX8_init_0 rfl ?_
  refine sim_obj dX8_init_1 wm_RX8_3 wobj_i wobj_c (by omega) (Nat.le_of_ble_eq_true rfl) ?_
  refine sim_aload_n dX8_init_4 rfl ?_
  refine sim_bipush (60) dX8_init_5 (by decide +kernel) ?_
  refine sim_nwI 14 2 60 dX8_init_7 rfl rfl rfl (by decide +kernel) (Nat.le_of_ble_eq_true rfl) (fun _ => rfl) rfl (Nat.le_of_ble_eq_true rfl) wa_char (fun a1 h2 => ?_)
  refine sim_pR 8 0 dX8_init_9 rfl wf_RX8_9 (Nat.le_of_ble_eq_true rfl) rfl (Or.inr ⟨rfl, rfl, rfl⟩) (fun h3 => ?_)
  refine sim_aload_n dX8_init_12 rfl ?_
  refine sim_nw 15 4 5 dX8_init_13 rfl rfl wc_RX8_15 wi_RX4 wz_RX4 (fun a4 h5 => ?_)
  refine sim_dup_r dX8_init_16 ?_
  refine sim_ctorN (d - 1) dX8_init_17 (k_X4_init (d - 1) (by omega) _  _) q_X4_init wn_RX8_17 rfl rfl (by omega) (Nat.le_of_ble_eq_true rfl) am_nW am_xW (am_rW fun h6 => ?_)
  refine sim_pR 8 2 dX8_init_20 rfl wf_RX8_18 (Nat.le_of_ble_eq_true rfl) rfl (Or.inr ⟨rfl, rfl, rfl⟩) (fun h8 => ?_)
  exact sim_vret dX8_init_23 rfl)
theorem q_X8_init : am_Cal m_X8_init 0 1 := ⟨am_mem 117 (w := Cond.code yX8_init cX8_init 1 none) (by decide +kernel) rfl, am_mem 58 (w := Cond.initialized RX8) (by decide +kernel) rfl, fun z => absurd z (by decide), fun _ => am_mem 116 (w := Cond.instanceMethod yX8_init) (by decide +kernel) rfl, fun _ => rfl, fun z => absurd z (by decide), by decide +kernel, by decide +kernel, Nat.le_of_ble_eq_true rfl⟩
abbrev m_X10_init : am_M := (yX10_init, cX10_init, 2, none, [])
def f_X10_init_117  : Nat → Nat × Nat → Int32 → am_H → am_R
  | 0, _, _, _ => none
  | n + 1, a0, x1, h => if (12 : Int32) ≤ x1 then (m_rt h none) else (m_gR (some a0) 10 2 h fun o38 => m_new 26 4 h fun a39 h40 => m_bW (f_X3_init a39 h40) fun h41 => m_sR o38 4 3 x1 (some a39) h41 fun h43 => (f_X10_init_117  n) a0 (x1 + 1) h43)
theorem t_X10_init_117 (d : Nat) (hd : 3 ≤ d)  : ∀ (n : Nat) (a0 : Nat × Nat) (x1 : Int32) (h : am_H), Sim m_X10_init d 117 [some (.inr (.inr (some a0))), some (.inl x1)] [] h (f_X10_init_117  n a0 x1 h) := by
  intro n
  induction n with
  | zero => intros; exact sim_none
  | succ n hrc117 =>
    intro a0 x1 h
    rw [f_X10_init_117]
    refine sim_iload_n dX10_init_117 rfl ?_
    refine sim_bipush (12) dX10_init_118 (by decide +kernel) ?_
    refine sim_ic_ge 142 dX10_init_120 (by decide) (fun c => ?_) (fun c => ?_)
    · exact sim_vret dX10_init_142 rfl
    · refine sim_aload_n dX10_init_123 rfl ?_
      refine sim_gR 10 2 dX10_init_124 rfl wf_RX10_15 (Nat.le_of_ble_eq_true rfl) rfl (fun o38 => ?_)
      refine sim_iload_n dX10_init_127 rfl ?_
      refine sim_nw 26 3 4 dX10_init_128 rfl rfl wc_RX10_13 wi_RX3 wz_RX3 (fun a39 h40 => ?_)
      refine sim_dup_r dX10_init_131 ?_
      refine sim_ctor (d - 1) dX10_init_132 (k_X3_init (d - 1) (by omega) _  _) q_X3_init wm_RX10_65 rfl rfl (by omega) (Nat.le_of_ble_eq_true rfl) am_nW am_xW (am_rW fun h41 => ?_)
      refine sim_sR 4 rfl dX10_init_135 (fun h43 => ?_)
      refine sim_iinc (1) dX10_init_136 rfl (by decide +kernel) (Nat.le_of_ble_eq_true rfl) ?_
      refine sim_goto 117 dX10_init_139 (by decide) ?_
      exact sim_lv (am_leS (am_leS am_leT)) (hrc117 _ _ _)
def f_X10_init_94  : Nat → Nat × Nat → Int32 → am_H → am_R
  | 0, _, _, _ => none
  | n + 1, a0, x1, h => if (32 : Int32) ≤ x1 then (f_X10_init_117 5000 a0 (0 : Int32) h) else (m_gR (some a0) 10 1 h fun o36 => m_sI o36 x1 ((1 : Int32) <<< (x1 &&& 31)) h fun h37 => (f_X10_init_94  n) a0 (x1 + 1) h37)
theorem t_X10_init_94 (d : Nat) (hd : 3 ≤ d)  : ∀ (n : Nat) (a0 : Nat × Nat) (x1 : Int32) (h : am_H), Sim m_X10_init d 94 [some (.inr (.inr (some a0))), some (.inl x1)] [] h (f_X10_init_94  n a0 x1 h) := by
  intro n
  induction n with
  | zero => intros; exact sim_none
  | succ n hrc94 =>
    intro a0 x1 h
    rw [f_X10_init_94]
    refine sim_iload_n dX10_init_94 rfl ?_
    refine sim_bipush (32) dX10_init_95 (by decide +kernel) ?_
    refine sim_ic_ge 115 dX10_init_97 (by decide) (fun c => ?_) (fun c => ?_)
    · refine sim_iconst (0) dX10_init_115 (by decide +kernel) ?_
      refine sim_istore_n dX10_init_116 (Nat.le_of_ble_eq_true rfl) ?_
      exact sim_lv (am_leS (am_leS am_leT)) (t_X10_init_117 d (by omega) _ _ _ _)
    · refine sim_aload_n dX10_init_100 rfl ?_
      refine sim_gR 10 1 dX10_init_101 rfl wf_RX10_9 (Nat.le_of_ble_eq_true rfl) rfl (fun o36 => ?_)
      refine sim_iload_n dX10_init_104 rfl ?_
      refine sim_iconst (1) dX10_init_105 (by decide +kernel) ?_
      refine sim_iload_n dX10_init_106 rfl ?_
      refine sim_ishl dX10_init_107 ?_
      refine sim_sI dX10_init_108 (fun h37 => ?_)
      refine sim_iinc (1) dX10_init_109 rfl (by decide +kernel) (Nat.le_of_ble_eq_true rfl) ?_
      refine sim_goto 94 dX10_init_112 (by decide) ?_
      exact sim_lv (am_leS (am_leS am_leT)) (hrc94 _ _ _)
def f_X10_init (a0 : Nat × Nat) (h : am_H) : am_R := m_new 17 32 h fun a1 h2 => m_pR (some a0) 10 1 (some a1) h2 fun h3 => m_new 18 12 h3 fun a4 h5 => m_pR (some a0) 10 2 (some a4) h5 fun h6 => m_new 19 20 h6 fun a7 h8 => m_pR (some a0) 10 3 (some a7) h8 fun h9 => m_new 20 6 h9 fun a10 h11 => m_pR (some a0) 10 5 (some a10) h11 fun h12 => m_new 21 4 h12 fun a13 h14 => m_bW (f_X7_init a13 h14) fun h15 => m_pR (some a0) 10 7 (some a13) h15 fun h17 => m_new 22 3 h17 fun a18 h19 => m_bW (f_X8_init a18 h19) fun h20 => m_pR (some a0) 10 8 (some a18) h20 fun h22 => m_new 23 4 h22 fun a23 h24 => m_bW (f_X5_init a23 h24) fun h25 => m_pR (some a0) 10 9 (some a23) h25 fun h27 => m_new 24 4 h27 fun a28 h29 => m_bW (f_X2_init a28 h29) fun h30 => m_pR (some a0) 10 10 (some a28) h30 fun h32 => m_new 25 60 h32 fun a33 h34 => m_pR (some a0) 10 11 (some a33) h34 fun h35 => f_X10_init_94 5000 a0 (0 : Int32) h35
theorem k_X10_init (d : Nat) (hd : 3 ≤ d) (a0 : Nat × Nat) (h : am_H) : am_Con m_X10_init d [.inr (.inr (some a0))] h (f_X10_init a0 h) := am_con (by decide +kernel) (Nat.le_of_ble_eq_true rfl) (by
  unfold f_X10_init
  refine sim_aload_n dX10_init_0 rfl ?_
  refine sim_obj dX10_init_1 wm_RX10_3 wobj_i wobj_c (by omega) (Nat.le_of_ble_eq_true rfl) ?_
  refine sim_aload_n dX10_init_4 rfl ?_
  refine sim_bipush (32) dX10_init_5 (by decide +kernel) ?_
  refine sim_nwI 17 0 32 dX10_init_7 rfl rfl rfl (by decide +kernel) (Nat.le_of_ble_eq_true rfl) (fun _ => rfl) rfl (Nat.le_of_ble_eq_true rfl) wa_int (fun a1 h2 => ?_)
  refine sim_pR 10 1 dX10_init_9 rfl wf_RX10_9 (Nat.le_of_ble_eq_true rfl) rfl (Or.inr ⟨rfl, rfl, rfl⟩) (fun h3 => ?_)
  refine sim_aload_n dX10_init_12 rfl ?_
  refine sim_bipush (12) dX10_init_13 (by decide +kernel) ?_
  refine sim_nwR 18 4 12 dX10_init_15 rfl rfl rfl (by decide +kernel) (Nat.le_of_ble_eq_true rfl) wc_RX10_13 wo_RX3 (fun a4 h5 => ?_)
  refine sim_pR 10 2 dX10_init_18 rfl wf_RX10_15 (Nat.le_of_ble_eq_true rfl) rfl (Or.inr ⟨rfl, rfl, rfl⟩) (fun h6 => ?_)
  refine sim_aload_n dX10_init_21 rfl ?_
  refine sim_bipush (20) dX10_init_22 (by decide +kernel) ?_
  refine sim_nwR 19 5 20 dX10_init_24 rfl rfl rfl (by decide +kernel) (Nat.le_of_ble_eq_true rfl) wc_RX10_19 wo_RX9 (fun a7 h8 => ?_)
  refine sim_pR 10 3 dX10_init_27 rfl wf_RX10_21 (Nat.le_of_ble_eq_true rfl) rfl (Or.inr ⟨rfl, rfl, rfl⟩) (fun h9 => ?_)
  refine sim_aload_n dX10_init_30 rfl ?_
  refine sim_bipush (6) dX10_init_31 (by decide +kernel) ?_
  refine sim_nwR 20 6 6 dX10_init_33 rfl rfl rfl (by decide +kernel) (Nat.le_of_ble_eq_true rfl) wc_RX10_25 wo_RX0 (fun a10 h11 => ?_)
  refine sim_pR 10 5 dX10_init_36 rfl wf_RX10_27 (Nat.le_of_ble_eq_true rfl) rfl (Or.inr ⟨rfl, rfl, rfl⟩) (fun h12 => ?_)
  refine sim_aload_n dX10_init_39 rfl ?_
  refine sim_nw 21 7 4 dX10_init_40 rfl rfl wc_RX10_31 wi_RX7 wz_RX7 (fun a13 h14 => ?_)
  refine sim_dup_r dX10_init_43 ?_
  refine sim_ctorN (d - 1) dX10_init_44 (k_X7_init (d - 1) (by omega) _  _) q_X7_init wn_RX10_33 rfl rfl (by omega) (Nat.le_of_ble_eq_true rfl) am_nW am_xW (am_rW fun h15 => ?_)
  refine sim_pR 10 7 dX10_init_47 rfl wf_RX10_34 (Nat.le_of_ble_eq_true rfl) rfl (Or.inr ⟨rfl, rfl, rfl⟩) (fun h17 => ?_)
  refine sim_aload_n dX10_init_50 rfl ?_
  refine sim_nw 22 8 3 dX10_init_51 rfl rfl wc_RX10_38 wi_RX8 wz_RX8 (fun a18 h19 => ?_)
  refine sim_dup_r dX10_init_54 ?_
  refine sim_ctorN (d - 1) dX10_init_55 (k_X8_init (d - 1) (by omega) _  _) q_X8_init wn_RX10_40 rfl rfl (by omega) (Nat.le_of_ble_eq_true rfl) am_nW am_xW (am_rW fun h20 => ?_)
  refine sim_pR 10 8 dX10_init_58 rfl wf_RX10_41 (Nat.le_of_ble_eq_true rfl) rfl (Or.inr ⟨rfl, rfl, rfl⟩) (fun h22 => ?_)
  refine sim_aload_n dX10_init_61 rfl ?_
  refine sim_nw 23 5 4 dX10_init_62 rfl rfl wc_RX10_45 wi_RX5 wz_RX5 (fun a23 h24 => ?_)
  refine sim_dup_r dX10_init_65 ?_
  refine sim_ctorN (d - 1) dX10_init_66 (k_X5_init (d - 1) (by omega) _  _) q_X5_init wn_RX10_47 rfl rfl (by omega) (Nat.le_of_ble_eq_true rfl) am_nW am_xW (am_rW fun h25 => ?_)
  refine sim_pR 10 9 dX10_init_69 rfl wf_RX10_48 (Nat.le_of_ble_eq_true rfl) rfl (Or.inr ⟨rfl, rfl, rfl⟩) (fun h27 => ?_)
  refine sim_aload_n dX10_init_72 rfl ?_
  refine sim_nw 24 2 4 dX10_init_73 rfl rfl wc_RX10_52 wi_RX2 wz_RX2 (fun a28 h29 => ?_)
  refine sim_dup_r dX10_init_76 ?_
  refine sim_ctorN (d - 1) dX10_init_77 (k_X2_init (d - 1) (by omega) _  _) q_X2_init wn_RX10_54 rfl rfl (by omega) (Nat.le_of_ble_eq_true rfl) am_nW am_xW (am_rW fun h30 => ?_)
  refine sim_pR 10 10 dX10_init_80 rfl wf_RX10_55 (Nat.le_of_ble_eq_true rfl) rfl (Or.inr ⟨rfl, rfl, rfl⟩) (fun h32 => ?_)
  refine sim_aload_n dX10_init_83 rfl ?_
  refine sim_bipush (60) dX10_init_84 (by decide +kernel) ?_
  refine sim_nwR 25 7 60 dX10_init_86 rfl rfl rfl (by decide +kernel) (Nat.le_of_ble_eq_true rfl) wc_RX10_59 wo_RX1 (fun a33 h34 => ?_)
  refine sim_pR 10 11 dX10_init_89 rfl wf_RX10_61 (Nat.le_of_ble_eq_true rfl) rfl (Or.inr ⟨rfl, rfl, rfl⟩) (fun h35 => ?_)
  refine sim_iconst (0) dX10_init_92 (by decide +kernel) ?_
  refine sim_istore_n dX10_init_93 (Nat.le_of_ble_eq_true rfl) ?_
  exact sim_lv (am_leS (am_leS am_leT)) (t_X10_init_94 d (by omega) _ _ _ _))
theorem q_X10_init : am_Cal m_X10_init 0 1 := ⟨am_mem 82 (w := Cond.code yX10_init cX10_init 2 none) (by decide +kernel) rfl, am_mem 56 (w := Cond.initialized RX10) (by decide +kernel) rfl, fun z => absurd z (by decide), fun _ => am_mem 81 (w := Cond.instanceMethod yX10_init) (by decide +kernel) rfl, fun _ => rfl, fun z => absurd z (by decide), by decide +kernel, by decide +kernel, Nat.le_of_ble_eq_true rfl⟩
abbrev m_X2_countMatches : am_M := (yX2_countMatches, cX2_countMatches, 2, some .int, [])
def f_X2_countMatches (a0 : Nat × Nat) (x1 : Option (Nat × Nat)) (h : am_H) : am_R := m_ao (some a0) 2 fun a3 => m_bV (f_X2_findWays a3 x1 h) fun h1 => m_gR (some a0) 2 3 h1 fun o4 => m_aI o4 0 (0 : Int32) h1 fun v5 => m_ri h1 v5
theorem k_X2_countMatches (d : Nat) (hd : 5 ≤ d) (a0 : Nat × Nat) (x1 : Option (Nat × Nat)) (h : am_H) : am_Con m_X2_countMatches d [.inr (.inr (some a0)), .inr (.inr x1)] h (f_X2_countMatches a0 x1 h) := am_con (by decide +kernel) (Nat.le_of_ble_eq_true rfl) (by
  unfold f_X2_countMatches
  refine sim_aload_n dX2_countMatches_0 rfl ?_
  refine sim_aload_n dX2_countMatches_1 rfl ?_
  refine sim_ao1 (fun a3 e => ?_)
  refine sim_virt (d - 1) e dX2_countMatches_2 (k_X2_findWays (d - 1) (by omega) _ _ _) q_X2_findWays rfl rfl wm_RX2_31 rfl rfl (by omega) (Nat.le_of_ble_eq_true rfl) am_nV (am_rV fun h1 => ?_) am_eV
  refine sim_aload_n dX2_countMatches_5 rfl ?_
  refine sim_gR 2 3 dX2_countMatches_6 rfl wf_RX2_21 (Nat.le_of_ble_eq_true rfl) rfl (fun o4 => ?_)
  refine sim_iconst (0) dX2_countMatches_9 (by decide +kernel) ?_
  refine sim_aI dX2_countMatches_10 (fun v5 => ?_)
  exact sim_iret dX2_countMatches_11 rfl)
theorem q_X2_countMatches : am_Cal m_X2_countMatches 1 2 := ⟨am_mem 324 (w := Cond.code yX2_countMatches cX2_countMatches 2 (some .int)) (by decide +kernel) rfl, am_mem 61 (w := Cond.initialized RX2) (by decide +kernel) rfl, fun z => absurd z (by decide), fun _ => am_mem 322 (w := Cond.instanceMethod yX2_countMatches) (by decide +kernel) rfl, fun z => absurd z (by decide), fun _ => am_mem 323 (w := Cond.selects RX2 yX2_countMatches yX2_countMatches) (by decide +kernel) rfl, by decide +kernel, by decide +kernel, Nat.le_of_ble_eq_true rfl⟩
abbrev m_X10_matches : am_M := (yX10_matches, cX10_matches, 1, some .int, [])
def f_X10_matches (a0 : Nat × Nat) (h : am_H) : am_R := m_gR (some a0) 10 10 h fun o1 => m_gR (some a0) 10 7 h fun o2 => m_ao o1 2 fun a5 => m_bI (f_X2_countMatches a5 o2 h) fun h3 v4 => m_ri h3 v4
theorem k_X10_matches (d : Nat) (hd : 6 ≤ d) (a0 : Nat × Nat) (h : am_H) : am_Con m_X10_matches d [.inr (.inr (some a0))] h (f_X10_matches a0 h) := am_con (by decide +kernel) (Nat.le_of_ble_eq_true rfl) (by
  unfold f_X10_matches
  refine sim_aload_n dX10_matches_0 rfl ?_
  refine sim_gR 10 10 dX10_matches_1 rfl wf_RX10_55 (Nat.le_of_ble_eq_true rfl) rfl (fun o1 => ?_)
  refine sim_aload_n dX10_matches_4 rfl ?_
  refine sim_gR 10 7 dX10_matches_5 rfl wf_RX10_34 (Nat.le_of_ble_eq_true rfl) rfl (fun o2 => ?_)
  refine sim_ao1 (fun a5 e => ?_)
  refine sim_virt (d - 1) e dX10_matches_8 (k_X2_countMatches (d - 1) (by omega) _ _ _) q_X2_countMatches rfl rfl wm_RX10_311 rfl rfl (by omega) (Nat.le_of_ble_eq_true rfl) am_nI (am_rI fun h3 v4 => ?_) am_eI
  exact sim_iret dX10_matches_11 rfl)
theorem q_X10_matches : am_Cal m_X10_matches 0 2 := ⟨am_mem 320 (w := Cond.code yX10_matches cX10_matches 1 (some .int)) (by decide +kernel) rfl, am_mem 56 (w := Cond.initialized RX10) (by decide +kernel) rfl, fun z => absurd z (by decide), fun _ => am_mem 318 (w := Cond.instanceMethod yX10_matches) (by decide +kernel) rfl, fun z => absurd z (by decide), fun _ => am_mem 319 (w := Cond.selects RX10 yX10_matches yX10_matches) (by decide +kernel) rfl, by decide +kernel, by decide +kernel, Nat.le_of_ble_eq_true rfl⟩
