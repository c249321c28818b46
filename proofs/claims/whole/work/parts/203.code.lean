abbrev m_X7_belongUnder : am_M := (yX7_belongUnder, cX7_belongUnder, 4, some .int, [])
def f_X7_belongUnder_53 (rc4 : Nat × Nat → Int32 → Int32 → Int32 → am_H → am_R) (a0 : Nat × Nat) (x1 : Int32) (x2 : Int32) (x3 : Int32) (h : am_H) : am_R := rc4 a0 x1 x2 (x3 + 1) h
theorem t_X7_belongUnder_53 (d : Nat) (hd : 1 ≤ d) (rc4 : Nat × Nat → Int32 → Int32 → Int32 → am_H → am_R) (hrc4 : ∀ a0 x1 x2 x3 h, Sim m_X7_belongUnder d 4 [some (.inr (.inr (some a0))), some (.inl x1), some (.inl x2), some (.inl x3)] [] h (rc4 a0 x1 x2 x3 h)) (a0 : Nat × Nat) (x1 : Int32) (x2 : Int32) (x3 : Int32) (h : am_H) : Sim m_X7_belongUnder d 53 [some (.inr (.inr (some a0))), some (.inl x1), some (.inl x2), some (.inl x3)] [] h (f_X7_belongUnder_53 rc4 a0 x1 x2 x3 h) := by
  unfold f_X7_belongUnder_53
  refine sim_iinc (1) dX7_belongUnder_53 rfl (by decide +kernel) (Nat.le_of_ble_eq_true rfl) ?_
  refine sim_goto 4 dX7_belongUnder_56 (by decide) ?_
  exact sim_lv (am_leS (am_leS (am_leS (am_leS am_leT)))) (hrc4 _ _ _ _ _)
def f_X7_belongUnder_4  : Nat → Nat × Nat → Int32 → Int32 → Int32 → am_H → am_R
  | 0, _, _, _, _, _ => none
  | n + 1, a0, x1, x2, x3, h => m_gI (some a0) 7 0 h fun v1 => if v1 ≤ x3 then (m_ri h x2) else (m_bJ (f_X10_has x1 x3 h) fun h2 v3 => if v3 = 0 then (f_X7_belongUnder_53 (f_X7_belongUnder_4  n) a0 x1 x2 x3 h2) else (m_gR (some a0) 7 1 h2 fun o4 => m_aI o4 0 x3 h2 fun v5 => if v5 = (-1 : Int32) then (f_X7_belongUnder_53 (f_X7_belongUnder_4  n) a0 x1 x2 x3 h2) else (m_gR (some a0) 7 1 h2 fun o6 => m_aI o6 0 x3 h2 fun v7 => m_gR (some a0) 7 3 h2 fun o8 => m_gR (some a0) 7 1 h2 fun o9 => m_aI o9 0 x3 h2 fun v10 => m_aI o8 0 v10 h2 fun v11 => f_X7_belongUnder_53 (f_X7_belongUnder_4  n) a0 x1 (x2 ||| (((1 : Int32) <<< (v7 &&& 31)) ||| v11)) x3 h2)))
theorem t_X7_belongUnder_4 (d : Nat) (hd : 1 ≤ d)  : ∀ (n : Nat) (a0 : Nat × Nat) (x1 : Int32) (x2 : Int32) (x3 : Int32) (h : am_H), Sim m_X7_belongUnder d 4 [some (.inr (.inr (some a0))), some (.inl x1), some (.inl x2), some (.inl x3)] [] h (f_X7_belongUnder_4  n a0 x1 x2 x3 h) := by
  intro n
  induction n with
  | zero => intros; exact sim_none
  | succ n hrc4 =>
    intro a0 x1 x2 x3 h
    rw [f_X7_belongUnder_4]
    refine sim_iload_n dX7_belongUnder_4 rfl ?_
    refine sim_aload_n dX7_belongUnder_5 rfl ?_
    refine sim_gI 7 0 dX7_belongUnder_6 rfl wf_RX7_21 (Nat.le_of_ble_eq_true rfl) rfl (fun v1 => ?_)
    refine sim_ic_ge 59 dX7_belongUnder_9 (by decide) (fun c => ?_) (fun c => ?_)
    · refine sim_iload_n dX7_belongUnder_59 rfl ?_
      exact sim_iret dX7_belongUnder_60 rfl
    · refine sim_iload_n dX7_belongUnder_12 rfl ?_
      refine sim_iload_n dX7_belongUnder_13 rfl ?_
      refine sim_staticN (d - 1) dX7_belongUnder_14 (k_X10_has (d - 1) (by omega) _ _ _) q_X10_has wn_RX7_25 rfl rfl (by omega) (Nat.le_of_ble_eq_true rfl) am_nJ am_xJ (am_rJ fun h2 v3 => ?_)
      refine sim_if_eq 53 dX7_belongUnder_17 (by decide) (fun c => ?_) (fun c => ?_)
      · exact sim_lv (am_leS (am_leS (am_leS (am_leS am_leT)))) (t_X7_belongUnder_53 d (by omega) _ hrc4 _ _ _ _ _)
      · refine sim_aload_n dX7_belongUnder_20 rfl ?_
        refine sim_gR 7 1 dX7_belongUnder_21 rfl wf_RX7_9 (Nat.le_of_ble_eq_true rfl) rfl (fun o4 => ?_)
        refine sim_iload_n dX7_belongUnder_24 rfl ?_
        refine sim_aI dX7_belongUnder_25 (fun v5 => ?_)
        refine sim_iconst (-1) dX7_belongUnder_26 (by decide +kernel) ?_
        refine sim_ic_eq 53 dX7_belongUnder_27 (by decide) (fun c => ?_) (fun c => ?_)
        · exact sim_lv (am_leS (am_leS (am_leS (am_leS am_leT)))) (t_X7_belongUnder_53 d (by omega) _ hrc4 _ _ _ _ _)
        · refine sim_iload_n dX7_belongUnder_30 rfl ?_
          refine sim_iconst (1) dX7_belongUnder_31 (by decide +kernel) ?_
          refine sim_aload_n dX7_belongUnder_32 rfl ?_
          refine sim_gR 7 1 dX7_belongUnder_33 rfl wf_RX7_9 (Nat.le_of_ble_eq_true rfl) rfl (fun o6 => ?_)
          refine sim_iload_n dX7_belongUnder_36 rfl ?_
          refine sim_aI dX7_belongUnder_37 (fun v7 => ?_)
          refine sim_ishl dX7_belongUnder_38 ?_
          refine sim_aload_n dX7_belongUnder_39 rfl ?_
          refine sim_gR 7 3 dX7_belongUnder_40 rfl wf_RX7_18 (Nat.le_of_ble_eq_true rfl) rfl (fun o8 => ?_)
          refine sim_aload_n dX7_belongUnder_43 rfl ?_
          refine sim_gR 7 1 dX7_belongUnder_44 rfl wf_RX7_9 (Nat.le_of_ble_eq_true rfl) rfl (fun o9 => ?_)
          refine sim_iload_n dX7_belongUnder_47 rfl ?_
          refine sim_aI dX7_belongUnder_48 (fun v10 => ?_)
          refine sim_aI dX7_belongUnder_49 (fun v11 => ?_)
          refine sim_ior dX7_belongUnder_50 ?_
          refine sim_ior dX7_belongUnder_51 ?_
          refine sim_istore_n dX7_belongUnder_52 (Nat.le_of_ble_eq_true rfl) ?_
          exact sim_lv (am_leS (am_leS (am_leS (am_leS am_leT)))) (t_X7_belongUnder_53 d (by omega) _ hrc4 _ _ _ _ _)
def f_X7_belongUnder (a0 : Nat × Nat) (x1 : Int32) (h : am_H) : am_R := f_X7_belongUnder_4 5000 a0 x1 (0 : Int32) (0 : Int32) h
theorem k_X7_belongUnder (d : Nat) (hd : 1 ≤ d) (a0 : Nat × Nat) (x1 : Int32) (h : am_H) : am_Con m_X7_belongUnder d [.inr (.inr (some a0)), .inl x1] h (f_X7_belongUnder a0 x1 h) := am_con (by decide +kernel) (Nat.le_of_ble_eq_true rfl) (by
  unfold f_X7_belongUnder
  refine sim_iconst (0) dX7_belongUnder_0 (by decide +kernel) ?_
  refine sim_istore_n dX7_belongUnder_1 (Nat.le_of_ble_eq_true rfl) ?_
  refine sim_iconst (0) dX7_belongUnder_2 (by decide +kernel) ?_
  refine sim_istore_n dX7_belongUnder_3 (Nat.le_of_ble_eq_true rfl) ?_
  exact sim_lv (am_leS (am_leS (am_leS (am_leS am_leT)))) (t_X7_belongUnder_4 d (by omega) _ _ _ _ _ _))
theorem q_X7_belongUnder : am_Cal m_X7_belongUnder 1 2 := ⟨am_mem 348 (w := Cond.code yX7_belongUnder cX7_belongUnder 4 (some .int)) (by decide +kernel) rfl, am_mem 57 (w := Cond.initialized RX7) (by decide +kernel) rfl, fun z => absurd z (by decide), fun _ => am_mem 346 (w := Cond.instanceMethod yX7_belongUnder) (by decide +kernel) rfl, fun z => absurd z (by decide), fun _ => am_mem 347 (w := Cond.selects RX7 yX7_belongUnder yX7_belongUnder) (by decide +kernel) rfl, by decide +kernel, by decide +kernel, Nat.le_of_ble_eq_true rfl⟩
abbrev m_X7_meaningsOf : am_M := (yX7_meaningsOf, cX7_meaningsOf, 4, some .int, [])
def f_X7_meaningsOf_41 (rc4 : Nat × Nat → Int32 → Int32 → Int32 → am_H → am_R) (a0 : Nat × Nat) (x1 : Int32) (x2 : Int32) (x3 : Int32) (h : am_H) : am_R := rc4 a0 x1 x2 (x3 + 1) h
theorem t_X7_meaningsOf_41 (d : Nat) (hd : 1 ≤ d) (rc4 : Nat × Nat → Int32 → Int32 → Int32 → am_H → am_R) (hrc4 : ∀ a0 x1 x2 x3 h, Sim m_X7_meaningsOf d 4 [some (.inr (.inr (some a0))), some (.inl x1), some (.inl x2), some (.inl x3)] [] h (rc4 a0 x1 x2 x3 h)) (a0 : Nat × Nat) (x1 : Int32) (x2 : Int32) (x3 : Int32) (h : am_H) : Sim m_X7_meaningsOf d 41 [some (.inr (.inr (some a0))), some (.inl x1), some (.inl x2), some (.inl x3)] [] h (f_X7_meaningsOf_41 rc4 a0 x1 x2 x3 h) := by
  unfold f_X7_meaningsOf_41
  refine sim_iinc (1) dX7_meaningsOf_41 rfl (by decide +kernel) (Nat.le_of_ble_eq_true rfl) ?_
  refine sim_goto 4 dX7_meaningsOf_44 (by decide) ?_
  exact sim_lv (am_leS (am_leS (am_leS (am_leS am_leT)))) (hrc4 _ _ _ _ _)
def f_X7_meaningsOf_4  : Nat → Nat × Nat → Int32 → Int32 → Int32 → am_H → am_R
  | 0, _, _, _, _, _ => none
  | n + 1, a0, x1, x2, x3, h => m_gI (some a0) 7 0 h fun v1 => if v1 ≤ x3 then (m_ri h x2) else (m_bJ (f_X10_has x1 x3 h) fun h2 v3 => if v3 = 0 then (f_X7_meaningsOf_41 (f_X7_meaningsOf_4  n) a0 x1 x2 x3 h2) else (m_gR (some a0) 7 1 h2 fun o4 => m_aI o4 0 x3 h2 fun v5 => if v5 = (-1 : Int32) then (f_X7_meaningsOf_41 (f_X7_meaningsOf_4  n) a0 x1 x2 x3 h2) else (m_gR (some a0) 7 1 h2 fun o6 => m_aI o6 0 x3 h2 fun v7 => f_X7_meaningsOf_41 (f_X7_meaningsOf_4  n) a0 x1 (x2 ||| ((1 : Int32) <<< (v7 &&& 31))) x3 h2)))
theorem t_X7_meaningsOf_4 (d : Nat) (hd : 1 ≤ d)  : ∀ (n : Nat) (a0 : Nat × Nat) (x1 : Int32) (x2 : Int32) (x3 : Int32) (h : am_H), Sim m_X7_meaningsOf d 4 [some (.inr (.inr (some a0))), some (.inl x1), some (.inl x2), some (.inl x3)] [] h (f_X7_meaningsOf_4  n a0 x1 x2 x3 h) := by
  intro n
  induction n with
  | zero => intros; exact sim_none
  | succ n hrc4 =>
    intro a0 x1 x2 x3 h
    rw [f_X7_meaningsOf_4]
    refine sim_iload_n dX7_meaningsOf_4 rfl ?_
    refine sim_aload_n dX7_meaningsOf_5 rfl ?_
    refine sim_gI 7 0 dX7_meaningsOf_6 rfl wf_RX7_21 (Nat.le_of_ble_eq_true rfl) rfl (fun v1 => ?_)
    refine sim_ic_ge 47 dX7_meaningsOf_9 (by decide) (fun c => ?_) (fun c => ?_)
    · refine sim_iload_n dX7_meaningsOf_47 rfl ?_
      exact sim_iret dX7_meaningsOf_48 rfl
    · refine sim_iload_n dX7_meaningsOf_12 rfl ?_
      refine sim_iload_n dX7_meaningsOf_13 rfl ?_
      refine sim_staticN (d - 1) dX7_meaningsOf_14 (k_X10_has (d - 1) (by omega) _ _ _) q_X10_has wn_RX7_25 rfl rfl (by omega) (Nat.le_of_ble_eq_true rfl) am_nJ am_xJ (am_rJ fun h2 v3 => ?_)
      refine sim_if_eq 41 dX7_meaningsOf_17 (by decide) (fun c => ?_) (fun c => ?_)
      · exact sim_lv (am_leS (am_leS (am_leS (am_leS am_leT)))) (t_X7_meaningsOf_41 d (by omega) _ hrc4 _ _ _ _ _)
      · refine sim_aload_n dX7_meaningsOf_20 rfl ?_
        refine sim_gR 7 1 dX7_meaningsOf_21 rfl wf_RX7_9 (Nat.le_of_ble_eq_true rfl) rfl (fun o4 => ?_)
        refine sim_iload_n dX7_meaningsOf_24 rfl ?_
        refine sim_aI dX7_meaningsOf_25 (fun v5 => ?_)
        refine sim_iconst (-1) dX7_meaningsOf_26 (by decide +kernel) ?_
        refine sim_ic_eq 41 dX7_meaningsOf_27 (by decide) (fun c => ?_) (fun c => ?_)
        · exact sim_lv (am_leS (am_leS (am_leS (am_leS am_leT)))) (t_X7_meaningsOf_41 d (by omega) _ hrc4 _ _ _ _ _)
        · refine sim_iload_n dX7_meaningsOf_30 rfl ?_
          refine sim_iconst (1) dX7_meaningsOf_31 (by decide +kernel) ?_
          refine sim_aload_n dX7_meaningsOf_32 rfl ?_
          refine sim_gR 7 1 dX7_meaningsOf_33 rfl wf_RX7_9 (Nat.le_of_ble_eq_true rfl) rfl (fun o6 => ?_)
          refine sim_iload_n dX7_meaningsOf_36 rfl ?_
          refine sim_aI dX7_meaningsOf_37 (fun v7 => ?_)
          refine sim_ishl dX7_meaningsOf_38 ?_
          refine sim_ior dX7_meaningsOf_39 ?_
          refine sim_istore_n dX7_meaningsOf_40 (Nat.le_of_ble_eq_true rfl) ?_
          exact sim_lv (am_leS (am_leS (am_leS (am_leS am_leT)))) (t_X7_meaningsOf_41 d (by omega) _ hrc4 _ _ _ _ _)
def f_X7_meaningsOf (a0 : Nat × Nat) (x1 : Int32) (h : am_H) : am_R := f_X7_meaningsOf_4 5000 a0 x1 (0 : Int32) (0 : Int32) h
theorem k_X7_meaningsOf (d : Nat) (hd : 1 ≤ d) (a0 : Nat × Nat) (x1 : Int32) (h : am_H) : am_Con m_X7_meaningsOf d [.inr (.inr (some a0)), .inl x1] h (f_X7_meaningsOf a0 x1 h) := am_con (by decide +kernel) (Nat.le_of_ble_eq_true rfl) (by
  unfold f_X7_meaningsOf
  refine sim_iconst (0) dX7_meaningsOf_0 (by decide +kernel) ?_
  refine sim_istore_n dX7_meaningsOf_1 (Nat.le_of_ble_eq_true rfl) ?_
  refine sim_iconst (0) dX7_meaningsOf_2 (by decide +kernel) ?_
  refine sim_istore_n dX7_meaningsOf_3 (Nat.le_of_ble_eq_true rfl) ?_
  exact sim_lv (am_leS (am_leS (am_leS (am_leS am_leT)))) (t_X7_meaningsOf_4 d (by omega) _ _ _ _ _ _))
theorem q_X7_meaningsOf : am_Cal m_X7_meaningsOf 1 2 := ⟨am_mem 343 (w := Cond.code yX7_meaningsOf cX7_meaningsOf 4 (some .int)) (by decide +kernel) rfl, am_mem 57 (w := Cond.initialized RX7) (by decide +kernel) rfl, fun z => absurd z (by decide), fun _ => am_mem 341 (w := Cond.instanceMethod yX7_meaningsOf) (by decide +kernel) rfl, fun z => absurd z (by decide), fun _ => am_mem 342 (w := Cond.selects RX7 yX7_meaningsOf yX7_meaningsOf) (by decide +kernel) rfl, by decide +kernel, by decide +kernel, Nat.le_of_ble_eq_true rfl⟩
abbrev m_X6_suits : am_M := (yX6_suits, cX6_suits, 3, some .boolean, [])
def f_X6_suits_55  (s0 : Int32) (h : am_H) : am_R := m_rz h s0
theorem t_X6_suits_55 (d : Nat) (hd : 2 ≤ d)  (s0 : Int32) (h : am_H) : Sim m_X6_suits d 55 [none, none, none] [.inl s0] h (f_X6_suits_55  s0 h) := by
  unfold f_X6_suits_55
  exact sim_zret dX6_suits_55 rfl
def f_X6_suits_28   (h : am_H) : am_R := m_rz h (0 : Int32)
theorem t_X6_suits_28 (d : Nat) (hd : 2 ≤ d)   (h : am_H) : Sim m_X6_suits d 28 [none, none, none] [] h (f_X6_suits_28   h) := by
  unfold f_X6_suits_28
  refine sim_iconst (0) dX6_suits_28 (by decide +kernel) ?_
  exact sim_zret dX6_suits_29 rfl
def f_X6_suits (a0 : Nat × Nat) (x1 : Option (Nat × Nat)) (x2 : Option (Nat × Nat)) (h : am_H) : am_R := m_gI (some a0) 6 3 h fun v1 => m_gI x1 6 0 h fun v2 => m_bJ (f_X10_has v1 v2 h) fun h3 v4 => if v4 = 0 then (m_gI x1 6 3 h3 fun v5 => m_gI (some a0) 6 0 h3 fun v6 => m_bJ (f_X10_has v5 v6 h3) fun h7 v8 => if v8 = 0 then (m_gI x1 6 1 h7 fun v9 => m_ao x2 7 fun a12 => m_bI (f_X7_meaningsOf a12 v9 h7) fun h10 v11 => m_gI (some a0) 6 2 h10 fun v13 => m_ao x2 7 fun a16 => m_bI (f_X7_belongUnder a16 v13 h10) fun h14 v15 => if (v11 &&& v15) = 0 then (f_X6_suits_55 (0 : Int32) h14) else (f_X6_suits_55 (1 : Int32) h14)) else (f_X6_suits_28 h7)) else (f_X6_suits_28 h3)
theorem k_X6_suits (d : Nat) (hd : 2 ≤ d) (a0 : Nat × Nat) (x1 : Option (Nat × Nat)) (x2 : Option (Nat × Nat)) (h : am_H) : am_Con m_X6_suits d [.inr (.inr (some a0)), .inr (.inr x1), .inr (.inr x2)] h (f_X6_suits a0 x1 x2 h) := am_con (by decide +kernel) (Nat.le_of_ble_eq_true rfl) (by
  unfold f_X6_suits
  refine sim_aload_n dX6_suits_0 rfl ?_
  refine sim_gI 6 3 dX6_suits_1 rfl wf_RX6_19 (Nat.le_of_ble_eq_true rfl) rfl (fun v1 => ?_)
  refine sim_aload_n dX6_suits_4 rfl ?_
  refine sim_gI 6 0 dX6_suits_5 rfl wf_RX6_7 (Nat.le_of_ble_eq_true rfl) rfl (fun v2 => ?_)
  refine sim_staticN (d - 1) dX6_suits_8 (k_X10_has (d - 1) (by omega) _ _ _) q_X10_has wn_RX6_22 rfl rfl (by omega) (Nat.le_of_ble_eq_true rfl) am_nJ am_xJ (am_rJ fun h3 v4 => ?_)
  refine sim_if_ne 28 dX6_suits_11 (by decide) (fun c => ?_) (fun c => ?_)
  · exact sim_lv (am_leN (am_leN (am_leN am_leT))) (t_X6_suits_28 d (by omega) _)
  · refine sim_aload_n dX6_suits_14 rfl ?_
    refine sim_gI 6 3 dX6_suits_15 rfl wf_RX6_19 (Nat.le_of_ble_eq_true rfl) rfl (fun v5 => ?_)
    refine sim_aload_n dX6_suits_18 rfl ?_
    refine sim_gI 6 0 dX6_suits_19 rfl wf_RX6_7 (Nat.le_of_ble_eq_true rfl) rfl (fun v6 => ?_)
    refine sim_staticN (d - 1) dX6_suits_22 (k_X10_has (d - 1) (by omega) _ _ _) q_X10_has wn_RX6_22 rfl rfl (by omega) (Nat.le_of_ble_eq_true rfl) am_nJ am_xJ (am_rJ fun h7 v8 => ?_)
    refine sim_if_eq 30 dX6_suits_25 (by decide) (fun c => ?_) (fun c => ?_)
    · refine sim_aload_n dX6_suits_30 rfl ?_
      refine sim_aload_n dX6_suits_31 rfl ?_
      refine sim_gI 6 1 dX6_suits_32 rfl wf_RX6_13 (Nat.le_of_ble_eq_true rfl) rfl (fun v9 => ?_)
      refine sim_ao1 (fun a12 e => ?_)
      refine sim_virt (d - 1) e dX6_suits_35 (k_X7_meaningsOf (d - 1) (by omega) _ _ _) q_X7_meaningsOf rfl rfl wm_RX6_28 rfl rfl (by omega) (Nat.le_of_ble_eq_true rfl) am_nI (am_rI fun h10 v11 => ?_) am_eI
      refine sim_aload_n dX6_suits_38 rfl ?_
      refine sim_aload_n dX6_suits_39 rfl ?_
      refine sim_gI 6 2 dX6_suits_40 rfl wf_RX6_16 (Nat.le_of_ble_eq_true rfl) rfl (fun v13 => ?_)
      refine sim_ao1 (fun a16 e => ?_)
      refine sim_virt (d - 1) e dX6_suits_43 (k_X7_belongUnder (d - 1) (by omega) _ _ _) q_X7_belongUnder rfl rfl wm_RX6_34 rfl rfl (by omega) (Nat.le_of_ble_eq_true rfl) am_nI (am_rI fun h14 v15 => ?_) am_eI
      refine sim_iand dX6_suits_46 ?_
      refine sim_if_eq 54 dX6_suits_47 (by decide) (fun c => ?_) (fun c => ?_)
      · refine sim_iconst (0) dX6_suits_54 (by decide +kernel) ?_
        exact sim_lv (am_leN (am_leN (am_leN am_leT))) (t_X6_suits_55 d (by omega) _ _)
      · refine sim_iconst (1) dX6_suits_50 (by decide +kernel) ?_
        refine sim_goto 55 dX6_suits_51 (by decide) ?_
        exact sim_lv (am_leN (am_leN (am_leN am_leT))) (t_X6_suits_55 d (by omega) _ _)
    · exact sim_lv (am_leN (am_leN (am_leN am_leT))) (t_X6_suits_28 d (by omega) _))
theorem q_X6_suits : am_Cal m_X6_suits 2 2 := ⟨am_mem 336 (w := Cond.code yX6_suits cX6_suits 3 (some .boolean)) (by decide +kernel) rfl, am_mem 76 (w := Cond.initialized RX6) (by decide +kernel) rfl, fun z => absurd z (by decide), fun _ => am_mem 334 (w := Cond.instanceMethod yX6_suits) (by decide +kernel) rfl, fun z => absurd z (by decide), fun _ => am_mem 335 (w := Cond.selects RX6 yX6_suits yX6_suits) (by decide +kernel) rfl, by decide +kernel, by decide +kernel, Nat.le_of_ble_eq_true rfl⟩
abbrev m_X2_findReceivers : am_M := (yX2_findReceivers, cX2_findReceivers, 6, none, [])
def f_X2_findReceivers_55 (rc2 : Nat × Nat → Option (Nat × Nat) → Int32 → am_H → am_R) (rc15 : Nat × Nat → Option (Nat × Nat) → Int32 → Int32 → Int32 → am_H → am_R) (a0 : Nat × Nat) (x1 : Option (Nat × Nat)) (x2 : Int32) (x3 : Int32) (x4 : Int32) (s0 : Int32) (h : am_H) : am_R := m_bJ (f_X10_with x3 x4 s0 h) fun h12 v13 => rc15 a0 x1 x2 v13 (x4 + 1) h12
theorem t_X2_findReceivers_55 (d : Nat) (hd : 3 ≤ d) (rc2 : Nat × Nat → Option (Nat × Nat) → Int32 → am_H → am_R) (hrc2 : ∀ a0 x1 x2 h, Sim m_X2_findReceivers d 2 [some (.inr (.inr (some a0))), some (.inr (.inr x1)), some (.inl x2), none, none, none] [] h (rc2 a0 x1 x2 h)) (rc15 : Nat × Nat → Option (Nat × Nat) → Int32 → Int32 → Int32 → am_H → am_R) (hrc15 : ∀ a0 x1 x2 x3 x4 h, Sim m_X2_findReceivers d 15 [some (.inr (.inr (some a0))), some (.inr (.inr x1)), some (.inl x2), some (.inl x3), some (.inl x4), none] [] h (rc15 a0 x1 x2 x3 x4 h)) (a0 : Nat × Nat) (x1 : Option (Nat × Nat)) (x2 : Int32) (x3 : Int32) (x4 : Int32) (s0 : Int32) (h : am_H) : Sim m_X2_findReceivers d 55 [some (.inr (.inr (some a0))), some (.inr (.inr x1)), some (.inl x2), some (.inl x3), some (.inl x4), none] [.inl s0] h (f_X2_findReceivers_55 rc2 rc15 a0 x1 x2 x3 x4 s0 h) := by
  unfold f_X2_findReceivers_55
  refine sim_istore dX2_findReceivers_55 (Nat.le_of_ble_eq_true rfl) ?_
  refine sim_iload_n dX2_findReceivers_57 rfl ?_
  refine sim_iload dX2_findReceivers_58 rfl ?_
  refine sim_iload dX2_findReceivers_60 rfl ?_
  refine sim_staticN (d - 1) dX2_findReceivers_62 (k_X10_with (d - 1) (by omega) _ _ _ _) q_X10_with wn_RX2_39 rfl rfl (by omega) (Nat.le_of_ble_eq_true rfl) am_nJ am_xJ (am_rJ fun h12 v13 => ?_)
  refine sim_istore_n dX2_findReceivers_65 (Nat.le_of_ble_eq_true rfl) ?_
  refine sim_iinc (1) dX2_findReceivers_66 rfl (by decide +kernel) (Nat.le_of_ble_eq_true rfl) ?_
  refine sim_goto 15 dX2_findReceivers_69 (by decide) ?_
  exact sim_lv (am_leS (am_leS (am_leS (am_leS (am_leS (am_leN am_leT)))))) (hrc15 _ _ _ _ _ _)
def f_X2_findReceivers_54 (rc2 : Nat × Nat → Option (Nat × Nat) → Int32 → am_H → am_R) (rc15 : Nat × Nat → Option (Nat × Nat) → Int32 → Int32 → Int32 → am_H → am_R) (a0 : Nat × Nat) (x1 : Option (Nat × Nat)) (x2 : Int32) (x3 : Int32) (x4 : Int32) (h : am_H) : am_R := f_X2_findReceivers_55 rc2 rc15 a0 x1 x2 x3 x4 (0 : Int32) h
theorem t_X2_findReceivers_54 (d : Nat) (hd : 3 ≤ d) (rc2 : Nat × Nat → Option (Nat × Nat) → Int32 → am_H → am_R) (hrc2 : ∀ a0 x1 x2 h, Sim m_X2_findReceivers d 2 [some (.inr (.inr (some a0))), some (.inr (.inr x1)), some (.inl x2), none, none, none] [] h (rc2 a0 x1 x2 h)) (rc15 : Nat × Nat → Option (Nat × Nat) → Int32 → Int32 → Int32 → am_H → am_R) (hrc15 : ∀ a0 x1 x2 x3 x4 h, Sim m_X2_findReceivers d 15 [some (.inr (.inr (some a0))), some (.inr (.inr x1)), some (.inl x2), some (.inl x3), some (.inl x4), none] [] h (rc15 a0 x1 x2 x3 x4 h)) (a0 : Nat × Nat) (x1 : Option (Nat × Nat)) (x2 : Int32) (x3 : Int32) (x4 : Int32) (h : am_H) : Sim m_X2_findReceivers d 54 [some (.inr (.inr (some a0))), some (.inr (.inr x1)), some (.inl x2), some (.inl x3), some (.inl x4), none] [] h (f_X2_findReceivers_54 rc2 rc15 a0 x1 x2 x3 x4 h) := by
  unfold f_X2_findReceivers_54
  refine sim_iconst (0) dX2_findReceivers_54 (by decide +kernel) ?_
  exact sim_lv (am_leS (am_leS (am_leS (am_leS (am_leS (am_leN am_leT)))))) (t_X2_findReceivers_55 d (by omega) _ hrc2 _ hrc15 _ _ _ _ _ _ _)
def f_X2_findReceivers_15 (rc2 : Nat × Nat → Option (Nat × Nat) → Int32 → am_H → am_R) : Nat → Nat × Nat → Option (Nat × Nat) → Int32 → Int32 → Int32 → am_H → am_R
  | 0, _, _, _, _, _, _ => none
  | n + 1, a0, x1, x2, x3, x4, h => m_gI (some a0) 2 1 h fun v2 => if v2 ≤ x4 then (m_gR (some a0) 2 2 h fun o3 => m_sI o3 x2 x3 h fun h4 => rc2 a0 x1 (x2 + 1) h4) else (if x2 = x4 then (f_X2_findReceivers_54 rc2 (f_X2_findReceivers_15 rc2 n) a0 x1 x2 x3 x4 h) else (m_gR (some a0) 2 0 h fun o5 => m_aR o5 8 x2 h fun o6 => m_gR (some a0) 2 0 h fun o7 => m_aR o7 8 x4 h fun o8 => m_ao o6 6 fun a11 => m_bI (f_X6_suits a11 o8 x1 h) fun h9 v10 => if v10 = 0 then (f_X2_findReceivers_54 rc2 (f_X2_findReceivers_15 rc2 n) a0 x1 x2 x3 x4 h9) else (f_X2_findReceivers_55 rc2 (f_X2_findReceivers_15 rc2 n) a0 x1 x2 x3 x4 (1 : Int32) h9)))
theorem t_X2_findReceivers_15 (d : Nat) (hd : 3 ≤ d) (rc2 : Nat × Nat → Option (Nat × Nat) → Int32 → am_H → am_R) (hrc2 : ∀ a0 x1 x2 h, Sim m_X2_findReceivers d 2 [some (.inr (.inr (some a0))), some (.inr (.inr x1)), some (.inl x2), none, none, none] [] h (rc2 a0 x1 x2 h)) : ∀ (n : Nat) (a0 : Nat × Nat) (x1 : Option (Nat × Nat)) (x2 : Int32) (x3 : Int32) (x4 : Int32) (h : am_H), Sim m_X2_findReceivers d 15 [some (.inr (.inr (some a0))), some (.inr (.inr x1)), some (.inl x2), some (.inl x3), some (.inl x4), none] [] h (f_X2_findReceivers_15 rc2 n a0 x1 x2 x3 x4 h) := by
  intro n
  induction n with
  | zero => intros; exact sim_none
  | succ n hrc15 =>
    intro a0 x1 x2 x3 x4 h
    rw [f_X2_findReceivers_15]
    refine sim_iload dX2_findReceivers_15 rfl ?_
    refine sim_aload_n dX2_findReceivers_17 rfl ?_
    refine sim_gI 2 1 dX2_findReceivers_18 rfl wf_RX2_24 (Nat.le_of_ble_eq_true rfl) rfl (fun v2 => ?_)
    refine sim_ic_ge 72 dX2_findReceivers_21 (by decide) (fun c => ?_) (fun c => ?_)
    · refine sim_aload_n dX2_findReceivers_72 rfl ?_
      refine sim_gR 2 2 dX2_findReceivers_73 rfl wf_RX2_17 (Nat.le_of_ble_eq_true rfl) rfl (fun o3 => ?_)
      refine sim_iload_n dX2_findReceivers_76 rfl ?_
      refine sim_iload_n dX2_findReceivers_77 rfl ?_
      refine sim_sI dX2_findReceivers_78 (fun h4 => ?_)
      refine sim_iinc (1) dX2_findReceivers_79 rfl (by decide +kernel) (Nat.le_of_ble_eq_true rfl) ?_
      refine sim_goto 2 dX2_findReceivers_82 (by decide) ?_
      exact sim_lv (am_leS (am_leS (am_leS (am_leN (am_leN (am_leN am_leT)))))) (hrc2 _ _ _ _)
    · refine sim_iload_n dX2_findReceivers_24 rfl ?_
      refine sim_iload dX2_findReceivers_25 rfl ?_
      refine sim_ic_eq 54 dX2_findReceivers_27 (by decide) (fun c => ?_) (fun c => ?_)
      · exact sim_lv (am_leS (am_leS (am_leS (am_leS (am_leS (am_leN am_leT)))))) (t_X2_findReceivers_54 d (by omega) _ hrc2 _ hrc15 _ _ _ _ _ _)
      · refine sim_aload_n dX2_findReceivers_30 rfl ?_
        refine sim_gR 2 0 dX2_findReceivers_31 rfl wf_RX2_11 (Nat.le_of_ble_eq_true rfl) rfl (fun o5 => ?_)
        refine sim_iload_n dX2_findReceivers_34 rfl ?_
        refine sim_aR 8 rfl dX2_findReceivers_35 (fun o6 => ?_)
        refine sim_aload_n dX2_findReceivers_36 rfl ?_
        refine sim_gR 2 0 dX2_findReceivers_37 rfl wf_RX2_11 (Nat.le_of_ble_eq_true rfl) rfl (fun o7 => ?_)
        refine sim_iload dX2_findReceivers_40 rfl ?_
        refine sim_aR 8 rfl dX2_findReceivers_42 (fun o8 => ?_)
        refine sim_aload_n dX2_findReceivers_43 rfl ?_
        refine sim_ao2 (fun a11 e => ?_)
        refine sim_virt (d - 1) e dX2_findReceivers_44 (k_X6_suits (d - 1) (by omega) _ _ _ _) q_X6_suits rfl rfl wm_RX2_56 rfl rfl (by omega) (Nat.le_of_ble_eq_true rfl) am_nI (am_rI fun h9 v10 => ?_) am_eI
        refine sim_if_eq 54 dX2_findReceivers_47 (by decide) (fun c => ?_) (fun c => ?_)
        · exact sim_lv (am_leS (am_leS (am_leS (am_leS (am_leS (am_leN am_leT)))))) (t_X2_findReceivers_54 d (by omega) _ hrc2 _ hrc15 _ _ _ _ _ _)
        · refine sim_iconst (1) dX2_findReceivers_50 (by decide +kernel) ?_
          refine sim_goto 55 dX2_findReceivers_51 (by decide) ?_
          exact sim_lv (am_leS (am_leS (am_leS (am_leS (am_leS (am_leN am_leT)))))) (t_X2_findReceivers_55 d (by omega) _ hrc2 _ hrc15 _ _ _ _ _ _ _)
def f_X2_findReceivers_2  : Nat → Nat × Nat → Option (Nat × Nat) → Int32 → am_H → am_R
  | 0, _, _, _, _ => none
  | n + 1, a0, x1, x2, h => m_gI (some a0) 2 1 h fun v1 => if v1 ≤ x2 then (m_rt h none) else (f_X2_findReceivers_15 (f_X2_findReceivers_2  n) 5000 a0 x1 x2 (0 : Int32) (0 : Int32) h)
theorem t_X2_findReceivers_2 (d : Nat) (hd : 3 ≤ d)  : ∀ (n : Nat) (a0 : Nat × Nat) (x1 : Option (Nat × Nat)) (x2 : Int32) (h : am_H), Sim m_X2_findReceivers d 2 [some (.inr (.inr (some a0))), some (.inr (.inr x1)), some (.inl x2), none, none, none] [] h (f_X2_findReceivers_2  n a0 x1 x2 h) := by
  intro n
  induction n with
  | zero => intros; exact sim_none
  | succ n hrc2 =>
    intro a0 x1 x2 h
    rw [f_X2_findReceivers_2]
    refine sim_iload_n dX2_findReceivers_2 rfl ?_
    refine sim_aload_n dX2_findReceivers_3 rfl ?_
    refine sim_gI 2 1 dX2_findReceivers_4 rfl wf_RX2_24 (Nat.le_of_ble_eq_true rfl) rfl (fun v1 => ?_)
    refine sim_ic_ge 85 dX2_findReceivers_7 (by decide) (fun c => ?_) (fun c => ?_)
    · exact sim_vret dX2_findReceivers_85 rfl
    · refine sim_iconst (0) dX2_findReceivers_10 (by decide +kernel) ?_
      refine sim_istore_n dX2_findReceivers_11 (Nat.le_of_ble_eq_true rfl) ?_
      refine sim_iconst (0) dX2_findReceivers_12 (by decide +kernel) ?_
      refine sim_istore dX2_findReceivers_13 (Nat.le_of_ble_eq_true rfl) ?_
      exact sim_lv (am_leS (am_leS (am_leS (am_leS (am_leS (am_leN am_leT)))))) (t_X2_findReceivers_15 d (by omega) _ hrc2 _ _ _ _ _ _ _)
def f_X2_findReceivers (a0 : Nat × Nat) (x1 : Option (Nat × Nat)) (h : am_H) : am_R := f_X2_findReceivers_2 5000 a0 x1 (0 : Int32) h
theorem k_X2_findReceivers (d : Nat) (hd : 3 ≤ d) (a0 : Nat × Nat) (x1 : Option (Nat × Nat)) (h : am_H) : am_Con m_X2_findReceivers d [.inr (.inr (some a0)), .inr (.inr x1)] h (f_X2_findReceivers a0 x1 h) := am_con (by decide +kernel) (Nat.le_of_ble_eq_true rfl) (by
  unfold f_X2_findReceivers
  refine sim_iconst (0) dX2_findReceivers_0 (by decide +kernel) ?_
  refine sim_istore_n dX2_findReceivers_1 (Nat.le_of_ble_eq_true rfl) ?_
  exact sim_lv (am_leS (am_leS (am_leS (am_leN (am_leN (am_leN am_leT)))))) (t_X2_findReceivers_2 d (by omega) _ _ _ _ _))
theorem q_X2_findReceivers : am_Cal m_X2_findReceivers 1 2 := ⟨am_mem 332 (w := Cond.code yX2_findReceivers cX2_findReceivers 6 none) (by decide +kernel) rfl, am_mem 61 (w := Cond.initialized RX2) (by decide +kernel) rfl, fun z => absurd z (by decide), fun _ => am_mem 331 (w := Cond.instanceMethod yX2_findReceivers) (by decide +kernel) rfl, fun z => absurd z (by decide), fun _ => am_mem 4 (w := Cond.selects RX2 yX2_findReceivers yX2_findReceivers) (by decide +kernel) rfl, by decide +kernel, by decide +kernel, Nat.le_of_ble_eq_true rfl⟩
abbrev m_X2_findWays : am_M := (yX2_findWays, cX2_findWays, 7, none, [])
def f_X2_findWays_87 (rc25 : Nat × Nat → Int32 → am_H → am_R) (rc50 : Nat × Nat → Int32 → Int32 → Int32 → Int32 → am_H → am_R) (a0 : Nat × Nat) (x3 : Int32) (x4 : Int32) (x6 : Int32) (s0 : Int32) (s1 : Int32) (h : am_H) : am_R := rc50 a0 x3 x4 (s1 + s0) (x6 + 1) h
theorem t_X2_findWays_87 (d : Nat) (hd : 4 ≤ d) (rc25 : Nat × Nat → Int32 → am_H → am_R) (hrc25 : ∀ a0 x3 h, Sim m_X2_findWays d 25 [some (.inr (.inr (some a0))), none, none, some (.inl x3), none, none, none] [] h (rc25 a0 x3 h)) (rc50 : Nat × Nat → Int32 → Int32 → Int32 → Int32 → am_H → am_R) (hrc50 : ∀ a0 x3 x4 x5 x6 h, Sim m_X2_findWays d 50 [some (.inr (.inr (some a0))), none, none, some (.inl x3), some (.inl x4), some (.inl x5), some (.inl x6)] [] h (rc50 a0 x3 x4 x5 x6 h)) (a0 : Nat × Nat) (x3 : Int32) (x4 : Int32) (x6 : Int32) (s0 : Int32) (s1 : Int32) (h : am_H) : Sim m_X2_findWays d 87 [some (.inr (.inr (some a0))), none, none, some (.inl x3), some (.inl x4), none, some (.inl x6)] [.inl s0, .inl s1] h (f_X2_findWays_87 rc25 rc50 a0 x3 x4 x6 s0 s1 h) := by
  unfold f_X2_findWays_87
  refine sim_iadd dX2_findWays_87 ?_
  refine sim_istore dX2_findWays_88 (Nat.le_of_ble_eq_true rfl) ?_
  refine sim_iinc (1) dX2_findWays_90 rfl (by decide +kernel) (Nat.le_of_ble_eq_true rfl) ?_
  refine sim_goto 50 dX2_findWays_93 (by decide) ?_
  exact sim_lv (am_leS (am_leN (am_leN (am_leS (am_leS (am_leS (am_leS am_leT))))))) (hrc50 _ _ _ _ _ _)
def f_X2_findWays_50 (rc25 : Nat × Nat → Int32 → am_H → am_R) : Nat → Nat × Nat → Int32 → Int32 → Int32 → Int32 → am_H → am_R
  | 0, _, _, _, _, _, _ => none
  | n + 1, a0, x3, x4, x5, x6, h => m_gI (some a0) 2 1 h fun v11 => if v11 ≤ x6 then (m_gR (some a0) 2 3 h fun o12 => m_sI o12 x3 x5 h fun h13 => rc25 a0 (x3 + (-1)) h13) else (m_bJ (f_X10_has x4 x6 h) fun h14 v15 => if v15 = 0 then (f_X2_findWays_87 rc25 (f_X2_findWays_50 rc25 n) a0 x3 x4 x6 (0 : Int32) x5 h14) else (m_gR (some a0) 2 3 h14 fun o16 => m_bJ (f_X10_with x3 x6 (1 : Int32) h14) fun h17 v18 => m_aI o16 0 v18 h17 fun v19 => f_X2_findWays_87 rc25 (f_X2_findWays_50 rc25 n) a0 x3 x4 x6 v19 x5 h17))
theorem t_X2_findWays_50 (d : Nat) (hd : 4 ≤ d) (rc25 : Nat × Nat → Int32 → am_H → am_R) (hrc25 : ∀ a0 x3 h, Sim m_X2_findWays d 25 [some (.inr (.inr (some a0))), none, none, some (.inl x3), none, none, none] [] h (rc25 a0 x3 h)) : ∀ (n : Nat) (a0 : Nat × Nat) (x3 : Int32) (x4 : Int32) (x5 : Int32) (x6 : Int32) (h : am_H), Sim m_X2_findWays d 50 [some (.inr (.inr (some a0))), none, none, some (.inl x3), some (.inl x4), some (.inl x5), some (.inl x6)] [] h (f_X2_findWays_50 rc25 n a0 x3 x4 x5 x6 h) := by
  intro n
  induction n with
  | zero => intros; exact sim_none
  | succ n hrc50 =>
    intro a0 x3 x4 x5 x6 h
    rw [f_X2_findWays_50]
    refine sim_iload dX2_findWays_50 rfl ?_
    refine sim_aload_n dX2_findWays_52 rfl ?_
    refine sim_gI 2 1 dX2_findWays_53 rfl wf_RX2_24 (Nat.le_of_ble_eq_true rfl) rfl (fun v11 => ?_)
    refine sim_ic_ge 96 dX2_findWays_56 (by decide) (fun c => ?_) (fun c => ?_)
    · refine sim_aload_n dX2_findWays_96 rfl ?_
      refine sim_gR 2 3 dX2_findWays_97 rfl wf_RX2_21 (Nat.le_of_ble_eq_true rfl) rfl (fun o12 => ?_)
      refine sim_iload_n dX2_findWays_100 rfl ?_
      refine sim_iload dX2_findWays_101 rfl ?_
      refine sim_sI dX2_findWays_103 (fun h13 => ?_)
      refine sim_iinc (-1) dX2_findWays_104 rfl (by decide +kernel) (Nat.le_of_ble_eq_true rfl) ?_
      refine sim_goto 25 dX2_findWays_107 (by decide) ?_
      exact sim_lv (am_leS (am_leN (am_leN (am_leS (am_leN (am_leN (am_leN am_leT))))))) (hrc25 _ _ _)
    · refine sim_iload dX2_findWays_59 rfl ?_
      refine sim_iload dX2_findWays_61 rfl ?_
      refine sim_iload dX2_findWays_63 rfl ?_
      refine sim_staticN (d - 1) dX2_findWays_65 (k_X10_has (d - 1) (by omega) _ _ _) q_X10_has wn_RX2_43 rfl rfl (by omega) (Nat.le_of_ble_eq_true rfl) am_nJ am_xJ (am_rJ fun h14 v15 => ?_)
      refine sim_if_eq 86 dX2_findWays_68 (by decide) (fun c => ?_) (fun c => ?_)
      · refine sim_iconst (0) dX2_findWays_86 (by decide +kernel) ?_
        exact sim_lv (am_leS (am_leN (am_leN (am_leS (am_leS (am_leN (am_leS am_leT))))))) (t_X2_findWays_87 d (by omega) _ hrc25 _ hrc50 _ _ _ _ _ _ _)
      · refine sim_aload_n dX2_findWays_71 rfl ?_
        refine sim_gR 2 3 dX2_findWays_72 rfl wf_RX2_21 (Nat.le_of_ble_eq_true rfl) rfl (fun o16 => ?_)
        refine sim_iload_n dX2_findWays_75 rfl ?_
        refine sim_iload dX2_findWays_76 rfl ?_
        refine sim_iconst (1) dX2_findWays_78 (by decide +kernel) ?_
        refine sim_staticN (d - 1) dX2_findWays_79 (k_X10_with (d - 1) (by omega) _ _ _ _) q_X10_with wn_RX2_39 rfl rfl (by omega) (Nat.le_of_ble_eq_true rfl) am_nJ am_xJ (am_rJ fun h17 v18 => ?_)
        refine sim_aI dX2_findWays_82 (fun v19 => ?_)
        refine sim_goto 87 dX2_findWays_83 (by decide) ?_
        exact sim_lv (am_leS (am_leN (am_leN (am_leS (am_leS (am_leN (am_leS am_leT))))))) (t_X2_findWays_87 d (by omega) _ hrc25 _ hrc50 _ _ _ _ _ _ _)
def f_X2_findWays_25  : Nat → Nat × Nat → Int32 → am_H → am_R
  | 0, _, _, _ => none
  | n + 1, a0, x3, h => if x3 < 0 then (m_rt h none) else (m_gR (some a0) 2 2 h fun o7 => m_bI (f_J6_bitCount_0f7a4 x3 h) fun h8 v9 => m_aI o7 0 v9 h8 fun v10 => f_X2_findWays_50 (f_X2_findWays_25  n) 5000 a0 x3 (v10 &&& (x3 ^^^ (-1 : Int32))) (0 : Int32) (0 : Int32) h8)
theorem t_X2_findWays_25 (d : Nat) (hd : 4 ≤ d)  : ∀ (n : Nat) (a0 : Nat × Nat) (x3 : Int32) (h : am_H), Sim m_X2_findWays d 25 [some (.inr (.inr (some a0))), none, none, some (.inl x3), none, none, none] [] h (f_X2_findWays_25  n a0 x3 h) := by
  intro n
  induction n with
  | zero => intros; exact sim_none
  | succ n hrc25 =>
    intro a0 x3 h
    rw [f_X2_findWays_25]
    refine sim_iload_n dX2_findWays_25 rfl ?_
    refine sim_if_lt 110 dX2_findWays_26 (by decide) (fun c => ?_) (fun c => ?_)
    · exact sim_vret dX2_findWays_110 rfl
    · refine sim_aload_n dX2_findWays_29 rfl ?_
      refine sim_gR 2 2 dX2_findWays_30 rfl wf_RX2_17 (Nat.le_of_ble_eq_true rfl) rfl (fun o7 => ?_)
      refine sim_iload_n dX2_findWays_33 rfl ?_
      refine sim_static (d - 1) dX2_findWays_34 (k_J6_bitCount_0f7a4 (d - 1) (by omega) _ _) q_J6_bitCount_0f7a4 wm_RX2_50 rfl rfl (by omega) (Nat.le_of_ble_eq_true rfl) am_nI (am_rI fun h8 v9 => ?_) am_eI
      refine sim_aI dX2_findWays_37 (fun v10 => ?_)
      refine sim_iload_n dX2_findWays_38 rfl ?_
      refine sim_iconst (-1) dX2_findWays_39 (by decide +kernel) ?_
      refine sim_ixor dX2_findWays_40 ?_
      refine sim_iand dX2_findWays_41 ?_
      refine sim_istore dX2_findWays_42 (Nat.le_of_ble_eq_true rfl) ?_
      refine sim_iconst (0) dX2_findWays_44 (by decide +kernel) ?_
      refine sim_istore dX2_findWays_45 (Nat.le_of_ble_eq_true rfl) ?_
      refine sim_iconst (0) dX2_findWays_47 (by decide +kernel) ?_
      refine sim_istore dX2_findWays_48 (Nat.le_of_ble_eq_true rfl) ?_
      exact sim_lv (am_leS (am_leN (am_leN (am_leS (am_leS (am_leS (am_leS am_leT))))))) (t_X2_findWays_50 d (by omega) _ hrc25 _ _ _ _ _ _ _)
def f_X2_findWays (a0 : Nat × Nat) (x1 : Option (Nat × Nat)) (h : am_H) : am_R := m_ao (some a0) 2 fun a3 => m_bV (f_X2_findReceivers a3 x1 h) fun h1 => m_gI (some a0) 2 1 h1 fun v4 => m_gR (some a0) 2 3 h1 fun o5 => m_sI o5 (((1 : Int32) <<< (v4 &&& 31)) - (1 : Int32)) (1 : Int32) h1 fun h6 => f_X2_findWays_25 5000 a0 ((((1 : Int32) <<< (v4 &&& 31)) - (1 : Int32)) - (1 : Int32)) h6
theorem k_X2_findWays (d : Nat) (hd : 4 ≤ d) (a0 : Nat × Nat) (x1 : Option (Nat × Nat)) (h : am_H) : am_Con m_X2_findWays d [.inr (.inr (some a0)), .inr (.inr x1)] h (f_X2_findWays a0 x1 h) := am_con (by decide +kernel) (Nat.le_of_ble_eq_true rfl) (by
  unfold f_X2_findWays
  refine sim_aload_n dX2_findWays_0 rfl ?_
  refine sim_aload_n dX2_findWays_1 rfl ?_
  refine sim_ao1 (fun a3 e => ?_)
  refine sim_virt (d - 1) e dX2_findWays_2 (k_X2_findReceivers (d - 1) (by omega) _ _ _) q_X2_findReceivers rfl rfl wm_RX2_47 rfl rfl (by omega) (Nat.le_of_ble_eq_true rfl) am_nV (am_rV fun h1 => ?_) am_eV
  refine sim_iconst (1) dX2_findWays_5 (by decide +kernel) ?_
  refine sim_aload_n dX2_findWays_6 rfl ?_
  refine sim_gI 2 1 dX2_findWays_7 rfl wf_RX2_24 (Nat.le_of_ble_eq_true rfl) rfl (fun v4 => ?_)
  refine sim_ishl dX2_findWays_10 ?_
  refine sim_iconst (1) dX2_findWays_11 (by decide +kernel) ?_
  refine sim_isub dX2_findWays_12 ?_
  refine sim_istore_n dX2_findWays_13 (Nat.le_of_ble_eq_true rfl) ?_
  refine sim_aload_n dX2_findWays_14 rfl ?_
  refine sim_gR 2 3 dX2_findWays_15 rfl wf_RX2_21 (Nat.le_of_ble_eq_true rfl) rfl (fun o5 => ?_)
  refine sim_iload_n dX2_findWays_18 rfl ?_
  refine sim_iconst (1) dX2_findWays_19 (by decide +kernel) ?_
  refine sim_sI dX2_findWays_20 (fun h6 => ?_)
  refine sim_iload_n dX2_findWays_21 rfl ?_
  refine sim_iconst (1) dX2_findWays_22 (by decide +kernel) ?_
  refine sim_isub dX2_findWays_23 ?_
  refine sim_istore_n dX2_findWays_24 (Nat.le_of_ble_eq_true rfl) ?_
  exact sim_lv (am_leS (am_leN (am_leN (am_leS (am_leN (am_leN (am_leN am_leT))))))) (t_X2_findWays_25 d (by omega) _ _ _ _))
theorem q_X2_findWays : am_Cal m_X2_findWays 1 2 := ⟨am_mem 328 (w := Cond.code yX2_findWays cX2_findWays 7 none) (by decide +kernel) rfl, am_mem 61 (w := Cond.initialized RX2) (by decide +kernel) rfl, fun z => absurd z (by decide), fun _ => am_mem 327 (w := Cond.instanceMethod yX2_findWays) (by decide +kernel) rfl, fun z => absurd z (by decide), fun _ => am_mem 3 (w := Cond.selects RX2 yX2_findWays yX2_findWays) (by decide +kernel) rfl, by decide +kernel, by decide +kernel, Nat.le_of_ble_eq_true rfl⟩
abbrev m_X2_lowestReceiver : am_M := (yX2_lowestReceiver, cX2_lowestReceiver, 5, some .int, [])
def f_X2_lowestReceiver_50 (rc14 : Nat × Nat → Int32 → Int32 → Int32 → am_H → am_R) (a0 : Nat × Nat) (x2 : Int32) (x3 : Int32) (x4 : Int32) (h : am_H) : am_R := rc14 a0 x2 x3 (x4 + 1) h
theorem t_X2_lowestReceiver_50 (d : Nat) (hd : 1 ≤ d) (rc14 : Nat × Nat → Int32 → Int32 → Int32 → am_H → am_R) (hrc14 : ∀ a0 x2 x3 x4 h, Sim m_X2_lowestReceiver d 14 [some (.inr (.inr (some a0))), none, some (.inl x2), some (.inl x3), some (.inl x4)] [] h (rc14 a0 x2 x3 x4 h)) (a0 : Nat × Nat) (x2 : Int32) (x3 : Int32) (x4 : Int32) (h : am_H) : Sim m_X2_lowestReceiver d 50 [some (.inr (.inr (some a0))), none, some (.inl x2), some (.inl x3), some (.inl x4)] [] h (f_X2_lowestReceiver_50 rc14 a0 x2 x3 x4 h) := by
  unfold f_X2_lowestReceiver_50
  refine sim_iinc (1) dX2_lowestReceiver_50 rfl (by decide +kernel) (Nat.le_of_ble_eq_true rfl) ?_
  refine sim_goto 14 dX2_lowestReceiver_53 (by decide) ?_
  exact sim_lv (am_leS (am_leN (am_leS (am_leS (am_leS am_leT))))) (hrc14 _ _ _ _ _)
def f_X2_lowestReceiver_14  : Nat → Nat × Nat → Int32 → Int32 → Int32 → am_H → am_R
  | 0, _, _, _, _, _ => none
  | n + 1, a0, x2, x3, x4, h => m_gI (some a0) 2 1 h fun v3 => if v3 ≤ x4 then (m_ri h (-1 : Int32)) else (m_bJ (f_X10_has x3 x4 h) fun h4 v5 => if v5 = 0 then (f_X2_lowestReceiver_50 (f_X2_lowestReceiver_14  n) a0 x2 x3 x4 h4) else (m_gR (some a0) 2 3 h4 fun o6 => m_bJ (f_X10_with x2 x4 (1 : Int32) h4) fun h7 v8 => m_aI o6 0 v8 h7 fun v9 => if v9 ≤ 0 then (f_X2_lowestReceiver_50 (f_X2_lowestReceiver_14  n) a0 x2 x3 x4 h7) else (m_ri h7 x4)))
theorem t_X2_lowestReceiver_14 (d : Nat) (hd : 1 ≤ d)  : ∀ (n : Nat) (a0 : Nat × Nat) (x2 : Int32) (x3 : Int32) (x4 : Int32) (h : am_H), Sim m_X2_lowestReceiver d 14 [some (.inr (.inr (some a0))), none, some (.inl x2), some (.inl x3), some (.inl x4)] [] h (f_X2_lowestReceiver_14  n a0 x2 x3 x4 h) := by
  intro n
  induction n with
  | zero => intros; exact sim_none
  | succ n hrc14 =>
    intro a0 x2 x3 x4 h
    rw [f_X2_lowestReceiver_14]
    refine sim_iload dX2_lowestReceiver_14 rfl ?_
    refine sim_aload_n dX2_lowestReceiver_16 rfl ?_
    refine sim_gI 2 1 dX2_lowestReceiver_17 rfl wf_RX2_24 (Nat.le_of_ble_eq_true rfl) rfl (fun v3 => ?_)
    refine sim_ic_ge 56 dX2_lowestReceiver_20 (by decide) (fun c => ?_) (fun c => ?_)
    · refine sim_iconst (-1) dX2_lowestReceiver_56 (by decide +kernel) ?_
      exact sim_iret dX2_lowestReceiver_57 rfl
    · refine sim_iload_n dX2_lowestReceiver_23 rfl ?_
      refine sim_iload dX2_lowestReceiver_24 rfl ?_
      refine sim_staticN (d - 1) dX2_lowestReceiver_26 (k_X10_has (d - 1) (by omega) _ _ _) q_X10_has wn_RX2_43 rfl rfl (by omega) (Nat.le_of_ble_eq_true rfl) am_nJ am_xJ (am_rJ fun h4 v5 => ?_)
      refine sim_if_eq 50 dX2_lowestReceiver_29 (by decide) (fun c => ?_) (fun c => ?_)
      · exact sim_lv (am_leS (am_leN (am_leS (am_leS (am_leS am_leT))))) (t_X2_lowestReceiver_50 d (by omega) _ hrc14 _ _ _ _ _)
      · refine sim_aload_n dX2_lowestReceiver_32 rfl ?_
        refine sim_gR 2 3 dX2_lowestReceiver_33 rfl wf_RX2_21 (Nat.le_of_ble_eq_true rfl) rfl (fun o6 => ?_)
        refine sim_iload_n dX2_lowestReceiver_36 rfl ?_
        refine sim_iload dX2_lowestReceiver_37 rfl ?_
        refine sim_iconst (1) dX2_lowestReceiver_39 (by decide +kernel) ?_
        refine sim_staticN (d - 1) dX2_lowestReceiver_40 (k_X10_with (d - 1) (by omega) _ _ _ _) q_X10_with wn_RX2_39 rfl rfl (by omega) (Nat.le_of_ble_eq_true rfl) am_nJ am_xJ (am_rJ fun h7 v8 => ?_)
        refine sim_aI dX2_lowestReceiver_43 (fun v9 => ?_)
        refine sim_if_le 50 dX2_lowestReceiver_44 (by decide) (fun c => ?_) (fun c => ?_)
        · exact sim_lv (am_leS (am_leN (am_leS (am_leS (am_leS am_leT))))) (t_X2_lowestReceiver_50 d (by omega) _ hrc14 _ _ _ _ _)
        · refine sim_iload dX2_lowestReceiver_47 rfl ?_
          exact sim_iret dX2_lowestReceiver_49 rfl
def f_X2_lowestReceiver (a0 : Nat × Nat) (x1 : Int32) (x2 : Int32) (h : am_H) : am_R := m_gR (some a0) 2 2 h fun o1 => m_aI o1 0 x1 h fun v2 => f_X2_lowestReceiver_14 5000 a0 x2 (v2 &&& (x2 ^^^ (-1 : Int32))) (0 : Int32) h
theorem k_X2_lowestReceiver (d : Nat) (hd : 1 ≤ d) (a0 : Nat × Nat) (x1 : Int32) (x2 : Int32) (h : am_H) : am_Con m_X2_lowestReceiver d [.inr (.inr (some a0)), .inl x1, .inl x2] h (f_X2_lowestReceiver a0 x1 x2 h) := am_con (by decide +kernel) (Nat.le_of_ble_eq_true rfl) (by
  unfold f_X2_lowestReceiver
  refine sim_aload_n dX2_lowestReceiver_0 rfl ?_
  refine sim_gR 2 2 dX2_lowestReceiver_1 rfl wf_RX2_17 (Nat.le_of_ble_eq_true rfl) rfl (fun o1 => ?_)
  refine sim_iload_n dX2_lowestReceiver_4 rfl ?_
  refine sim_aI dX2_lowestReceiver_5 (fun v2 => ?_)
  refine sim_iload_n dX2_lowestReceiver_6 rfl ?_
  refine sim_iconst (-1) dX2_lowestReceiver_7 (by decide +kernel) ?_
  refine sim_ixor dX2_lowestReceiver_8 ?_
  refine sim_iand dX2_lowestReceiver_9 ?_
  refine sim_istore_n dX2_lowestReceiver_10 (Nat.le_of_ble_eq_true rfl) ?_
  refine sim_iconst (0) dX2_lowestReceiver_11 (by decide +kernel) ?_
  refine sim_istore dX2_lowestReceiver_12 (Nat.le_of_ble_eq_true rfl) ?_
  exact sim_lv (am_leS (am_leN (am_leS (am_leS (am_leS am_leT))))) (t_X2_lowestReceiver_14 d (by omega) _ _ _ _ _ _))
theorem q_X2_lowestReceiver : am_Cal m_X2_lowestReceiver 2 2 := ⟨am_mem 954 (w := Cond.code yX2_lowestReceiver cX2_lowestReceiver 5 (some .int)) (by decide +kernel) rfl, am_mem 61 (w := Cond.initialized RX2) (by decide +kernel) rfl, fun z => absurd z (by decide), fun _ => am_mem 953 (w := Cond.instanceMethod yX2_lowestReceiver) (by decide +kernel) rfl, fun z => absurd z (by decide), fun _ => am_mem 21 (w := Cond.selects RX2 yX2_lowestReceiver yX2_lowestReceiver) (by decide +kernel) rfl, by decide +kernel, by decide +kernel, Nat.le_of_ble_eq_true rfl⟩
abbrev m_X2_receiverOf : am_M := (yX2_receiverOf, cX2_receiverOf, 6, some .int, [])
def f_X2_receiverOf_63  (x3 : Int32) (h : am_H) : am_R := m_ri h x3
theorem t_X2_receiverOf_63 (d : Nat) (hd : 5 ≤ d)  (x3 : Int32) (h : am_H) : Sim m_X2_receiverOf d 63 [none, none, none, some (.inl x3), none, none] [] h (f_X2_receiverOf_63  x3 h) := by
  unfold f_X2_receiverOf_63
  refine sim_iload_n dX2_receiverOf_63 rfl ?_
  exact sim_iret dX2_receiverOf_64 rfl
def f_X2_receiverOf_55 (rc13 : Nat × Nat → Int32 → Int32 → Int32 → Int32 → am_H → am_R) (a0 : Nat × Nat) (x1 : Int32) (x3 : Int32) (x5 : Int32) (s0 : Int32) (h : am_H) : am_R := rc13 a0 x1 x3 s0 (x5 + 1) h
theorem t_X2_receiverOf_55 (d : Nat) (hd : 5 ≤ d) (rc13 : Nat × Nat → Int32 → Int32 → Int32 → Int32 → am_H → am_R) (hrc13 : ∀ a0 x1 x3 x4 x5 h, Sim m_X2_receiverOf d 13 [some (.inr (.inr (some a0))), some (.inl x1), none, some (.inl x3), some (.inl x4), some (.inl x5)] [] h (rc13 a0 x1 x3 x4 x5 h)) (a0 : Nat × Nat) (x1 : Int32) (x3 : Int32) (x5 : Int32) (s0 : Int32) (h : am_H) : Sim m_X2_receiverOf d 55 [some (.inr (.inr (some a0))), some (.inl x1), none, some (.inl x3), none, some (.inl x5)] [.inl s0] h (f_X2_receiverOf_55 rc13 a0 x1 x3 x5 s0 h) := by
  unfold f_X2_receiverOf_55
  refine sim_istore dX2_receiverOf_55 (Nat.le_of_ble_eq_true rfl) ?_
  refine sim_iinc (1) dX2_receiverOf_57 rfl (by decide +kernel) (Nat.le_of_ble_eq_true rfl) ?_
  refine sim_goto 13 dX2_receiverOf_60 (by decide) ?_
  exact sim_lv (am_leS (am_leS (am_leN (am_leS (am_leS (am_leS am_leT)))))) (hrc13 _ _ _ _ _ _)
def f_X2_receiverOf_13  : Nat → Nat × Nat → Int32 → Int32 → Int32 → Int32 → am_H → am_R
  | 0, _, _, _, _, _, _ => none
  | n + 1, a0, x1, x3, x4, x5, h => if x1 < x5 then (f_X2_receiverOf_63 x3 h) else (m_gR (some a0) 2 3 h fun o4 => m_aI o4 0 x4 h fun v5 => if v5 ≤ 0 then (f_X2_receiverOf_63 x3 h) else (m_ao (some a0) 2 fun a8 => m_bI (f_X2_lowestReceiver a8 x5 x4 h) fun h6 v7 => if v7 = (-1 : Int32) then (f_X2_receiverOf_55 (f_X2_receiverOf_13  n) a0 x1 v7 x5 x4 h6) else (m_bJ (f_X10_with x4 v7 (1 : Int32) h6) fun h9 v10 => f_X2_receiverOf_55 (f_X2_receiverOf_13  n) a0 x1 v7 x5 v10 h9)))
theorem t_X2_receiverOf_13 (d : Nat) (hd : 5 ≤ d)  : ∀ (n : Nat) (a0 : Nat × Nat) (x1 : Int32) (x3 : Int32) (x4 : Int32) (x5 : Int32) (h : am_H), Sim m_X2_receiverOf d 13 [some (.inr (.inr (some a0))), some (.inl x1), none, some (.inl x3), some (.inl x4), some (.inl x5)] [] h (f_X2_receiverOf_13  n a0 x1 x3 x4 x5 h) := by
  intro n
  induction n with
  | zero => intros; exact sim_none
  | succ n hrc13 =>
    intro a0 x1 x3 x4 x5 h
    rw [f_X2_receiverOf_13]
    refine sim_iload dX2_receiverOf_13 rfl ?_
    refine sim_iload_n dX2_receiverOf_15 rfl ?_
    refine sim_ic_gt 63 dX2_receiverOf_16 (by decide) (fun c => ?_) (fun c => ?_)
    · exact sim_lv (am_leN (am_leN (am_leN (am_leS (am_leN (am_leN am_leT)))))) (t_X2_receiverOf_63 d (by omega) _ _)
    · refine sim_aload_n dX2_receiverOf_19 rfl ?_
      refine sim_gR 2 3 dX2_receiverOf_20 rfl wf_RX2_21 (Nat.le_of_ble_eq_true rfl) rfl (fun o4 => ?_)
      refine sim_iload dX2_receiverOf_23 rfl ?_
      refine sim_aI dX2_receiverOf_25 (fun v5 => ?_)
      refine sim_if_le 63 dX2_receiverOf_26 (by decide) (fun c => ?_) (fun c => ?_)
      · exact sim_lv (am_leN (am_leN (am_leN (am_leS (am_leN (am_leN am_leT)))))) (t_X2_receiverOf_63 d (by omega) _ _)
      · refine sim_aload_n dX2_receiverOf_29 rfl ?_
        refine sim_iload dX2_receiverOf_30 rfl ?_
        refine sim_iload dX2_receiverOf_32 rfl ?_
        refine sim_ao2 (fun a8 e => ?_)
        refine sim_virt (d - 1) e dX2_receiverOf_34 (k_X2_lowestReceiver (d - 1) (by omega) _ _ _ _) q_X2_lowestReceiver rfl rfl wm_RX2_35 rfl rfl (by omega) (Nat.le_of_ble_eq_true rfl) am_nI (am_rI fun h6 v7 => ?_) am_eI
        refine sim_istore_n dX2_receiverOf_37 (Nat.le_of_ble_eq_true rfl) ?_
        refine sim_iload_n dX2_receiverOf_38 rfl ?_
        refine sim_iconst (-1) dX2_receiverOf_39 (by decide +kernel) ?_
        refine sim_ic_ne 48 dX2_receiverOf_40 (by decide) (fun c => ?_) (fun c => ?_)
        · refine sim_iload dX2_receiverOf_48 rfl ?_
          refine sim_iload_n dX2_receiverOf_50 rfl ?_
          refine sim_iconst (1) dX2_receiverOf_51 (by decide +kernel) ?_
          refine sim_staticN (d - 1) dX2_receiverOf_52 (k_X10_with (d - 1) (by omega) _ _ _ _) q_X10_with wn_RX2_39 rfl rfl (by omega) (Nat.le_of_ble_eq_true rfl) am_nJ am_xJ (am_rJ fun h9 v10 => ?_)
          exact sim_lv (am_leS (am_leS (am_leN (am_leS (am_leN (am_leS am_leT)))))) (t_X2_receiverOf_55 d (by omega) _ hrc13 _ _ _ _ _ _)
        · refine sim_iload dX2_receiverOf_43 rfl ?_
          refine sim_goto 55 dX2_receiverOf_45 (by decide) ?_
          exact sim_lv (am_leS (am_leS (am_leN (am_leS (am_leN (am_leS am_leT)))))) (t_X2_receiverOf_55 d (by omega) _ hrc13 _ _ _ _ _ _)
def f_X2_receiverOf (a0 : Nat × Nat) (x1 : Int32) (x2 : Option (Nat × Nat)) (h : am_H) : am_R := m_ao (some a0) 2 fun a3 => m_bV (f_X2_findWays a3 x2 h) fun h1 => f_X2_receiverOf_13 5000 a0 x1 (-1 : Int32) (0 : Int32) (0 : Int32) h1
theorem k_X2_receiverOf (d : Nat) (hd : 5 ≤ d) (a0 : Nat × Nat) (x1 : Int32) (x2 : Option (Nat × Nat)) (h : am_H) : am_Con m_X2_receiverOf d [.inr (.inr (some a0)), .inl x1, .inr (.inr x2)] h (f_X2_receiverOf a0 x1 x2 h) := am_con (by decide +kernel) (Nat.le_of_ble_eq_true rfl) (by
  unfold f_X2_receiverOf
  refine sim_aload_n dX2_receiverOf_0 rfl ?_
  refine sim_aload_n dX2_receiverOf_1 rfl ?_
  refine sim_ao1 (fun a3 e => ?_)
  refine sim_virt (d - 1) e dX2_receiverOf_2 (k_X2_findWays (d - 1) (by omega) _ _ _) q_X2_findWays rfl rfl wm_RX2_31 rfl rfl (by omega) (Nat.le_of_ble_eq_true rfl) am_nV (am_rV fun h1 => ?_) am_eV
  refine sim_iconst (-1) dX2_receiverOf_5 (by decide +kernel) ?_
  refine sim_istore_n dX2_receiverOf_6 (Nat.le_of_ble_eq_true rfl) ?_
  refine sim_iconst (0) dX2_receiverOf_7 (by decide +kernel) ?_
  refine sim_istore dX2_receiverOf_8 (Nat.le_of_ble_eq_true rfl) ?_
  refine sim_iconst (0) dX2_receiverOf_10 (by decide +kernel) ?_
  refine sim_istore dX2_receiverOf_11 (Nat.le_of_ble_eq_true rfl) ?_
  exact sim_lv (am_leS (am_leS (am_leN (am_leS (am_leS (am_leS am_leT)))))) (t_X2_receiverOf_13 d (by omega) _ _ _ _ _ _ _))
theorem q_X2_receiverOf : am_Cal m_X2_receiverOf 2 2 := ⟨am_mem 950 (w := Cond.code yX2_receiverOf cX2_receiverOf 6 (some .int)) (by decide +kernel) rfl, am_mem 61 (w := Cond.initialized RX2) (by decide +kernel) rfl, fun z => absurd z (by decide), fun _ => am_mem 948 (w := Cond.instanceMethod yX2_receiverOf) (by decide +kernel) rfl, fun z => absurd z (by decide), fun _ => am_mem 949 (w := Cond.selects RX2 yX2_receiverOf yX2_receiverOf) (by decide +kernel) rfl, by decide +kernel, by decide +kernel, Nat.le_of_ble_eq_true rfl⟩
abbrev m_X10_match : am_M := (yX10_match, cX10_match, 2, some .int, [])
def f_X10_match_15   (h : am_H) : am_R := m_ex h 0
theorem t_X10_match_15 (d : Nat) (hd : 6 ≤ d)   (h : am_H) : Sim m_X10_match d 15 [none, none] [] h (f_X10_match_15   h) := by
  unfold f_X10_match_15
  exact sim_throwW 0 (by decide) dX10_match_15 dX10_match_18 dX10_match_19 dX10_match_22 dX10_match_25 wx_RX10_162 wy_0 ws_RX10_305 at_RX10_166 gd_RX10_166 (by omega) (Nat.le_of_ble_eq_true rfl)
def f_X10_match (a0 : Nat × Nat) (x1 : Int32) (h : am_H) : am_R := if x1 < 0 then (f_X10_match_15 h) else (m_gR (some a0) 10 10 h fun o1 => m_gI o1 2 1 h fun v2 => if x1 < v2 then (m_gR (some a0) 10 10 h fun o3 => m_gR (some a0) 10 7 h fun o4 => m_ao o3 2 fun a7 => m_bI (f_X2_receiverOf a7 x1 o4 h) fun h5 v6 => m_ri h5 v6) else (f_X10_match_15 h))
theorem k_X10_match (d : Nat) (hd : 6 ≤ d) (a0 : Nat × Nat) (x1 : Int32) (h : am_H) : am_Con m_X10_match d [.inr (.inr (some a0)), .inl x1] h (f_X10_match a0 x1 h) := am_con (by decide +kernel) (Nat.le_of_ble_eq_true rfl) (by
  unfold f_X10_match
  refine sim_iload_n dX10_match_0 rfl ?_
  refine sim_if_lt 15 dX10_match_1 (by decide) (fun c => ?_) (fun c => ?_)
  · exact sim_lv (am_leN (am_leN am_leT)) (t_X10_match_15 d (by omega) _)
  · refine sim_iload_n dX10_match_4 rfl ?_
    refine sim_aload_n dX10_match_5 rfl ?_
    refine sim_gR 10 10 dX10_match_6 rfl wf_RX10_55 (Nat.le_of_ble_eq_true rfl) rfl (fun o1 => ?_)
    refine sim_gI 2 1 dX10_match_9 rfl wf_RX10_294 (Nat.le_of_ble_eq_true rfl) rfl (fun v2 => ?_)
    refine sim_ic_lt 26 dX10_match_12 (by decide) (fun c => ?_) (fun c => ?_)
    · refine sim_aload_n dX10_match_26 rfl ?_
      refine sim_gR 10 10 dX10_match_27 rfl wf_RX10_55 (Nat.le_of_ble_eq_true rfl) rfl (fun o3 => ?_)
      refine sim_iload_n dX10_match_30 rfl ?_
      refine sim_aload_n dX10_match_31 rfl ?_
      refine sim_gR 10 7 dX10_match_32 rfl wf_RX10_34 (Nat.le_of_ble_eq_true rfl) rfl (fun o4 => ?_)
      refine sim_ao2 (fun a7 e => ?_)
      refine sim_virt (d - 1) e dX10_match_35 (k_X2_receiverOf (d - 1) (by omega) _ _ _ _) q_X2_receiverOf rfl rfl wm_RX10_307 rfl rfl (by omega) (Nat.le_of_ble_eq_true rfl) am_nI (am_rI fun h5 v6 => ?_) am_eI
      exact sim_iret dX10_match_38 rfl
    · exact sim_lv (am_leN (am_leN am_leT)) (t_X10_match_15 d (by omega) _))
theorem q_X10_match : am_Cal m_X10_match 1 2 := ⟨am_mem 945 (w := Cond.code yX10_match cX10_match 2 (some .int)) (by decide +kernel) rfl, am_mem 56 (w := Cond.initialized RX10) (by decide +kernel) rfl, fun z => absurd z (by decide), fun _ => am_mem 943 (w := Cond.instanceMethod yX10_match) (by decide +kernel) rfl, fun z => absurd z (by decide), fun _ => am_mem 944 (w := Cond.selects RX10 yX10_match yX10_match) (by decide +kernel) rfl, by decide +kernel, by decide +kernel, Nat.le_of_ble_eq_true rfl⟩
abbrev m_L_match : am_M := (yL_match, cL_match, 4, some .int, [(0, 9, 12, 21)])
def f_L_match (x0 : Option (Nat × Nat)) (x1 : Int32) (x2 : Option (Nat × Nat)) (h : am_H) : am_R := m_ao x0 10 fun a3 => m_bIx (f_X10_match a3 x1 h) (fun h1 v2 => m_sL x2 (0 : Int32) (Int32.toInt64 v2) h1 fun h6 => m_ri h6 (0 : Int32)) (fun h4 e5 => if e5 = 0 then (m_ri h4 (1 : Int32)) else none)
theorem k_L_match (d : Nat) (hd : 7 ≤ d) (x0 : Option (Nat × Nat)) (x1 : Int32) (x2 : Option (Nat × Nat)) (h : am_H) : am_Con m_L_match d [.inr (.inr x0), .inl x1, .inr (.inr x2)] h (f_L_match x0 x1 x2 h) := am_conX (by decide +kernel) (Nat.le_of_ble_eq_true rfl) (by
  unfold f_L_match
  refine sim_aload_n dL_match_0 rfl ?_
  refine sim_iconst (0) dL_match_1 (by decide +kernel) ?_
  refine sim_aload_n dL_match_2 rfl ?_
  refine sim_iload_n dL_match_3 rfl ?_
  refine sim_ao1 (fun a3 e => ?_)
  refine sim_virt (d - 1) e dL_match_4 (k_X10_match (d - 1) (by omega) _ _ _) q_X10_match rfl rfl wm_RL_100 rfl rfl (by omega) (Nat.le_of_ble_eq_true rfl) am_nIx (am_rIx fun h1 v2 => ?_) (am_eIx fun h9 k9 => ?_)
  · refine sim_i2l dL_match_7 ?_
    refine sim_sL dL_match_8 (fun h6 => ?_)
    refine sim_goto 15 dL_match_9 (by decide) ?_
    refine sim_iconst (0) dL_match_15 (by decide +kernel) ?_
    exact sim_iret dL_match_16 rfl
  · refine simx_case (fun cx => ?_) (fun cx => ?_)
    · subst cx
      refine simx_catch [] (0, 9, 12, 21) [] rfl ⟨by decide, by decide⟩ (by decide) wx_RL_21 wca_0 (by decide) (fun z hz => by cases hz) ?_
      refine sim_astore_n dL_match_12 (Nat.le_of_ble_eq_true rfl) ?_
      refine sim_iconst (1) dL_match_13 (by decide +kernel) ?_
      exact sim_iret dL_match_14 rfl
    exact simx_none)
theorem q_L_match : am_Cal m_L_match 3 0 := ⟨am_mem 941 (w := Cond.codeWith yL_match cL_match 4 (some .int) [(0, 9, 12, 21)]) (by decide +kernel) rfl, am_mem 55 (w := Cond.initialized RL) (by decide +kernel) rfl, fun _ => am_mem 940 (w := Cond.static yL_match) (by decide +kernel) rfl, fun z => absurd rfl z, fun z => absurd z (by decide), fun z => absurd z (by decide), by decide +kernel, by decide +kernel, Nat.le_of_ble_eq_true rfl⟩
abbrev m_X7_isAbove : am_M := (yX7_isAbove, cX7_isAbove, 3, some .boolean, [])
def f_X7_isAbove (a0 : Nat × Nat) (x1 : Int32) (x2 : Int32) (h : am_H) : am_R := m_gR (some a0) 7 3 h fun o1 => m_aI o1 0 x2 h fun v2 => m_bJ (f_X10_has v2 x1 h) fun h3 v4 => m_rz h3 v4
theorem k_X7_isAbove (d : Nat) (hd : 1 ≤ d) (a0 : Nat × Nat) (x1 : Int32) (x2 : Int32) (h : am_H) : am_Con m_X7_isAbove d [.inr (.inr (some a0)), .inl x1, .inl x2] h (f_X7_isAbove a0 x1 x2 h) := am_con (by decide +kernel) (Nat.le_of_ble_eq_true rfl) (by
  unfold f_X7_isAbove
  refine sim_aload_n dX7_isAbove_0 rfl ?_
  refine sim_gR 7 3 dX7_isAbove_1 rfl wf_RX7_18 (Nat.le_of_ble_eq_true rfl) rfl (fun o1 => ?_)
  refine sim_iload_n dX7_isAbove_4 rfl ?_
  refine sim_aI dX7_isAbove_5 (fun v2 => ?_)
  refine sim_iload_n dX7_isAbove_6 rfl ?_
  refine sim_staticN (d - 1) dX7_isAbove_7 (k_X10_has (d - 1) (by omega) _ _ _) q_X10_has wn_RX7_25 rfl rfl (by omega) (Nat.le_of_ble_eq_true rfl) am_nJ am_xJ (am_rJ fun h3 v4 => ?_)
  exact sim_zret dX7_isAbove_10 rfl)
theorem q_X7_isAbove : am_Cal m_X7_isAbove 2 2 := ⟨am_mem 712 (w := Cond.code yX7_isAbove cX7_isAbove 3 (some .boolean)) (by decide +kernel) rfl, am_mem 57 (w := Cond.initialized RX7) (by decide +kernel) rfl, fun z => absurd z (by decide), fun _ => am_mem 710 (w := Cond.instanceMethod yX7_isAbove) (by decide +kernel) rfl, fun z => absurd z (by decide), fun _ => am_mem 711 (w := Cond.selects RX7 yX7_isAbove yX7_isAbove) (by decide +kernel) rfl, by decide +kernel, by decide +kernel, Nat.le_of_ble_eq_true rfl⟩
abbrev m_X7_findAbove : am_M := (yX7_findAbove, cX7_findAbove, 3, none, [])
def f_X7_findAbove_63 (rc17 : Nat × Nat → Int32 → am_H → am_R) (rc27 : Nat × Nat → Int32 → Int32 → am_H → am_R) (a0 : Nat × Nat) (x1 : Int32) (x2 : Int32) (h : am_H) : am_R := rc27 a0 x1 (x2 + 1) h
theorem t_X7_findAbove_63 (d : Nat) (hd : 2 ≤ d) (rc17 : Nat × Nat → Int32 → am_H → am_R) (hrc17 : ∀ a0 x1 h, Sim m_X7_findAbove d 17 [some (.inr (.inr (some a0))), some (.inl x1), none] [] h (rc17 a0 x1 h)) (rc27 : Nat × Nat → Int32 → Int32 → am_H → am_R) (hrc27 : ∀ a0 x1 x2 h, Sim m_X7_findAbove d 27 [some (.inr (.inr (some a0))), some (.inl x1), some (.inl x2)] [] h (rc27 a0 x1 x2 h)) (a0 : Nat × Nat) (x1 : Int32) (x2 : Int32) (h : am_H) : Sim m_X7_findAbove d 63 [some (.inr (.inr (some a0))), some (.inl x1), some (.inl x2)] [] h (f_X7_findAbove_63 rc17 rc27 a0 x1 x2 h) := by
  unfold f_X7_findAbove_63
  refine sim_iinc (1) dX7_findAbove_63 rfl (by decide +kernel) (Nat.le_of_ble_eq_true rfl) ?_
  refine sim_goto 27 dX7_findAbove_66 (by decide) ?_
  exact sim_lv (am_leS (am_leS (am_leS am_leT))) (hrc27 _ _ _ _)
def f_X7_findAbove_27 (rc17 : Nat × Nat → Int32 → am_H → am_R) : Nat → Nat × Nat → Int32 → Int32 → am_H → am_R
  | 0, _, _, _, _ => none
  | n + 1, a0, x1, x2, h => m_gI (some a0) 7 0 h fun v5 => if v5 ≤ x2 then (rc17 a0 (x1 + 1) h) else (m_gR (some a0) 7 3 h fun o6 => m_aI o6 0 x2 h fun v7 => m_bJ (f_X10_has v7 x1 h) fun h8 v9 => if v9 = 0 then (f_X7_findAbove_63 rc17 (f_X7_findAbove_27 rc17 n) a0 x1 x2 h8) else (m_gR (some a0) 7 3 h8 fun o10 => m_aI o10 0 x2 h8 fun v11 => m_gR (some a0) 7 3 h8 fun o12 => m_aI o12 0 x1 h8 fun v13 => m_sI o10 x2 (v11 ||| v13) h8 fun h14 => f_X7_findAbove_63 rc17 (f_X7_findAbove_27 rc17 n) a0 x1 x2 h14))
theorem t_X7_findAbove_27 (d : Nat) (hd : 2 ≤ d) (rc17 : Nat × Nat → Int32 → am_H → am_R) (hrc17 : ∀ a0 x1 h, Sim m_X7_findAbove d 17 [some (.inr (.inr (some a0))), some (.inl x1), none] [] h (rc17 a0 x1 h)) : ∀ (n : Nat) (a0 : Nat × Nat) (x1 : Int32) (x2 : Int32) (h : am_H), Sim m_X7_findAbove d 27 [some (.inr (.inr (some a0))), some (.inl x1), some (.inl x2)] [] h (f_X7_findAbove_27 rc17 n a0 x1 x2 h) := by
  intro n
  induction n with
  | zero => intros; exact sim_none
  | succ n hrc27 =>
    intro a0 x1 x2 h
    rw [f_X7_findAbove_27]
    refine sim_iload_n dX7_findAbove_27 rfl ?_
    refine sim_aload_n dX7_findAbove_28 rfl ?_
    refine sim_gI 7 0 dX7_findAbove_29 rfl wf_RX7_21 (Nat.le_of_ble_eq_true rfl) rfl (fun v5 => ?_)
    refine sim_ic_ge 69 dX7_findAbove_32 (by decide) (fun c => ?_) (fun c => ?_)
    · refine sim_iinc (1) dX7_findAbove_69 rfl (by decide +kernel) (Nat.le_of_ble_eq_true rfl) ?_
      refine sim_goto 17 dX7_findAbove_72 (by decide) ?_
      exact sim_lv (am_leS (am_leS (am_leN am_leT))) (hrc17 _ _ _)
    · refine sim_aload_n dX7_findAbove_35 rfl ?_
      refine sim_gR 7 3 dX7_findAbove_36 rfl wf_RX7_18 (Nat.le_of_ble_eq_true rfl) rfl (fun o6 => ?_)
      refine sim_iload_n dX7_findAbove_39 rfl ?_
      refine sim_aI dX7_findAbove_40 (fun v7 => ?_)
      refine sim_iload_n dX7_findAbove_41 rfl ?_
      refine sim_staticN (d - 1) dX7_findAbove_42 (k_X10_has (d - 1) (by omega) _ _ _) q_X10_has wn_RX7_25 rfl rfl (by omega) (Nat.le_of_ble_eq_true rfl) am_nJ am_xJ (am_rJ fun h8 v9 => ?_)
      refine sim_if_eq 63 dX7_findAbove_45 (by decide) (fun c => ?_) (fun c => ?_)
      · exact sim_lv (am_leS (am_leS (am_leS am_leT))) (t_X7_findAbove_63 d (by omega) _ hrc17 _ hrc27 _ _ _ _)
      · refine sim_aload_n dX7_findAbove_48 rfl ?_
        refine sim_gR 7 3 dX7_findAbove_49 rfl wf_RX7_18 (Nat.le_of_ble_eq_true rfl) rfl (fun o10 => ?_)
        refine sim_iload_n dX7_findAbove_52 rfl ?_
        refine sim_dup2 dX7_findAbove_53 ?_
        refine sim_aI dX7_findAbove_54 (fun v11 => ?_)
        refine sim_aload_n dX7_findAbove_55 rfl ?_
        refine sim_gR 7 3 dX7_findAbove_56 rfl wf_RX7_18 (Nat.le_of_ble_eq_true rfl) rfl (fun o12 => ?_)
        refine sim_iload_n dX7_findAbove_59 rfl ?_
        refine sim_aI dX7_findAbove_60 (fun v13 => ?_)
        refine sim_ior dX7_findAbove_61 ?_
        refine sim_sI dX7_findAbove_62 (fun h14 => ?_)
        exact sim_lv (am_leS (am_leS (am_leS am_leT))) (t_X7_findAbove_63 d (by omega) _ hrc17 _ hrc27 _ _ _ _)
def f_X7_findAbove_17  : Nat → Nat × Nat → Int32 → am_H → am_R
  | 0, _, _, _ => none
  | n + 1, a0, x1, h => m_gI (some a0) 7 0 h fun v4 => if v4 ≤ x1 then (m_rt h none) else (f_X7_findAbove_27 (f_X7_findAbove_17  n) 5000 a0 x1 (0 : Int32) h)
theorem t_X7_findAbove_17 (d : Nat) (hd : 2 ≤ d)  : ∀ (n : Nat) (a0 : Nat × Nat) (x1 : Int32) (h : am_H), Sim m_X7_findAbove d 17 [some (.inr (.inr (some a0))), some (.inl x1), none] [] h (f_X7_findAbove_17  n a0 x1 h) := by
  intro n
  induction n with
  | zero => intros; exact sim_none
  | succ n hrc17 =>
    intro a0 x1 h
    rw [f_X7_findAbove_17]
    refine sim_iload_n dX7_findAbove_17 rfl ?_
    refine sim_aload_n dX7_findAbove_18 rfl ?_
    refine sim_gI 7 0 dX7_findAbove_19 rfl wf_RX7_21 (Nat.le_of_ble_eq_true rfl) rfl (fun v4 => ?_)
    refine sim_ic_ge 75 dX7_findAbove_22 (by decide) (fun c => ?_) (fun c => ?_)
    · exact sim_vret dX7_findAbove_75 rfl
    · refine sim_iconst (0) dX7_findAbove_25 (by decide +kernel) ?_
      refine sim_istore_n dX7_findAbove_26 (Nat.le_of_ble_eq_true rfl) ?_
      exact sim_lv (am_leS (am_leS (am_leS am_leT))) (t_X7_findAbove_27 d (by omega) _ hrc17 _ _ _ _ _)
def f_X7_findAbove (a0 : Nat × Nat) (h : am_H) : am_R := m_gR (some a0) 7 2 h fun o1 => m_gR (some a0) 7 3 h fun o2 => m_cpy o1 (0 : Int32) o2 (0 : Int32) (30 : Int32) h fun h3 => f_X7_findAbove_17 5000 a0 (0 : Int32) h3
theorem k_X7_findAbove (d : Nat) (hd : 2 ≤ d) (a0 : Nat × Nat) (h : am_H) : am_Con m_X7_findAbove d [.inr (.inr (some a0))] h (f_X7_findAbove a0 h) := am_con (by decide +kernel) (Nat.le_of_ble_eq_true rfl) (by
  unfold f_X7_findAbove
  refine sim_aload_n dX7_findAbove_0 rfl ?_
  refine sim_gR 7 2 dX7_findAbove_1 rfl wf_RX7_15 (Nat.le_of_ble_eq_true rfl) rfl (fun o1 => ?_)
  refine sim_iconst (0) dX7_findAbove_4 (by decide +kernel) ?_
  refine sim_aload_n dX7_findAbove_5 rfl ?_
  refine sim_gR 7 3 dX7_findAbove_6 rfl wf_RX7_18 (Nat.le_of_ble_eq_true rfl) rfl (fun o2 => ?_)
  refine sim_iconst (0) dX7_findAbove_9 (by decide +kernel) ?_
  refine sim_bipush (30) dX7_findAbove_10 (by decide +kernel) ?_
  refine sim_cpy dX7_findAbove_12 wm_RX7_36 wcp_n wcp_s wz_RJ10 (by omega) (Nat.le_of_ble_eq_true rfl) (fun h3 => ?_)
  refine sim_iconst (0) dX7_findAbove_15 (by decide +kernel) ?_
  refine sim_istore_n dX7_findAbove_16 (Nat.le_of_ble_eq_true rfl) ?_
  exact sim_lv (am_leS (am_leS (am_leN am_leT))) (t_X7_findAbove_17 d (by omega) _ _ _ _))
theorem q_X7_findAbove : am_Cal m_X7_findAbove 0 2 := ⟨am_mem 722 (w := Cond.code yX7_findAbove cX7_findAbove 3 none) (by decide +kernel) rfl, am_mem 57 (w := Cond.initialized RX7) (by decide +kernel) rfl, fun z => absurd z (by decide), fun _ => am_mem 721 (w := Cond.instanceMethod yX7_findAbove) (by decide +kernel) rfl, fun z => absurd z (by decide), fun _ => am_mem 10 (w := Cond.selects RX7 yX7_findAbove yX7_findAbove) (by decide +kernel) rfl, by decide +kernel, by decide +kernel, Nat.le_of_ble_eq_true rfl⟩
abbrev m_X7_makeAlias : am_M := (yX7_makeAlias, cX7_makeAlias, 4, none, [])
def f_X7_makeAlias_62 (rc2 : Nat × Nat → Int32 → Int32 → Int32 → am_H → am_R) (a0 : Nat × Nat) (x1 : Int32) (x2 : Int32) (x3 : Int32) (h : am_H) : am_R := rc2 a0 x1 x2 (x3 + 1) h
theorem t_X7_makeAlias_62 (d : Nat) (hd : 3 ≤ d) (rc2 : Nat × Nat → Int32 → Int32 → Int32 → am_H → am_R) (hrc2 : ∀ a0 x1 x2 x3 h, Sim m_X7_makeAlias d 2 [some (.inr (.inr (some a0))), some (.inl x1), some (.inl x2), some (.inl x3)] [] h (rc2 a0 x1 x2 x3 h)) (a0 : Nat × Nat) (x1 : Int32) (x2 : Int32) (x3 : Int32) (h : am_H) : Sim m_X7_makeAlias d 62 [some (.inr (.inr (some a0))), some (.inl x1), some (.inl x2), some (.inl x3)] [] h (f_X7_makeAlias_62 rc2 a0 x1 x2 x3 h) := by
  unfold f_X7_makeAlias_62
  refine sim_iinc (1) dX7_makeAlias_62 rfl (by decide +kernel) (Nat.le_of_ble_eq_true rfl) ?_
  refine sim_goto 2 dX7_makeAlias_65 (by decide) ?_
  exact sim_lv (am_leS (am_leS (am_leS (am_leS am_leT)))) (hrc2 _ _ _ _ _)
def f_X7_makeAlias_27 (rc2 : Nat × Nat → Int32 → Int32 → Int32 → am_H → am_R) (a0 : Nat × Nat) (x1 : Int32) (x2 : Int32) (x3 : Int32) (h : am_H) : am_R := m_gR (some a0) 7 2 h fun o13 => m_aI o13 0 x3 h fun v14 => m_bJ (f_X10_has v14 x1 h) fun h15 v16 => if v16 = 0 then (f_X7_makeAlias_62 rc2 a0 x1 x2 x3 h15) else (m_gR (some a0) 7 2 h15 fun o17 => m_gR (some a0) 7 2 h15 fun o18 => m_aI o18 0 x3 h15 fun v19 => m_bJ (f_X10_with v19 x1 (0 : Int32) h15) fun h20 v21 => m_bJ (f_X10_with v21 x2 (1 : Int32) h20) fun h22 v23 => m_sI o17 x3 v23 h22 fun h24 => f_X7_makeAlias_62 rc2 a0 x1 x2 x3 h24)
theorem t_X7_makeAlias_27 (d : Nat) (hd : 3 ≤ d) (rc2 : Nat × Nat → Int32 → Int32 → Int32 → am_H → am_R) (hrc2 : ∀ a0 x1 x2 x3 h, Sim m_X7_makeAlias d 2 [some (.inr (.inr (some a0))), some (.inl x1), some (.inl x2), some (.inl x3)] [] h (rc2 a0 x1 x2 x3 h)) (a0 : Nat × Nat) (x1 : Int32) (x2 : Int32) (x3 : Int32) (h : am_H) : Sim m_X7_makeAlias d 27 [some (.inr (.inr (some a0))), some (.inl x1), some (.inl x2), some (.inl x3)] [] h (f_X7_makeAlias_27 rc2 a0 x1 x2 x3 h) := by
  unfold f_X7_makeAlias_27
  refine sim_aload_n dX7_makeAlias_27 rfl ?_
  refine sim_gR 7 2 dX7_makeAlias_28 rfl wf_RX7_15 (Nat.le_of_ble_eq_true rfl) rfl (fun o13 => ?_)
  refine sim_iload_n dX7_makeAlias_31 rfl ?_
  refine sim_aI dX7_makeAlias_32 (fun v14 => ?_)
  refine sim_iload_n dX7_makeAlias_33 rfl ?_
  refine sim_staticN (d - 1) dX7_makeAlias_34 (k_X10_has (d - 1) (by omega) _ _ _) q_X10_has wn_RX7_25 rfl rfl (by omega) (Nat.le_of_ble_eq_true rfl) am_nJ am_xJ (am_rJ fun h15 v16 => ?_)
  refine sim_if_eq 62 dX7_makeAlias_37 (by decide) (fun c => ?_) (fun c => ?_)
  · exact sim_lv (am_leS (am_leS (am_leS (am_leS am_leT)))) (t_X7_makeAlias_62 d (by omega) _ hrc2 _ _ _ _ _)
  · refine sim_aload_n dX7_makeAlias_40 rfl ?_
    refine sim_gR 7 2 dX7_makeAlias_41 rfl wf_RX7_15 (Nat.le_of_ble_eq_true rfl) rfl (fun o17 => ?_)
    refine sim_iload_n dX7_makeAlias_44 rfl ?_
    refine sim_aload_n dX7_makeAlias_45 rfl ?_
    refine sim_gR 7 2 dX7_makeAlias_46 rfl wf_RX7_15 (Nat.le_of_ble_eq_true rfl) rfl (fun o18 => ?_)
    refine sim_iload_n dX7_makeAlias_49 rfl ?_
    refine sim_aI dX7_makeAlias_50 (fun v19 => ?_)
    refine sim_iload_n dX7_makeAlias_51 rfl ?_
    refine sim_iconst (0) dX7_makeAlias_52 (by decide +kernel) ?_
    refine sim_staticN (d - 1) dX7_makeAlias_53 (k_X10_with (d - 1) (by omega) _ _ _ _) q_X10_with wn_RX7_29 rfl rfl (by omega) (Nat.le_of_ble_eq_true rfl) am_nJ am_xJ (am_rJ fun h20 v21 => ?_)
    refine sim_iload_n dX7_makeAlias_56 rfl ?_
    refine sim_iconst (1) dX7_makeAlias_57 (by decide +kernel) ?_
    refine sim_staticN (d - 1) dX7_makeAlias_58 (k_X10_with (d - 1) (by omega) _ _ _ _) q_X10_with wn_RX7_29 rfl rfl (by omega) (Nat.le_of_ble_eq_true rfl) am_nJ am_xJ (am_rJ fun h22 v23 => ?_)
    refine sim_sI dX7_makeAlias_61 (fun h24 => ?_)
    exact sim_lv (am_leS (am_leS (am_leS (am_leS am_leT)))) (t_X7_makeAlias_62 d (by omega) _ hrc2 _ _ _ _ _)
def f_X7_makeAlias_2  : Nat → Nat × Nat → Int32 → Int32 → Int32 → am_H → am_R
  | 0, _, _, _, _, _ => none
  | n + 1, a0, x1, x2, x3, h => m_gI (some a0) 7 0 h fun v1 => if v1 ≤ x3 then (m_gR (some a0) 7 1 h fun o2 => m_sI o2 x1 x2 h fun h3 => m_gR (some a0) 7 2 h3 fun o4 => m_sI o4 x1 (0 : Int32) h3 fun h5 => m_ao (some a0) 7 fun a8 => m_bV (f_X7_findAbove a8 h5) fun h6 => m_rt h6 none) else (m_gR (some a0) 7 1 h fun o9 => m_aI o9 0 x3 h fun v10 => if v10 = x1 then (m_gR (some a0) 7 1 h fun o11 => m_sI o11 x3 x2 h fun h12 => f_X7_makeAlias_27 (f_X7_makeAlias_2  n) a0 x1 x2 x3 h12) else (f_X7_makeAlias_27 (f_X7_makeAlias_2  n) a0 x1 x2 x3 h))
theorem t_X7_makeAlias_2 (d : Nat) (hd : 3 ≤ d)  : ∀ (n : Nat) (a0 : Nat × Nat) (x1 : Int32) (x2 : Int32) (x3 : Int32) (h : am_H), Sim m_X7_makeAlias d 2 [some (.inr (.inr (some a0))), some (.inl x1), some (.inl x2), some (.inl x3)] [] h (f_X7_makeAlias_2  n a0 x1 x2 x3 h) := by
  intro n
  induction n with
  | zero => intros; exact sim_none
  | succ n hrc2 =>
    intro a0 x1 x2 x3 h
    rw [f_X7_makeAlias_2]
    refine sim_iload_n dX7_makeAlias_2 rfl ?_
    refine sim_aload_n dX7_makeAlias_3 rfl ?_
    refine sim_gI 7 0 dX7_makeAlias_4 rfl wf_RX7_21 (Nat.le_of_ble_eq_true rfl) rfl (fun v1 => ?_)
    refine sim_ic_ge 68 dX7_makeAlias_7 (by decide) (fun c => ?_) (fun c => ?_)
    · refine sim_aload_n dX7_makeAlias_68 rfl ?_
      refine sim_gR 7 1 dX7_makeAlias_69 rfl wf_RX7_9 (Nat.le_of_ble_eq_true rfl) rfl (fun o2 => ?_)
      refine sim_iload_n dX7_makeAlias_72 rfl ?_
      refine sim_iload_n dX7_makeAlias_73 rfl ?_
      refine sim_sI dX7_makeAlias_74 (fun h3 => ?_)
      refine sim_aload_n dX7_makeAlias_75 rfl ?_
      refine sim_gR 7 2 dX7_makeAlias_76 rfl wf_RX7_15 (Nat.le_of_ble_eq_true rfl) rfl (fun o4 => ?_)
      refine sim_iload_n dX7_makeAlias_79 rfl ?_
      refine sim_iconst (0) dX7_makeAlias_80 (by decide +kernel) ?_
      refine sim_sI dX7_makeAlias_81 (fun h5 => ?_)
      refine sim_aload_n dX7_makeAlias_82 rfl ?_
      refine sim_ao0 (fun a8 e => ?_)
      refine sim_virt (d - 1) e dX7_makeAlias_83 (k_X7_findAbove (d - 1) (by omega) _  _) q_X7_findAbove rfl rfl wm_RX7_33 rfl rfl (by omega) (Nat.le_of_ble_eq_true rfl) am_nV (am_rV fun h6 => ?_) am_eV
      exact sim_vret dX7_makeAlias_86 rfl
    · refine sim_aload_n dX7_makeAlias_10 rfl ?_
      refine sim_gR 7 1 dX7_makeAlias_11 rfl wf_RX7_9 (Nat.le_of_ble_eq_true rfl) rfl (fun o9 => ?_)
      refine sim_iload_n dX7_makeAlias_14 rfl ?_
      refine sim_aI dX7_makeAlias_15 (fun v10 => ?_)
      refine sim_iload_n dX7_makeAlias_16 rfl ?_
      refine sim_ic_ne 27 dX7_makeAlias_17 (by decide) (fun c => ?_) (fun c => ?_)
      · exact sim_lv (am_leS (am_leS (am_leS (am_leS am_leT)))) (t_X7_makeAlias_27 d (by omega) _ hrc2 _ _ _ _ _)
      · refine sim_aload_n dX7_makeAlias_20 rfl ?_
        refine sim_gR 7 1 dX7_makeAlias_21 rfl wf_RX7_9 (Nat.le_of_ble_eq_true rfl) rfl (fun o11 => ?_)
        refine sim_iload_n dX7_makeAlias_24 rfl ?_
        refine sim_iload_n dX7_makeAlias_25 rfl ?_
        refine sim_sI dX7_makeAlias_26 (fun h12 => ?_)
        exact sim_lv (am_leS (am_leS (am_leS (am_leS am_leT)))) (t_X7_makeAlias_27 d (by omega) _ hrc2 _ _ _ _ _)
def f_X7_makeAlias (a0 : Nat × Nat) (x1 : Int32) (x2 : Int32) (h : am_H) : am_R := f_X7_makeAlias_2 5000 a0 x1 x2 (0 : Int32) h
theorem k_X7_makeAlias (d : Nat) (hd : 3 ≤ d) (a0 : Nat × Nat) (x1 : Int32) (x2 : Int32) (h : am_H) : am_Con m_X7_makeAlias d [.inr (.inr (some a0)), .inl x1, .inl x2] h (f_X7_makeAlias a0 x1 x2 h) := am_con (by decide +kernel) (Nat.le_of_ble_eq_true rfl) (by
  unfold f_X7_makeAlias
  refine sim_iconst (0) dX7_makeAlias_0 (by decide +kernel) ?_
  refine sim_istore_n dX7_makeAlias_1 (Nat.le_of_ble_eq_true rfl) ?_
  exact sim_lv (am_leS (am_leS (am_leS (am_leS am_leT)))) (t_X7_makeAlias_2 d (by omega) _ _ _ _ _ _))
theorem q_X7_makeAlias : am_Cal m_X7_makeAlias 2 2 := ⟨am_mem 717 (w := Cond.code yX7_makeAlias cX7_makeAlias 4 none) (by decide +kernel) rfl, am_mem 57 (w := Cond.initialized RX7) (by decide +kernel) rfl, fun z => absurd z (by decide), fun _ => am_mem 715 (w := Cond.instanceMethod yX7_makeAlias) (by decide +kernel) rfl, fun z => absurd z (by decide), fun _ => am_mem 716 (w := Cond.selects RX7 yX7_makeAlias yX7_makeAlias) (by decide +kernel) rfl, by decide +kernel, by decide +kernel, Nat.le_of_ble_eq_true rfl⟩
