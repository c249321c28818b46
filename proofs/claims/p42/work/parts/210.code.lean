abbrev m_X10_fault : am_M := (yX10_fault, cX10_fault, 1, some .int, [])
def f_X10_fault (a0 : Nat × Nat) (h : am_H) : am_R := m_gR (some a0) 10 8 h fun o1 => m_ao o1 8 fun a4 => m_bI (f_X8_firstFault a4 h) fun h2 v3 => m_ri h2 v3
theorem k_X10_fault (d : Nat) (hd : 4 ≤ d) (a0 : Nat × Nat) (h : am_H) : am_Con m_X10_fault d [.inr (.inr (some a0))] h (f_X10_fault a0 h) := am_con (by decide +kernel) (Nat.le_of_ble_eq_true rfl) (by
  unfold f_X10_fault
  refine sim_aload_n dX10_fault_0 rfl ?_
  refine sim_gR 10 8 dX10_fault_1 rfl wf_RX10_41 (Nat.le_of_ble_eq_true rfl) rfl (fun o1 => ?_)
  refine sim_ao0 (fun a4 e => ?_)
  refine sim_virt (d - 1) e dX10_fault_4 (k_X8_firstFault (d - 1) (by omega) _  _) q_X8_firstFault rfl rfl wm_RX10_271 rfl rfl (by omega) (Nat.le_of_ble_eq_true rfl) am_nI (am_rI fun h2 v3 => ?_) am_eI
  exact sim_iret dX10_fault_7 rfl)
theorem q_X10_fault : am_Cal m_X10_fault 0 2 := ⟨am_mem 986 (w := Cond.code yX10_fault cX10_fault 1 (some .int)) (by decide +kernel) rfl, am_mem 30 (w := Cond.initialized RX10) (by decide +kernel) rfl, fun z => absurd z (by decide), fun _ => am_mem 984 (w := Cond.instanceMethod yX10_fault) (by decide +kernel) rfl, fun z => absurd z (by decide), fun _ => am_mem 985 (w := Cond.selects RX10 yX10_fault yX10_fault) (by decide +kernel) rfl, by decide +kernel, by decide +kernel, Nat.le_of_ble_eq_true rfl⟩
abbrev m_X2_countMatches : am_M := (yX2_countMatches, cX2_countMatches, 2, some .int, [])
def f_X2_countMatches (a0 : Nat × Nat) (x1 : Option (Nat × Nat)) (h : am_H) : am_R := m_ao (some a0) 2 fun a3 => m_bV (f_X2_findWays a3 x1 h) fun h1 => m_gR (some a0) 2 3 h1 fun o4 => m_aI o4 0 (0 : Int32) h1 fun v5 => m_ri h1 v5
theorem k_X2_countMatches (d : Nat) (hd : 5 ≤ d) (a0 : Nat × Nat) (x1 : Option (Nat × Nat)) (h : am_H) : am_Con m_X2_countMatches d [.inr (.inr (some a0)), .inr (.inr x1)] h (f_X2_countMatches a0 x1 h) := am_con (by decide +kernel) (Nat.le_of_ble_eq_true rfl) (by
  unfold f_X2_countMatches
  refine sim_aload_n dX2_countMatches_0 rfl ?_
  refine sim_aload_n dX2_countMatches_1 rfl ?_
  refine sim_ao1 (fun a3 e => ?_)
  refine sim_virt (d - 1) e dX2_countMatches_2 (k_X2_findWays (d - 1) (by omega) _ _ _) q_X2_findWays rfl rfl wm_RX2_31 rfl rfl (by omega) (Nat.le_of_ble_eq_true rfl) am_nV (am_rV fun h1 => ?_) am_eV
  refine sim_aload_n dX2_countMatches_5 rfl ?_
  refine sim_gR 2 3 dX2_countMatches_6 rfl wf_RX2_21 (Nat.le_of_ble_eq_true rfl) rfl (fun o4 => ?_)
  refine sim_iconst (0) dX2_countMatches_9 (by decide +kernel) ?_
  refine sim_aI dX2_countMatches_10 (fun v5 => ?_)
  exact sim_iret dX2_countMatches_11 rfl)
theorem q_X2_countMatches : am_Cal m_X2_countMatches 1 2 := ⟨am_mem 998 (w := Cond.code yX2_countMatches cX2_countMatches 2 (some .int)) (by decide +kernel) rfl, am_mem 35 (w := Cond.initialized RX2) (by decide +kernel) rfl, fun z => absurd z (by decide), fun _ => am_mem 996 (w := Cond.instanceMethod yX2_countMatches) (by decide +kernel) rfl, fun z => absurd z (by decide), fun _ => am_mem 997 (w := Cond.selects RX2 yX2_countMatches yX2_countMatches) (by decide +kernel) rfl, by decide +kernel, by decide +kernel, Nat.le_of_ble_eq_true rfl⟩
abbrev m_X10_matches : am_M := (yX10_matches, cX10_matches, 1, some .int, [])
def f_X10_matches (a0 : Nat × Nat) (h : am_H) : am_R := m_gR (some a0) 10 10 h fun o1 => m_gR (some a0) 10 7 h fun o2 => m_ao o1 2 fun a5 => m_bI (f_X2_countMatches a5 o2 h) fun h3 v4 => m_ri h3 v4
theorem k_X10_matches (d : Nat) (hd : 6 ≤ d) (a0 : Nat × Nat) (h : am_H) : am_Con m_X10_matches d [.inr (.inr (some a0))] h (f_X10_matches a0 h) := am_con (by decide +kernel) (Nat.le_of_ble_eq_true rfl) (by
  unfold f_X10_matches
  refine sim_aload_n dX10_matches_0 rfl ?_
  refine sim_gR 10 10 dX10_matches_1 rfl wf_RX10_55 (Nat.le_of_ble_eq_true rfl) rfl (fun o1 => ?_)
  refine sim_aload_n dX10_matches_4 rfl ?_
  refine sim_gR 10 7 dX10_matches_5 rfl wf_RX10_34 (Nat.le_of_ble_eq_true rfl) rfl (fun o2 => ?_)
  refine sim_ao1 (fun a5 e => ?_)
  refine sim_virt (d - 1) e dX10_matches_8 (k_X2_countMatches (d - 1) (by omega) _ _ _) q_X2_countMatches rfl rfl wm_RX10_311 rfl rfl (by omega) (Nat.le_of_ble_eq_true rfl) am_nI (am_rI fun h3 v4 => ?_) am_eI
  exact sim_iret dX10_matches_11 rfl)
theorem q_X10_matches : am_Cal m_X10_matches 0 2 := ⟨am_mem 994 (w := Cond.code yX10_matches cX10_matches 1 (some .int)) (by decide +kernel) rfl, am_mem 30 (w := Cond.initialized RX10) (by decide +kernel) rfl, fun z => absurd z (by decide), fun _ => am_mem 992 (w := Cond.instanceMethod yX10_matches) (by decide +kernel) rfl, fun z => absurd z (by decide), fun _ => am_mem 993 (w := Cond.selects RX10 yX10_matches yX10_matches) (by decide +kernel) rfl, by decide +kernel, by decide +kernel, Nat.le_of_ble_eq_true rfl⟩
abbrev m_X10_waiting : am_M := (yX10_waiting, cX10_waiting, 3, some .int, [])
def f_X10_waiting_4  : Nat → Nat × Nat → Int32 → Int32 → am_H → am_R
  | 0, _, _, _, _ => none
  | n + 1, a0, x1, x2, h => m_gI (some a0) 10 4 h fun v1 => if v1 ≤ x2 then (m_ri h x1) else (m_gR (some a0) 10 3 h fun o2 => m_aR o2 5 x2 h fun o3 => m_gI o3 9 9 h fun v4 => m_bI (f_X10_with x1 x2 v4 h) fun h5 v6 => (f_X10_waiting_4  n) a0 v6 (x2 + 1) h5)
theorem t_X10_waiting_4 (d : Nat) (hd : 1 ≤ d)  : ∀ (n : Nat) (a0 : Nat × Nat) (x1 : Int32) (x2 : Int32) (h : am_H), Sim m_X10_waiting d 4 [some (.inr (.inr (some a0))), some (.inl x1), some (.inl x2)] [] h (f_X10_waiting_4  n a0 x1 x2 h) := by
  intro n
  induction n with
  | zero => intros; exact sim_none
  | succ n hrc4 =>
    intro a0 x1 x2 h
    rw [f_X10_waiting_4]
    refine sim_iload_n dX10_waiting_4 rfl ?_
    refine sim_aload_n dX10_waiting_5 rfl ?_
    refine sim_gI 10 4 dX10_waiting_6 rfl wf_RX10_104 (Nat.le_of_ble_eq_true rfl) rfl (fun v1 => ?_)
    refine sim_ic_ge 33 dX10_waiting_9 (by decide) (fun c => ?_) (fun c => ?_)
    · refine sim_iload_n dX10_waiting_33 rfl ?_
      exact sim_iret dX10_waiting_34 rfl
    · refine sim_iload_n dX10_waiting_12 rfl ?_
      refine sim_iload_n dX10_waiting_13 rfl ?_
      refine sim_aload_n dX10_waiting_14 rfl ?_
      refine sim_gR 10 3 dX10_waiting_15 rfl wf_RX10_21 (Nat.le_of_ble_eq_true rfl) rfl (fun o2 => ?_)
      refine sim_iload_n dX10_waiting_18 rfl ?_
      refine sim_aR 5 rfl dX10_waiting_19 (fun o3 => ?_)
      refine sim_gI 9 9 dX10_waiting_20 rfl wf_RX10_244 (Nat.le_of_ble_eq_true rfl) rfl (fun v4 => ?_)
      refine sim_static (d - 1) dX10_waiting_23 (k_X10_with (d - 1) (by omega) _ _ _ _) q_X10_with wm_RX10_95 rfl rfl (by omega) (Nat.le_of_ble_eq_true rfl) am_nI (am_rI fun h5 v6 => ?_) am_eI
      refine sim_istore_n dX10_waiting_26 (Nat.le_of_ble_eq_true rfl) ?_
      refine sim_iinc (1) dX10_waiting_27 rfl (by decide +kernel) (Nat.le_of_ble_eq_true rfl) ?_
      refine sim_goto 4 dX10_waiting_30 (by decide) ?_
      exact sim_lv (am_leS (am_leS (am_leS am_leT))) (hrc4 _ _ _ _)
def f_X10_waiting (a0 : Nat × Nat) (h : am_H) : am_R := f_X10_waiting_4 5000 a0 (0 : Int32) (0 : Int32) h
theorem k_X10_waiting (d : Nat) (hd : 1 ≤ d) (a0 : Nat × Nat) (h : am_H) : am_Con m_X10_waiting d [.inr (.inr (some a0))] h (f_X10_waiting a0 h) := am_con (by decide +kernel) (Nat.le_of_ble_eq_true rfl) (by
  unfold f_X10_waiting
  refine sim_iconst (0) dX10_waiting_0 (by decide +kernel) ?_
  refine sim_istore_n dX10_waiting_1 (Nat.le_of_ble_eq_true rfl) ?_
  refine sim_iconst (0) dX10_waiting_2 (by decide +kernel) ?_
  refine sim_istore_n dX10_waiting_3 (Nat.le_of_ble_eq_true rfl) ?_
  exact sim_lv (am_leS (am_leS (am_leS am_leT))) (t_X10_waiting_4 d (by omega) _ _ _ _ _))
theorem q_X10_waiting : am_Cal m_X10_waiting 0 2 := ⟨am_mem 990 (w := Cond.code yX10_waiting cX10_waiting 3 (some .int)) (by decide +kernel) rfl, am_mem 30 (w := Cond.initialized RX10) (by decide +kernel) rfl, fun z => absurd z (by decide), fun _ => am_mem 988 (w := Cond.instanceMethod yX10_waiting) (by decide +kernel) rfl, fun z => absurd z (by decide), fun _ => am_mem 989 (w := Cond.selects RX10 yX10_waiting yX10_waiting) (by decide +kernel) rfl, by decide +kernel, by decide +kernel, Nat.le_of_ble_eq_true rfl⟩
abbrev m_L_areAlike : am_M := (yL_areAlike, cL_areAlike, 7, some .boolean, [])
def f_L_areAlike_396  (s0 : Int32) (h : am_H) : am_R := m_rz h s0
theorem t_L_areAlike_396 (d : Nat) (hd : 12 ≤ d)  (s0 : Int32) (h : am_H) : Sim m_L_areAlike d 396 [none, none, none, none, none, none, none] [.inl s0] h (f_L_areAlike_396  s0 h) := by
  unfold f_L_areAlike_396
  exact sim_zret dL_areAlike_396 rfl
def f_L_areAlike_395   (h : am_H) : am_R := f_L_areAlike_396 (0 : Int32) h
theorem t_L_areAlike_395 (d : Nat) (hd : 12 ≤ d)   (h : am_H) : Sim m_L_areAlike d 395 [none, none, none, none, none, none, none] [] h (f_L_areAlike_395   h) := by
  unfold f_L_areAlike_395
  refine sim_iconst (0) dL_areAlike_395 (by decide +kernel) ?_
  exact sim_lv (am_leN (am_leN (am_leN (am_leN (am_leN (am_leN (am_leN am_leT))))))) (t_L_areAlike_396 d (by omega) _ _)
def f_L_areAlike_321  (x0 : Option (Nat × Nat)) (x1 : Option (Nat × Nat)) (x2 : Int32) (x3 : Int32) (x4 : Int32) (h : am_H) : am_R := if x3 = 0 then (f_L_areAlike_395 h) else (m_bI (f_L_does x0 (22 : Int32) x4 (x2 &&& (1 : Int32)) (0 : Int32) (0 : Int32) h) fun h55 v56 => m_bI (f_L_does x1 (22 : Int32) x4 (x2 &&& (1 : Int32)) (0 : Int32) (0 : Int32) h55) fun h57 v58 => if v56 = v58 then (m_bI (f_L_low (x2 >>> ((3 : Int32) &&& 31)) (3 : Int32) h57) fun h59 v60 => m_bI (f_L_does x0 (23 : Int32) x4 v60 (0 : Int32) (0 : Int32) h59) fun h61 v62 => m_bI (f_L_low (x2 >>> ((3 : Int32) &&& 31)) (3 : Int32) h61) fun h63 v64 => m_bI (f_L_does x1 (23 : Int32) x4 v64 (0 : Int32) (0 : Int32) h63) fun h65 v66 => if v62 = v66 then (f_L_areAlike_396 (1 : Int32) h65) else (f_L_areAlike_395 h65)) else (f_L_areAlike_395 h57))
theorem t_L_areAlike_321 (d : Nat) (hd : 12 ≤ d)  (x0 : Option (Nat × Nat)) (x1 : Option (Nat × Nat)) (x2 : Int32) (x3 : Int32) (x4 : Int32) (h : am_H) : Sim m_L_areAlike d 321 [some (.inr (.inr x0)), some (.inr (.inr x1)), some (.inl x2), some (.inl x3), some (.inl x4), none, none] [] h (f_L_areAlike_321  x0 x1 x2 x3 x4 h) := by
  unfold f_L_areAlike_321
  refine sim_iload_n dL_areAlike_321 rfl ?_
  refine sim_if_eq 395 dL_areAlike_322 (by decide) (fun c => ?_) (fun c => ?_)
  · exact sim_lv (am_leN (am_leN (am_leN (am_leN (am_leN (am_leN (am_leN am_leT))))))) (t_L_areAlike_395 d (by omega) _)
  · refine sim_aload_n dL_areAlike_325 rfl ?_
    refine sim_bipush (22) dL_areAlike_326 (by decide +kernel) ?_
    refine sim_iload dL_areAlike_328 rfl ?_
    refine sim_iload_n dL_areAlike_330 rfl ?_
    refine sim_iconst (1) dL_areAlike_331 (by decide +kernel) ?_
    refine sim_iand dL_areAlike_332 ?_
    refine sim_iconst (0) dL_areAlike_333 (by decide +kernel) ?_
    refine sim_iconst (0) dL_areAlike_334 (by decide +kernel) ?_
    refine sim_staticX (d - 1) dL_areAlike_335 (k_L_does (d - 1) (by omega) _ _ _ _ _ _ _) q_L_does wm_RL_152 rfl rfl (by omega) (Nat.le_of_ble_eq_true rfl) am_nI (am_rI fun h55 v56 => ?_) am_eI
    refine sim_aload_n dL_areAlike_338 rfl ?_
    refine sim_bipush (22) dL_areAlike_339 (by decide +kernel) ?_
    refine sim_iload dL_areAlike_341 rfl ?_
    refine sim_iload_n dL_areAlike_343 rfl ?_
    refine sim_iconst (1) dL_areAlike_344 (by decide +kernel) ?_
    refine sim_iand dL_areAlike_345 ?_
    refine sim_iconst (0) dL_areAlike_346 (by decide +kernel) ?_
    refine sim_iconst (0) dL_areAlike_347 (by decide +kernel) ?_
    refine sim_staticX (d - 1) dL_areAlike_348 (k_L_does (d - 1) (by omega) _ _ _ _ _ _ _) q_L_does wm_RL_152 rfl rfl (by omega) (Nat.le_of_ble_eq_true rfl) am_nI (am_rI fun h57 v58 => ?_) am_eI
    refine sim_ic_ne 395 dL_areAlike_351 (by decide) (fun c => ?_) (fun c => ?_)
    · exact sim_lv (am_leN (am_leN (am_leN (am_leN (am_leN (am_leN (am_leN am_leT))))))) (t_L_areAlike_395 d (by omega) _)
    · refine sim_aload_n dL_areAlike_354 rfl ?_
      refine sim_bipush (23) dL_areAlike_355 (by decide +kernel) ?_
      refine sim_iload dL_areAlike_357 rfl ?_
      refine sim_iload_n dL_areAlike_359 rfl ?_
      refine sim_iconst (3) dL_areAlike_360 (by decide +kernel) ?_
      refine sim_ishr dL_areAlike_361 ?_
      refine sim_iconst (3) dL_areAlike_362 (by decide +kernel) ?_
      refine sim_static (d - 1) dL_areAlike_363 (k_L_low (d - 1) (by omega) _ _ _) q_L_low wm_RL_155 rfl rfl (by omega) (Nat.le_of_ble_eq_true rfl) am_nI (am_rI fun h59 v60 => ?_) am_eI
      refine sim_iconst (0) dL_areAlike_366 (by decide +kernel) ?_
      refine sim_iconst (0) dL_areAlike_367 (by decide +kernel) ?_
      refine sim_staticX (d - 1) dL_areAlike_368 (k_L_does (d - 1) (by omega) _ _ _ _ _ _ _) q_L_does wm_RL_152 rfl rfl (by omega) (Nat.le_of_ble_eq_true rfl) am_nI (am_rI fun h61 v62 => ?_) am_eI
      refine sim_aload_n dL_areAlike_371 rfl ?_
      refine sim_bipush (23) dL_areAlike_372 (by decide +kernel) ?_
      refine sim_iload dL_areAlike_374 rfl ?_
      refine sim_iload_n dL_areAlike_376 rfl ?_
      refine sim_iconst (3) dL_areAlike_377 (by decide +kernel) ?_
      refine sim_ishr dL_areAlike_378 ?_
      refine sim_iconst (3) dL_areAlike_379 (by decide +kernel) ?_
      refine sim_static (d - 1) dL_areAlike_380 (k_L_low (d - 1) (by omega) _ _ _) q_L_low wm_RL_155 rfl rfl (by omega) (Nat.le_of_ble_eq_true rfl) am_nI (am_rI fun h63 v64 => ?_) am_eI
      refine sim_iconst (0) dL_areAlike_383 (by decide +kernel) ?_
      refine sim_iconst (0) dL_areAlike_384 (by decide +kernel) ?_
      refine sim_staticX (d - 1) dL_areAlike_385 (k_L_does (d - 1) (by omega) _ _ _ _ _ _ _) q_L_does wm_RL_152 rfl rfl (by omega) (Nat.le_of_ble_eq_true rfl) am_nI (am_rI fun h65 v66 => ?_) am_eI
      refine sim_ic_ne 395 dL_areAlike_388 (by decide) (fun c => ?_) (fun c => ?_)
      · exact sim_lv (am_leN (am_leN (am_leN (am_leN (am_leN (am_leN (am_leN am_leT))))))) (t_L_areAlike_395 d (by omega) _)
      · refine sim_iconst (1) dL_areAlike_391 (by decide +kernel) ?_
        refine sim_goto 396 dL_areAlike_392 (by decide) ?_
        exact sim_lv (am_leN (am_leN (am_leN (am_leN (am_leN (am_leN (am_leN am_leT))))))) (t_L_areAlike_396 d (by omega) _ _)
def f_L_areAlike_315 (rc50 : Option (Nat × Nat) → Option (Nat × Nat) → Int32 → Int32 → Int32 → Int32 → am_H → am_R) (x0 : Option (Nat × Nat)) (x1 : Option (Nat × Nat)) (x2 : Int32) (x3 : Int32) (x4 : Int32) (x5 : Int32) (h : am_H) : am_R := rc50 x0 x1 x2 x3 x4 (x5 + 1) h
theorem t_L_areAlike_315 (d : Nat) (hd : 12 ≤ d) (rc50 : Option (Nat × Nat) → Option (Nat × Nat) → Int32 → Int32 → Int32 → Int32 → am_H → am_R) (hrc50 : ∀ x0 x1 x2 x3 x4 x5 h, Sim m_L_areAlike d 50 [some (.inr (.inr x0)), some (.inr (.inr x1)), some (.inl x2), some (.inl x3), some (.inl x4), some (.inl x5), none] [] h (rc50 x0 x1 x2 x3 x4 x5 h)) (x0 : Option (Nat × Nat)) (x1 : Option (Nat × Nat)) (x2 : Int32) (x3 : Int32) (x4 : Int32) (x5 : Int32) (h : am_H) : Sim m_L_areAlike d 315 [some (.inr (.inr x0)), some (.inr (.inr x1)), some (.inl x2), some (.inl x3), some (.inl x4), some (.inl x5), none] [] h (f_L_areAlike_315 rc50 x0 x1 x2 x3 x4 x5 h) := by
  unfold f_L_areAlike_315
  refine sim_iinc (1) dL_areAlike_315 rfl (by decide +kernel) (Nat.le_of_ble_eq_true rfl) ?_
  refine sim_goto 50 dL_areAlike_318 (by decide) ?_
  exact sim_lv (am_leS (am_leS (am_leS (am_leS (am_leS (am_leS (am_leN am_leT))))))) (hrc50 _ _ _ _ _ _ _)
def f_L_areAlike_308 (rc50 : Option (Nat × Nat) → Option (Nat × Nat) → Int32 → Int32 → Int32 → Int32 → am_H → am_R) (rc266 : Option (Nat × Nat) → Option (Nat × Nat) → Int32 → Int32 → Int32 → Int32 → Int32 → am_H → am_R) (x0 : Option (Nat × Nat)) (x1 : Option (Nat × Nat)) (x2 : Int32) (x4 : Int32) (x5 : Int32) (x6 : Int32) (s0 : Int32) (h : am_H) : am_R := rc266 x0 x1 x2 s0 x4 x5 (x6 + 1) h
theorem t_L_areAlike_308 (d : Nat) (hd : 12 ≤ d) (rc50 : Option (Nat × Nat) → Option (Nat × Nat) → Int32 → Int32 → Int32 → Int32 → am_H → am_R) (hrc50 : ∀ x0 x1 x2 x3 x4 x5 h, Sim m_L_areAlike d 50 [some (.inr (.inr x0)), some (.inr (.inr x1)), some (.inl x2), some (.inl x3), some (.inl x4), some (.inl x5), none] [] h (rc50 x0 x1 x2 x3 x4 x5 h)) (rc266 : Option (Nat × Nat) → Option (Nat × Nat) → Int32 → Int32 → Int32 → Int32 → Int32 → am_H → am_R) (hrc266 : ∀ x0 x1 x2 x3 x4 x5 x6 h, Sim m_L_areAlike d 266 [some (.inr (.inr x0)), some (.inr (.inr x1)), some (.inl x2), some (.inl x3), some (.inl x4), some (.inl x5), some (.inl x6)] [] h (rc266 x0 x1 x2 x3 x4 x5 x6 h)) (x0 : Option (Nat × Nat)) (x1 : Option (Nat × Nat)) (x2 : Int32) (x4 : Int32) (x5 : Int32) (x6 : Int32) (s0 : Int32) (h : am_H) : Sim m_L_areAlike d 308 [some (.inr (.inr x0)), some (.inr (.inr x1)), some (.inl x2), none, some (.inl x4), some (.inl x5), some (.inl x6)] [.inl s0] h (f_L_areAlike_308 rc50 rc266 x0 x1 x2 x4 x5 x6 s0 h) := by
  unfold f_L_areAlike_308
  refine sim_istore_n dL_areAlike_308 (Nat.le_of_ble_eq_true rfl) ?_
  refine sim_iinc (1) dL_areAlike_309 rfl (by decide +kernel) (Nat.le_of_ble_eq_true rfl) ?_
  refine sim_goto 266 dL_areAlike_312 (by decide) ?_
  exact sim_lv (am_leS (am_leS (am_leS (am_leS (am_leS (am_leS (am_leS am_leT))))))) (hrc266 _ _ _ _ _ _ _ _)
def f_L_areAlike_266 (rc50 : Option (Nat × Nat) → Option (Nat × Nat) → Int32 → Int32 → Int32 → Int32 → am_H → am_R) : Nat → Option (Nat × Nat) → Option (Nat × Nat) → Int32 → Int32 → Int32 → Int32 → Int32 → am_H → am_R
  | 0, _, _, _, _, _, _, _, _ => none
  | n + 1, x0, x1, x2, x3, x4, x5, x6, h => if (5 : Int32) ≤ x6 then (f_L_areAlike_315 rc50 x0 x1 x2 x3 x4 x5 h) else (if x3 = 0 then (f_L_areAlike_315 rc50 x0 x1 x2 x3 x4 x5 h) else (m_bI (f_L_does x0 (17 : Int32) x5 x6 (0 : Int32) (0 : Int32) h) fun h51 v52 => m_bI (f_L_does x1 (17 : Int32) x5 x6 (0 : Int32) (0 : Int32) h51) fun h53 v54 => if v52 = v54 then (f_L_areAlike_308 rc50 (f_L_areAlike_266 rc50 n) x0 x1 x2 x4 x5 x6 (1 : Int32) h53) else (f_L_areAlike_308 rc50 (f_L_areAlike_266 rc50 n) x0 x1 x2 x4 x5 x6 (0 : Int32) h53)))
theorem t_L_areAlike_266 (d : Nat) (hd : 12 ≤ d) (rc50 : Option (Nat × Nat) → Option (Nat × Nat) → Int32 → Int32 → Int32 → Int32 → am_H → am_R) (hrc50 : ∀ x0 x1 x2 x3 x4 x5 h, Sim m_L_areAlike d 50 [some (.inr (.inr x0)), some (.inr (.inr x1)), some (.inl x2), some (.inl x3), some (.inl x4), some (.inl x5), none] [] h (rc50 x0 x1 x2 x3 x4 x5 h)) : ∀ (n : Nat) (x0 : Option (Nat × Nat)) (x1 : Option (Nat × Nat)) (x2 : Int32) (x3 : Int32) (x4 : Int32) (x5 : Int32) (x6 : Int32) (h : am_H), Sim m_L_areAlike d 266 [some (.inr (.inr x0)), some (.inr (.inr x1)), some (.inl x2), some (.inl x3), some (.inl x4), some (.inl x5), some (.inl x6)] [] h (f_L_areAlike_266 rc50 n x0 x1 x2 x3 x4 x5 x6 h) := by
  intro n
  induction n with
  | zero => intros; exact sim_none
  | succ n hrc266 =>
    intro x0 x1 x2 x3 x4 x5 x6 h
    rw [f_L_areAlike_266]
    refine sim_iload dL_areAlike_266 rfl ?_
    refine sim_iconst (5) dL_areAlike_268 (by decide +kernel) ?_
    refine sim_ic_ge 315 dL_areAlike_269 (by decide) (fun c => ?_) (fun c => ?_)
    · exact sim_lv (am_leS (am_leS (am_leS (am_leS (am_leS (am_leS (am_leN am_leT))))))) (t_L_areAlike_315 d (by omega) _ hrc50 _ _ _ _ _ _ _)
    · refine sim_iload_n dL_areAlike_272 rfl ?_
      refine sim_if_eq 315 dL_areAlike_273 (by decide) (fun c => ?_) (fun c => ?_)
      · exact sim_lv (am_leS (am_leS (am_leS (am_leS (am_leS (am_leS (am_leN am_leT))))))) (t_L_areAlike_315 d (by omega) _ hrc50 _ _ _ _ _ _ _)
      · refine sim_aload_n dL_areAlike_276 rfl ?_
        refine sim_bipush (17) dL_areAlike_277 (by decide +kernel) ?_
        refine sim_iload dL_areAlike_279 rfl ?_
        refine sim_iload dL_areAlike_281 rfl ?_
        refine sim_iconst (0) dL_areAlike_283 (by decide +kernel) ?_
        refine sim_iconst (0) dL_areAlike_284 (by decide +kernel) ?_
        refine sim_staticX (d - 1) dL_areAlike_285 (k_L_does (d - 1) (by omega) _ _ _ _ _ _ _) q_L_does wm_RL_152 rfl rfl (by omega) (Nat.le_of_ble_eq_true rfl) am_nI (am_rI fun h51 v52 => ?_) am_eI
        refine sim_aload_n dL_areAlike_288 rfl ?_
        refine sim_bipush (17) dL_areAlike_289 (by decide +kernel) ?_
        refine sim_iload dL_areAlike_291 rfl ?_
        refine sim_iload dL_areAlike_293 rfl ?_
        refine sim_iconst (0) dL_areAlike_295 (by decide +kernel) ?_
        refine sim_iconst (0) dL_areAlike_296 (by decide +kernel) ?_
        refine sim_staticX (d - 1) dL_areAlike_297 (k_L_does (d - 1) (by omega) _ _ _ _ _ _ _) q_L_does wm_RL_152 rfl rfl (by omega) (Nat.le_of_ble_eq_true rfl) am_nI (am_rI fun h53 v54 => ?_) am_eI
        refine sim_ic_ne 307 dL_areAlike_300 (by decide) (fun c => ?_) (fun c => ?_)
        · refine sim_iconst (0) dL_areAlike_307 (by decide +kernel) ?_
          exact sim_lv (am_leS (am_leS (am_leS (am_leN (am_leS (am_leS (am_leS am_leT))))))) (t_L_areAlike_308 d (by omega) _ hrc50 _ hrc266 _ _ _ _ _ _ _ _)
        · refine sim_iconst (1) dL_areAlike_303 (by decide +kernel) ?_
          refine sim_goto 308 dL_areAlike_304 (by decide) ?_
          exact sim_lv (am_leS (am_leS (am_leS (am_leN (am_leS (am_leS (am_leS am_leT))))))) (t_L_areAlike_308 d (by omega) _ hrc50 _ hrc266 _ _ _ _ _ _ _ _)
def f_L_areAlike_262 (rc50 : Option (Nat × Nat) → Option (Nat × Nat) → Int32 → Int32 → Int32 → Int32 → am_H → am_R) (x0 : Option (Nat × Nat)) (x1 : Option (Nat × Nat)) (x2 : Int32) (x4 : Int32) (x5 : Int32) (s0 : Int32) (h : am_H) : am_R := f_L_areAlike_266 rc50 5000 x0 x1 x2 s0 x4 x5 (0 : Int32) h
theorem t_L_areAlike_262 (d : Nat) (hd : 12 ≤ d) (rc50 : Option (Nat × Nat) → Option (Nat × Nat) → Int32 → Int32 → Int32 → Int32 → am_H → am_R) (hrc50 : ∀ x0 x1 x2 x3 x4 x5 h, Sim m_L_areAlike d 50 [some (.inr (.inr x0)), some (.inr (.inr x1)), some (.inl x2), some (.inl x3), some (.inl x4), some (.inl x5), none] [] h (rc50 x0 x1 x2 x3 x4 x5 h)) (x0 : Option (Nat × Nat)) (x1 : Option (Nat × Nat)) (x2 : Int32) (x4 : Int32) (x5 : Int32) (s0 : Int32) (h : am_H) : Sim m_L_areAlike d 262 [some (.inr (.inr x0)), some (.inr (.inr x1)), some (.inl x2), none, some (.inl x4), some (.inl x5), none] [.inl s0] h (f_L_areAlike_262 rc50 x0 x1 x2 x4 x5 s0 h) := by
  unfold f_L_areAlike_262
  refine sim_istore_n dL_areAlike_262 (Nat.le_of_ble_eq_true rfl) ?_
  refine sim_iconst (0) dL_areAlike_263 (by decide +kernel) ?_
  refine sim_istore dL_areAlike_264 (Nat.le_of_ble_eq_true rfl) ?_
  exact sim_lv (am_leS (am_leS (am_leS (am_leS (am_leS (am_leS (am_leS am_leT))))))) (t_L_areAlike_266 d (by omega) _ hrc50 _ _ _ _ _ _ _ _ _)
def f_L_areAlike_261 (rc50 : Option (Nat × Nat) → Option (Nat × Nat) → Int32 → Int32 → Int32 → Int32 → am_H → am_R) (x0 : Option (Nat × Nat)) (x1 : Option (Nat × Nat)) (x2 : Int32) (x4 : Int32) (x5 : Int32) (h : am_H) : am_R := f_L_areAlike_262 rc50 x0 x1 x2 x4 x5 (0 : Int32) h
theorem t_L_areAlike_261 (d : Nat) (hd : 12 ≤ d) (rc50 : Option (Nat × Nat) → Option (Nat × Nat) → Int32 → Int32 → Int32 → Int32 → am_H → am_R) (hrc50 : ∀ x0 x1 x2 x3 x4 x5 h, Sim m_L_areAlike d 50 [some (.inr (.inr x0)), some (.inr (.inr x1)), some (.inl x2), some (.inl x3), some (.inl x4), some (.inl x5), none] [] h (rc50 x0 x1 x2 x3 x4 x5 h)) (x0 : Option (Nat × Nat)) (x1 : Option (Nat × Nat)) (x2 : Int32) (x4 : Int32) (x5 : Int32) (h : am_H) : Sim m_L_areAlike d 261 [some (.inr (.inr x0)), some (.inr (.inr x1)), some (.inl x2), none, some (.inl x4), some (.inl x5), none] [] h (f_L_areAlike_261 rc50 x0 x1 x2 x4 x5 h) := by
  unfold f_L_areAlike_261
  refine sim_iconst (0) dL_areAlike_261 (by decide +kernel) ?_
  exact sim_lv (am_leS (am_leS (am_leS (am_leN (am_leS (am_leS (am_leN am_leT))))))) (t_L_areAlike_262 d (by omega) _ hrc50 _ _ _ _ _ _ _)
def f_L_areAlike_180 (rc50 : Option (Nat × Nat) → Option (Nat × Nat) → Int32 → Int32 → Int32 → Int32 → am_H → am_R) (x0 : Option (Nat × Nat)) (x1 : Option (Nat × Nat)) (x2 : Int32) (x4 : Int32) (x5 : Int32) (h : am_H) : am_R := m_bI (f_L_does x0 (29 : Int32) x5 x4 (0 : Int32) (0 : Int32) h) fun h39 v40 => m_bI (f_L_does x1 (29 : Int32) x5 x4 (0 : Int32) (0 : Int32) h39) fun h41 v42 => if v40 = v42 then (m_bI (f_L_does x0 (31 : Int32) x5 (0 : Int32) (0 : Int32) (0 : Int32) h41) fun h43 v44 => m_bI (f_L_does x1 (31 : Int32) x5 (0 : Int32) (0 : Int32) (0 : Int32) h43) fun h45 v46 => if v44 = v46 then (m_bI (f_L_does x0 (33 : Int32) x5 (0 : Int32) (0 : Int32) (0 : Int32) h45) fun h47 v48 => m_bI (f_L_does x1 (33 : Int32) x5 (0 : Int32) (0 : Int32) (0 : Int32) h47) fun h49 v50 => if v48 = v50 then (f_L_areAlike_262 rc50 x0 x1 x2 x4 x5 (1 : Int32) h49) else (f_L_areAlike_261 rc50 x0 x1 x2 x4 x5 h49)) else (f_L_areAlike_261 rc50 x0 x1 x2 x4 x5 h45)) else (f_L_areAlike_261 rc50 x0 x1 x2 x4 x5 h41)
theorem t_L_areAlike_180 (d : Nat) (hd : 12 ≤ d) (rc50 : Option (Nat × Nat) → Option (Nat × Nat) → Int32 → Int32 → Int32 → Int32 → am_H → am_R) (hrc50 : ∀ x0 x1 x2 x3 x4 x5 h, Sim m_L_areAlike d 50 [some (.inr (.inr x0)), some (.inr (.inr x1)), some (.inl x2), some (.inl x3), some (.inl x4), some (.inl x5), none] [] h (rc50 x0 x1 x2 x3 x4 x5 h)) (x0 : Option (Nat × Nat)) (x1 : Option (Nat × Nat)) (x2 : Int32) (x4 : Int32) (x5 : Int32) (h : am_H) : Sim m_L_areAlike d 180 [some (.inr (.inr x0)), some (.inr (.inr x1)), some (.inl x2), none, some (.inl x4), some (.inl x5), none] [] h (f_L_areAlike_180 rc50 x0 x1 x2 x4 x5 h) := by
  unfold f_L_areAlike_180
  refine sim_aload_n dL_areAlike_180 rfl ?_
  refine sim_bipush (29) dL_areAlike_181 (by decide +kernel) ?_
  refine sim_iload dL_areAlike_183 rfl ?_
  refine sim_iload dL_areAlike_185 rfl ?_
  refine sim_iconst (0) dL_areAlike_187 (by decide +kernel) ?_
  refine sim_iconst (0) dL_areAlike_188 (by decide +kernel) ?_
  refine sim_staticX (d - 1) dL_areAlike_189 (k_L_does (d - 1) (by omega) _ _ _ _ _ _ _) q_L_does wm_RL_152 rfl rfl (by omega) (Nat.le_of_ble_eq_true rfl) am_nI (am_rI fun h39 v40 => ?_) am_eI
  refine sim_aload_n dL_areAlike_192 rfl ?_
  refine sim_bipush (29) dL_areAlike_193 (by decide +kernel) ?_
  refine sim_iload dL_areAlike_195 rfl ?_
  refine sim_iload dL_areAlike_197 rfl ?_
  refine sim_iconst (0) dL_areAlike_199 (by decide +kernel) ?_
  refine sim_iconst (0) dL_areAlike_200 (by decide +kernel) ?_
  refine sim_staticX (d - 1) dL_areAlike_201 (k_L_does (d - 1) (by omega) _ _ _ _ _ _ _) q_L_does wm_RL_152 rfl rfl (by omega) (Nat.le_of_ble_eq_true rfl) am_nI (am_rI fun h41 v42 => ?_) am_eI
  refine sim_ic_ne 261 dL_areAlike_204 (by decide) (fun c => ?_) (fun c => ?_)
  · exact sim_lv (am_leS (am_leS (am_leS (am_leN (am_leS (am_leS (am_leN am_leT))))))) (t_L_areAlike_261 d (by omega) _ hrc50 _ _ _ _ _ _)
  · refine sim_aload_n dL_areAlike_207 rfl ?_
    refine sim_bipush (31) dL_areAlike_208 (by decide +kernel) ?_
    refine sim_iload dL_areAlike_210 rfl ?_
    refine sim_iconst (0) dL_areAlike_212 (by decide +kernel) ?_
    refine sim_iconst (0) dL_areAlike_213 (by decide +kernel) ?_
    refine sim_iconst (0) dL_areAlike_214 (by decide +kernel) ?_
    refine sim_staticX (d - 1) dL_areAlike_215 (k_L_does (d - 1) (by omega) _ _ _ _ _ _ _) q_L_does wm_RL_152 rfl rfl (by omega) (Nat.le_of_ble_eq_true rfl) am_nI (am_rI fun h43 v44 => ?_) am_eI
    refine sim_aload_n dL_areAlike_218 rfl ?_
    refine sim_bipush (31) dL_areAlike_219 (by decide +kernel) ?_
    refine sim_iload dL_areAlike_221 rfl ?_
    refine sim_iconst (0) dL_areAlike_223 (by decide +kernel) ?_
    refine sim_iconst (0) dL_areAlike_224 (by decide +kernel) ?_
    refine sim_iconst (0) dL_areAlike_225 (by decide +kernel) ?_
    refine sim_staticX (d - 1) dL_areAlike_226 (k_L_does (d - 1) (by omega) _ _ _ _ _ _ _) q_L_does wm_RL_152 rfl rfl (by omega) (Nat.le_of_ble_eq_true rfl) am_nI (am_rI fun h45 v46 => ?_) am_eI
    refine sim_ic_ne 261 dL_areAlike_229 (by decide) (fun c => ?_) (fun c => ?_)
    · exact sim_lv (am_leS (am_leS (am_leS (am_leN (am_leS (am_leS (am_leN am_leT))))))) (t_L_areAlike_261 d (by omega) _ hrc50 _ _ _ _ _ _)
    · refine sim_aload_n dL_areAlike_232 rfl ?_
      refine sim_bipush (33) dL_areAlike_233 (by decide +kernel) ?_
      refine sim_iload dL_areAlike_235 rfl ?_
      refine sim_iconst (0) dL_areAlike_237 (by decide +kernel) ?_
      refine sim_iconst (0) dL_areAlike_238 (by decide +kernel) ?_
      refine sim_iconst (0) dL_areAlike_239 (by decide +kernel) ?_
      refine sim_staticX (d - 1) dL_areAlike_240 (k_L_does (d - 1) (by omega) _ _ _ _ _ _ _) q_L_does wm_RL_152 rfl rfl (by omega) (Nat.le_of_ble_eq_true rfl) am_nI (am_rI fun h47 v48 => ?_) am_eI
      refine sim_aload_n dL_areAlike_243 rfl ?_
      refine sim_bipush (33) dL_areAlike_244 (by decide +kernel) ?_
      refine sim_iload dL_areAlike_246 rfl ?_
      refine sim_iconst (0) dL_areAlike_248 (by decide +kernel) ?_
      refine sim_iconst (0) dL_areAlike_249 (by decide +kernel) ?_
      refine sim_iconst (0) dL_areAlike_250 (by decide +kernel) ?_
      refine sim_staticX (d - 1) dL_areAlike_251 (k_L_does (d - 1) (by omega) _ _ _ _ _ _ _) q_L_does wm_RL_152 rfl rfl (by omega) (Nat.le_of_ble_eq_true rfl) am_nI (am_rI fun h49 v50 => ?_) am_eI
      refine sim_ic_ne 261 dL_areAlike_254 (by decide) (fun c => ?_) (fun c => ?_)
      · exact sim_lv (am_leS (am_leS (am_leS (am_leN (am_leS (am_leS (am_leN am_leT))))))) (t_L_areAlike_261 d (by omega) _ hrc50 _ _ _ _ _ _)
      · refine sim_iconst (1) dL_areAlike_257 (by decide +kernel) ?_
        refine sim_goto 262 dL_areAlike_258 (by decide) ?_
        exact sim_lv (am_leS (am_leS (am_leS (am_leN (am_leS (am_leS (am_leN am_leT))))))) (t_L_areAlike_262 d (by omega) _ hrc50 _ _ _ _ _ _ _)
def f_L_areAlike_50  : Nat → Option (Nat × Nat) → Option (Nat × Nat) → Int32 → Int32 → Int32 → Int32 → am_H → am_R
  | 0, _, _, _, _, _, _, _ => none
  | n + 1, x0, x1, x2, x3, x4, x5, h => if (20 : Int32) ≤ x5 then (f_L_areAlike_321 x0 x1 x2 x3 x4 h) else (if x3 = 0 then (f_L_areAlike_321 x0 x1 x2 x3 x4 h) else (m_bI (f_L_does x0 (11 : Int32) x4 x5 (0 : Int32) (0 : Int32) h) fun h21 v22 => m_bI (f_L_does x1 (11 : Int32) x4 x5 (0 : Int32) (0 : Int32) h21) fun h23 v24 => if v22 = v24 then (m_bI (f_L_does x0 (12 : Int32) x4 x5 (0 : Int32) (0 : Int32) h23) fun h25 v26 => m_bI (f_L_does x1 (12 : Int32) x4 x5 (0 : Int32) (0 : Int32) h25) fun h27 v28 => if v26 = v28 then (m_bI (f_L_does x0 (20 : Int32) x5 (x2 &&& (1 : Int32)) (0 : Int32) (0 : Int32) h27) fun h29 v30 => m_bI (f_L_does x1 (20 : Int32) x5 (x2 &&& (1 : Int32)) (0 : Int32) (0 : Int32) h29) fun h31 v32 => if v30 = v32 then (m_bI (f_L_low x2 (8 : Int32) h31) fun h33 v34 => if x5 = v34 then (m_bI (f_L_does x0 (25 : Int32) x5 (0 : Int32) (0 : Int32) (0 : Int32) h33) fun h35 v36 => m_bI (f_L_does x1 (25 : Int32) x5 (0 : Int32) (0 : Int32) (0 : Int32) h35) fun h37 v38 => if v36 = v38 then (f_L_areAlike_180 (f_L_areAlike_50  n) x0 x1 x2 x4 x5 h37) else (f_L_areAlike_261 (f_L_areAlike_50  n) x0 x1 x2 x4 x5 h37)) else (f_L_areAlike_180 (f_L_areAlike_50  n) x0 x1 x2 x4 x5 h33)) else (f_L_areAlike_261 (f_L_areAlike_50  n) x0 x1 x2 x4 x5 h31)) else (f_L_areAlike_261 (f_L_areAlike_50  n) x0 x1 x2 x4 x5 h27)) else (f_L_areAlike_261 (f_L_areAlike_50  n) x0 x1 x2 x4 x5 h23)))
theorem t_L_areAlike_50 (d : Nat) (hd : 12 ≤ d)  : ∀ (n : Nat) (x0 : Option (Nat × Nat)) (x1 : Option (Nat × Nat)) (x2 : Int32) (x3 : Int32) (x4 : Int32) (x5 : Int32) (h : am_H), Sim m_L_areAlike d 50 [some (.inr (.inr x0)), some (.inr (.inr x1)), some (.inl x2), some (.inl x3), some (.inl x4), some (.inl x5), none] [] h (f_L_areAlike_50  n x0 x1 x2 x3 x4 x5 h) := by
  intro n
  induction n with
  | zero => intros; exact sim_none
  | succ n hrc50 =>
    intro x0 x1 x2 x3 x4 x5 h
    rw [f_L_areAlike_50]
    refine sim_iload dL_areAlike_50 rfl ?_
    refine sim_bipush (20) dL_areAlike_52 (by decide +kernel) ?_
    refine sim_ic_ge 321 dL_areAlike_54 (by decide) (fun c => ?_) (fun c => ?_)
    · exact sim_lv (am_leS (am_leS (am_leS (am_leS (am_leS (am_leN (am_leN am_leT))))))) (t_L_areAlike_321 d (by omega) _ _ _ _ _ _)
    · refine sim_iload_n dL_areAlike_57 rfl ?_
      refine sim_if_eq 321 dL_areAlike_58 (by decide) (fun c => ?_) (fun c => ?_)
      · exact sim_lv (am_leS (am_leS (am_leS (am_leS (am_leS (am_leN (am_leN am_leT))))))) (t_L_areAlike_321 d (by omega) _ _ _ _ _ _)
      · refine sim_aload_n dL_areAlike_61 rfl ?_
        refine sim_bipush (11) dL_areAlike_62 (by decide +kernel) ?_
        refine sim_iload dL_areAlike_64 rfl ?_
        refine sim_iload dL_areAlike_66 rfl ?_
        refine sim_iconst (0) dL_areAlike_68 (by decide +kernel) ?_
        refine sim_iconst (0) dL_areAlike_69 (by decide +kernel) ?_
        refine sim_staticX (d - 1) dL_areAlike_70 (k_L_does (d - 1) (by omega) _ _ _ _ _ _ _) q_L_does wm_RL_152 rfl rfl (by omega) (Nat.le_of_ble_eq_true rfl) am_nI (am_rI fun h21 v22 => ?_) am_eI
        refine sim_aload_n dL_areAlike_73 rfl ?_
        refine sim_bipush (11) dL_areAlike_74 (by decide +kernel) ?_
        refine sim_iload dL_areAlike_76 rfl ?_
        refine sim_iload dL_areAlike_78 rfl ?_
        refine sim_iconst (0) dL_areAlike_80 (by decide +kernel) ?_
        refine sim_iconst (0) dL_areAlike_81 (by decide +kernel) ?_
        refine sim_staticX (d - 1) dL_areAlike_82 (k_L_does (d - 1) (by omega) _ _ _ _ _ _ _) q_L_does wm_RL_152 rfl rfl (by omega) (Nat.le_of_ble_eq_true rfl) am_nI (am_rI fun h23 v24 => ?_) am_eI
        refine sim_ic_ne 261 dL_areAlike_85 (by decide) (fun c => ?_) (fun c => ?_)
        · exact sim_lv (am_leS (am_leS (am_leS (am_leN (am_leS (am_leS (am_leN am_leT))))))) (t_L_areAlike_261 d (by omega) _ hrc50 _ _ _ _ _ _)
        · refine sim_aload_n dL_areAlike_88 rfl ?_
          refine sim_bipush (12) dL_areAlike_89 (by decide +kernel) ?_
          refine sim_iload dL_areAlike_91 rfl ?_
          refine sim_iload dL_areAlike_93 rfl ?_
          refine sim_iconst (0) dL_areAlike_95 (by decide +kernel) ?_
          refine sim_iconst (0) dL_areAlike_96 (by decide +kernel) ?_
          refine sim_staticX (d - 1) dL_areAlike_97 (k_L_does (d - 1) (by omega) _ _ _ _ _ _ _) q_L_does wm_RL_152 rfl rfl (by omega) (Nat.le_of_ble_eq_true rfl) am_nI (am_rI fun h25 v26 => ?_) am_eI
          refine sim_aload_n dL_areAlike_100 rfl ?_
          refine sim_bipush (12) dL_areAlike_101 (by decide +kernel) ?_
          refine sim_iload dL_areAlike_103 rfl ?_
          refine sim_iload dL_areAlike_105 rfl ?_
          refine sim_iconst (0) dL_areAlike_107 (by decide +kernel) ?_
          refine sim_iconst (0) dL_areAlike_108 (by decide +kernel) ?_
          refine sim_staticX (d - 1) dL_areAlike_109 (k_L_does (d - 1) (by omega) _ _ _ _ _ _ _) q_L_does wm_RL_152 rfl rfl (by omega) (Nat.le_of_ble_eq_true rfl) am_nI (am_rI fun h27 v28 => ?_) am_eI
          refine sim_ic_ne 261 dL_areAlike_112 (by decide) (fun c => ?_) (fun c => ?_)
          · exact sim_lv (am_leS (am_leS (am_leS (am_leN (am_leS (am_leS (am_leN am_leT))))))) (t_L_areAlike_261 d (by omega) _ hrc50 _ _ _ _ _ _)
          · refine sim_aload_n dL_areAlike_115 rfl ?_
            refine sim_bipush (20) dL_areAlike_116 (by decide +kernel) ?_
            refine sim_iload dL_areAlike_118 rfl ?_
            refine sim_iload_n dL_areAlike_120 rfl ?_
            refine sim_iconst (1) dL_areAlike_121 (by decide +kernel) ?_
            refine sim_iand dL_areAlike_122 ?_
            refine sim_iconst (0) dL_areAlike_123 (by decide +kernel) ?_
            refine sim_iconst (0) dL_areAlike_124 (by decide +kernel) ?_
            refine sim_staticX (d - 1) dL_areAlike_125 (k_L_does (d - 1) (by omega) _ _ _ _ _ _ _) q_L_does wm_RL_152 rfl rfl (by omega) (Nat.le_of_ble_eq_true rfl) am_nI (am_rI fun h29 v30 => ?_) am_eI
            refine sim_aload_n dL_areAlike_128 rfl ?_
            refine sim_bipush (20) dL_areAlike_129 (by decide +kernel) ?_
            refine sim_iload dL_areAlike_131 rfl ?_
            refine sim_iload_n dL_areAlike_133 rfl ?_
            refine sim_iconst (1) dL_areAlike_134 (by decide +kernel) ?_
            refine sim_iand dL_areAlike_135 ?_
            refine sim_iconst (0) dL_areAlike_136 (by decide +kernel) ?_
            refine sim_iconst (0) dL_areAlike_137 (by decide +kernel) ?_
            refine sim_staticX (d - 1) dL_areAlike_138 (k_L_does (d - 1) (by omega) _ _ _ _ _ _ _) q_L_does wm_RL_152 rfl rfl (by omega) (Nat.le_of_ble_eq_true rfl) am_nI (am_rI fun h31 v32 => ?_) am_eI
            refine sim_ic_ne 261 dL_areAlike_141 (by decide) (fun c => ?_) (fun c => ?_)
            · exact sim_lv (am_leS (am_leS (am_leS (am_leN (am_leS (am_leS (am_leN am_leT))))))) (t_L_areAlike_261 d (by omega) _ hrc50 _ _ _ _ _ _)
            · refine sim_iload dL_areAlike_144 rfl ?_
              refine sim_iload_n dL_areAlike_146 rfl ?_
              refine sim_bipush (8) dL_areAlike_147 (by decide +kernel) ?_
              refine sim_static (d - 1) dL_areAlike_149 (k_L_low (d - 1) (by omega) _ _ _) q_L_low wm_RL_155 rfl rfl (by omega) (Nat.le_of_ble_eq_true rfl) am_nI (am_rI fun h33 v34 => ?_) am_eI
              refine sim_ic_ne 180 dL_areAlike_152 (by decide) (fun c => ?_) (fun c => ?_)
              · exact sim_lv (am_leS (am_leS (am_leS (am_leN (am_leS (am_leS (am_leN am_leT))))))) (t_L_areAlike_180 d (by omega) _ hrc50 _ _ _ _ _ _)
              · refine sim_aload_n dL_areAlike_155 rfl ?_
                refine sim_bipush (25) dL_areAlike_156 (by decide +kernel) ?_
                refine sim_iload dL_areAlike_158 rfl ?_
                refine sim_iconst (0) dL_areAlike_160 (by decide +kernel) ?_
                refine sim_iconst (0) dL_areAlike_161 (by decide +kernel) ?_
                refine sim_iconst (0) dL_areAlike_162 (by decide +kernel) ?_
                refine sim_staticX (d - 1) dL_areAlike_163 (k_L_does (d - 1) (by omega) _ _ _ _ _ _ _) q_L_does wm_RL_152 rfl rfl (by omega) (Nat.le_of_ble_eq_true rfl) am_nI (am_rI fun h35 v36 => ?_) am_eI
                refine sim_aload_n dL_areAlike_166 rfl ?_
                refine sim_bipush (25) dL_areAlike_167 (by decide +kernel) ?_
                refine sim_iload dL_areAlike_169 rfl ?_
                refine sim_iconst (0) dL_areAlike_171 (by decide +kernel) ?_
                refine sim_iconst (0) dL_areAlike_172 (by decide +kernel) ?_
                refine sim_iconst (0) dL_areAlike_173 (by decide +kernel) ?_
                refine sim_staticX (d - 1) dL_areAlike_174 (k_L_does (d - 1) (by omega) _ _ _ _ _ _ _) q_L_does wm_RL_152 rfl rfl (by omega) (Nat.le_of_ble_eq_true rfl) am_nI (am_rI fun h37 v38 => ?_) am_eI
                refine sim_ic_ne 261 dL_areAlike_177 (by decide) (fun c => ?_) (fun c => ?_)
                · exact sim_lv (am_leS (am_leS (am_leS (am_leN (am_leS (am_leS (am_leN am_leT))))))) (t_L_areAlike_261 d (by omega) _ hrc50 _ _ _ _ _ _)
                · exact sim_lv (am_leS (am_leS (am_leS (am_leN (am_leS (am_leS (am_leN am_leT))))))) (t_L_areAlike_180 d (by omega) _ hrc50 _ _ _ _ _ _)
def f_L_areAlike_38  (x0 : Option (Nat × Nat)) (x1 : Option (Nat × Nat)) (x2 : Int32) (s0 : Int32) (h : am_H) : am_R := m_bI (f_L_low x2 (32 : Int32) h) fun h19 v20 => f_L_areAlike_50 5000 x0 x1 x2 s0 v20 (0 : Int32) h19
theorem t_L_areAlike_38 (d : Nat) (hd : 12 ≤ d)  (x0 : Option (Nat × Nat)) (x1 : Option (Nat × Nat)) (x2 : Int32) (s0 : Int32) (h : am_H) : Sim m_L_areAlike d 38 [some (.inr (.inr x0)), some (.inr (.inr x1)), some (.inl x2), none, none, none, none] [.inl s0] h (f_L_areAlike_38  x0 x1 x2 s0 h) := by
  unfold f_L_areAlike_38
  refine sim_istore_n dL_areAlike_38 (Nat.le_of_ble_eq_true rfl) ?_
  refine sim_iload_n dL_areAlike_39 rfl ?_
  refine sim_bipush (32) dL_areAlike_40 (by decide +kernel) ?_
  refine sim_static (d - 1) dL_areAlike_42 (k_L_low (d - 1) (by omega) _ _ _) q_L_low wm_RL_155 rfl rfl (by omega) (Nat.le_of_ble_eq_true rfl) am_nI (am_rI fun h19 v20 => ?_) am_eI
  refine sim_istore dL_areAlike_45 (Nat.le_of_ble_eq_true rfl) ?_
  refine sim_iconst (0) dL_areAlike_47 (by decide +kernel) ?_
  refine sim_istore dL_areAlike_48 (Nat.le_of_ble_eq_true rfl) ?_
  exact sim_lv (am_leS (am_leS (am_leS (am_leS (am_leS (am_leS (am_leN am_leT))))))) (t_L_areAlike_50 d (by omega) _ _ _ _ _ _ _ _)
def f_L_areAlike_37  (x0 : Option (Nat × Nat)) (x1 : Option (Nat × Nat)) (x2 : Int32) (h : am_H) : am_R := f_L_areAlike_38 x0 x1 x2 (0 : Int32) h
theorem t_L_areAlike_37 (d : Nat) (hd : 12 ≤ d)  (x0 : Option (Nat × Nat)) (x1 : Option (Nat × Nat)) (x2 : Int32) (h : am_H) : Sim m_L_areAlike d 37 [some (.inr (.inr x0)), some (.inr (.inr x1)), some (.inl x2), none, none, none, none] [] h (f_L_areAlike_37  x0 x1 x2 h) := by
  unfold f_L_areAlike_37
  refine sim_iconst (0) dL_areAlike_37 (by decide +kernel) ?_
  exact sim_lv (am_leS (am_leS (am_leS (am_leN (am_leN (am_leN (am_leN am_leT))))))) (t_L_areAlike_38 d (by omega) _ _ _ _ _)
def f_L_areAlike (x0 : Option (Nat × Nat)) (x1 : Option (Nat × Nat)) (x2 : Int32) (h : am_H) : am_R := m_ao x0 10 fun a3 => m_bI (f_X10_fault a3 h) fun h1 v2 => m_ao x1 10 fun a6 => m_bI (f_X10_fault a6 h1) fun h4 v5 => if v2 = v5 then (m_ao x0 10 fun a9 => m_bI (f_X10_waiting a9 h4) fun h7 v8 => m_ao x1 10 fun a12 => m_bI (f_X10_waiting a12 h7) fun h10 v11 => if v8 = v11 then (m_ao x0 10 fun a15 => m_bI (f_X10_matches a15 h10) fun h13 v14 => m_ao x1 10 fun a18 => m_bI (f_X10_matches a18 h13) fun h16 v17 => if v14 = v17 then (f_L_areAlike_38 x0 x1 x2 (1 : Int32) h16) else (f_L_areAlike_37 x0 x1 x2 h16)) else (f_L_areAlike_37 x0 x1 x2 h10)) else (f_L_areAlike_37 x0 x1 x2 h4)
theorem k_L_areAlike (d : Nat) (hd : 12 ≤ d) (x0 : Option (Nat × Nat)) (x1 : Option (Nat × Nat)) (x2 : Int32) (h : am_H) : am_Con m_L_areAlike d [.inr (.inr x0), .inr (.inr x1), .inl x2] h (f_L_areAlike x0 x1 x2 h) := am_con (by decide +kernel) (Nat.le_of_ble_eq_true rfl) (by
  unfold f_L_areAlike
  refine sim_aload_n dL_areAlike_0 rfl ?_
  refine sim_ao0 (fun a3 e => ?_)
  refine sim_virt (d - 1) e dL_areAlike_1 (k_X10_fault (d - 1) (by omega) _  _) q_X10_fault rfl rfl wm_RL_169 rfl rfl (by omega) (Nat.le_of_ble_eq_true rfl) am_nI (am_rI fun h1 v2 => ?_) am_eI
  refine sim_aload_n dL_areAlike_4 rfl ?_
  refine sim_ao0 (fun a6 e => ?_)
  refine sim_virt (d - 1) e dL_areAlike_5 (k_X10_fault (d - 1) (by omega) _  _) q_X10_fault rfl rfl wm_RL_169 rfl rfl (by omega) (Nat.le_of_ble_eq_true rfl) am_nI (am_rI fun h4 v5 => ?_) am_eI
  refine sim_ic_ne 37 dL_areAlike_8 (by decide) (fun c => ?_) (fun c => ?_)
  · exact sim_lv (am_leS (am_leS (am_leS (am_leN (am_leN (am_leN (am_leN am_leT))))))) (t_L_areAlike_37 d (by omega) _ _ _ _)
  · refine sim_aload_n dL_areAlike_11 rfl ?_
    refine sim_ao0 (fun a9 e => ?_)
    refine sim_virt (d - 1) e dL_areAlike_12 (k_X10_waiting (d - 1) (by omega) _  _) q_X10_waiting rfl rfl wm_RL_172 rfl rfl (by omega) (Nat.le_of_ble_eq_true rfl) am_nI (am_rI fun h7 v8 => ?_) am_eI
    refine sim_aload_n dL_areAlike_15 rfl ?_
    refine sim_ao0 (fun a12 e => ?_)
    refine sim_virt (d - 1) e dL_areAlike_16 (k_X10_waiting (d - 1) (by omega) _  _) q_X10_waiting rfl rfl wm_RL_172 rfl rfl (by omega) (Nat.le_of_ble_eq_true rfl) am_nI (am_rI fun h10 v11 => ?_) am_eI
    refine sim_ic_ne 37 dL_areAlike_19 (by decide) (fun c => ?_) (fun c => ?_)
    · exact sim_lv (am_leS (am_leS (am_leS (am_leN (am_leN (am_leN (am_leN am_leT))))))) (t_L_areAlike_37 d (by omega) _ _ _ _)
    · refine sim_aload_n dL_areAlike_22 rfl ?_
      refine sim_ao0 (fun a15 e => ?_)
      refine sim_virt (d - 1) e dL_areAlike_23 (k_X10_matches (d - 1) (by omega) _  _) q_X10_matches rfl rfl wm_RL_175 rfl rfl (by omega) (Nat.le_of_ble_eq_true rfl) am_nI (am_rI fun h13 v14 => ?_) am_eI
      refine sim_aload_n dL_areAlike_26 rfl ?_
      refine sim_ao0 (fun a18 e => ?_)
      refine sim_virt (d - 1) e dL_areAlike_27 (k_X10_matches (d - 1) (by omega) _  _) q_X10_matches rfl rfl wm_RL_175 rfl rfl (by omega) (Nat.le_of_ble_eq_true rfl) am_nI (am_rI fun h16 v17 => ?_) am_eI
      refine sim_ic_ne 37 dL_areAlike_30 (by decide) (fun c => ?_) (fun c => ?_)
      · exact sim_lv (am_leS (am_leS (am_leS (am_leN (am_leN (am_leN (am_leN am_leT))))))) (t_L_areAlike_37 d (by omega) _ _ _ _)
      · refine sim_iconst (1) dL_areAlike_33 (by decide +kernel) ?_
        refine sim_goto 38 dL_areAlike_34 (by decide) ?_
        exact sim_lv (am_leS (am_leS (am_leS (am_leN (am_leN (am_leN (am_leN am_leT))))))) (t_L_areAlike_38 d (by omega) _ _ _ _ _))
theorem q_L_areAlike : am_Cal m_L_areAlike 3 0 := ⟨am_mem 982 (w := Cond.code yL_areAlike cL_areAlike 7 (some .boolean)) (by decide +kernel) rfl, am_mem 29 (w := Cond.initialized RL) (by decide +kernel) rfl, fun _ => am_mem 981 (w := Cond.static yL_areAlike) (by decide +kernel) rfl, fun z => absurd rfl z, fun z => absurd z (by decide), fun z => absurd z (by decide), by decide +kernel, by decide +kernel, Nat.le_of_ble_eq_true rfl⟩
abbrev m_L_areGiven : am_M := (yL_areGiven, cL_areGiven, 10, some .boolean, [])
def f_L_areGiven_239  (s0 : Int32) (h : am_H) : am_R := m_rz h s0
theorem t_L_areGiven_239 (d : Nat) (hd : 12 ≤ d)  (s0 : Int32) (h : am_H) : Sim m_L_areGiven d 239 [none, none, none, none, none, none, none, none, none, none] [.inl s0] h (f_L_areGiven_239  s0 h) := by
  unfold f_L_areGiven_239
  exact sim_zret dL_areGiven_239 rfl
def f_L_areGiven_238   (h : am_H) : am_R := f_L_areGiven_239 (0 : Int32) h
theorem t_L_areGiven_238 (d : Nat) (hd : 12 ≤ d)   (h : am_H) : Sim m_L_areGiven d 238 [none, none, none, none, none, none, none, none, none, none] [] h (f_L_areGiven_238   h) := by
  unfold f_L_areGiven_238
  refine sim_iconst (0) dL_areGiven_238 (by decide +kernel) ?_
  exact sim_lv (am_leN (am_leN (am_leN (am_leN (am_leN (am_leN (am_leN (am_leN (am_leN (am_leN am_leT)))))))))) (t_L_areGiven_239 d (by omega) _ _)
def f_L_areGiven_202  (x0 : Option (Nat × Nat)) (x1 : Option (Nat × Nat)) (x7 : Int32) (x9 : Int32) (s0 : Int32) (s1 : Int32) (h : am_H) : am_R := if s1 = s0 then (m_ao x0 10 fun a18 => m_bI (f_X10_news a18 x7 h) fun h16 v17 => if v17 = 0 then (m_ao x0 10 fun a21 => m_bI (f_X10_digest a21 x7 h16) fun h19 v20 => if v20 = 0 then (m_ao x1 10 fun a24 => m_bI (f_X10_digest a24 x7 h19) fun h22 v23 => if v23 = x9 then (f_L_areGiven_239 (1 : Int32) h22) else (f_L_areGiven_238 h22)) else (f_L_areGiven_238 h19)) else (f_L_areGiven_238 h16)) else (f_L_areGiven_238 h)
theorem t_L_areGiven_202 (d : Nat) (hd : 12 ≤ d)  (x0 : Option (Nat × Nat)) (x1 : Option (Nat × Nat)) (x7 : Int32) (x9 : Int32) (s0 : Int32) (s1 : Int32) (h : am_H) : Sim m_L_areGiven d 202 [some (.inr (.inr x0)), some (.inr (.inr x1)), none, none, none, none, none, some (.inl x7), none, some (.inl x9)] [.inl s0, .inl s1] h (f_L_areGiven_202  x0 x1 x7 x9 s0 s1 h) := by
  unfold f_L_areGiven_202
  refine sim_ic_ne 238 dL_areGiven_202 (by decide) (fun c => ?_) (fun c => ?_)
  · exact sim_lv (am_leN (am_leN (am_leN (am_leN (am_leN (am_leN (am_leN (am_leN (am_leN (am_leN am_leT)))))))))) (t_L_areGiven_238 d (by omega) _)
  · refine sim_aload_n dL_areGiven_205 rfl ?_
    refine sim_iload dL_areGiven_206 rfl ?_
    refine sim_ao1 (fun a18 e => ?_)
    refine sim_virt (d - 1) e dL_areGiven_208 (k_X10_news (d - 1) (by omega) _ _ _) q_X10_news rfl rfl wm_RL_51 rfl rfl (by omega) (Nat.le_of_ble_eq_true rfl) am_nI (am_rI fun h16 v17 => ?_) am_eI
    refine sim_if_ne 238 dL_areGiven_211 (by decide) (fun c => ?_) (fun c => ?_)
    · exact sim_lv (am_leN (am_leN (am_leN (am_leN (am_leN (am_leN (am_leN (am_leN (am_leN (am_leN am_leT)))))))))) (t_L_areGiven_238 d (by omega) _)
    · refine sim_aload_n dL_areGiven_214 rfl ?_
      refine sim_iload dL_areGiven_215 rfl ?_
      refine sim_ao1 (fun a21 e => ?_)
      refine sim_virt (d - 1) e dL_areGiven_217 (k_X10_digest (d - 1) (by omega) _ _ _) q_X10_digest rfl rfl wm_RL_54 rfl rfl (by omega) (Nat.le_of_ble_eq_true rfl) am_nI (am_rI fun h19 v20 => ?_) am_eI
      refine sim_if_ne 238 dL_areGiven_220 (by decide) (fun c => ?_) (fun c => ?_)
      · exact sim_lv (am_leN (am_leN (am_leN (am_leN (am_leN (am_leN (am_leN (am_leN (am_leN (am_leN am_leT)))))))))) (t_L_areGiven_238 d (by omega) _)
      · refine sim_aload_n dL_areGiven_223 rfl ?_
        refine sim_iload dL_areGiven_224 rfl ?_
        refine sim_ao1 (fun a24 e => ?_)
        refine sim_virt (d - 1) e dL_areGiven_226 (k_X10_digest (d - 1) (by omega) _ _ _) q_X10_digest rfl rfl wm_RL_54 rfl rfl (by omega) (Nat.le_of_ble_eq_true rfl) am_nI (am_rI fun h22 v23 => ?_) am_eI
        refine sim_iload dL_areGiven_229 rfl ?_
        refine sim_ic_ne 238 dL_areGiven_231 (by decide) (fun c => ?_) (fun c => ?_)
        · exact sim_lv (am_leN (am_leN (am_leN (am_leN (am_leN (am_leN (am_leN (am_leN (am_leN (am_leN am_leT)))))))))) (t_L_areGiven_238 d (by omega) _)
        · refine sim_iconst (1) dL_areGiven_234 (by decide +kernel) ?_
          refine sim_goto 239 dL_areGiven_235 (by decide) ?_
          exact sim_lv (am_leN (am_leN (am_leN (am_leN (am_leN (am_leN (am_leN (am_leN (am_leN (am_leN am_leT)))))))))) (t_L_areGiven_239 d (by omega) _ _)
def f_L_areGiven_192  (x0 : Option (Nat × Nat)) (x1 : Option (Nat × Nat)) (x7 : Int32) (x8 : Int32) (x9 : Int32) (s0 : Int32) (h : am_H) : am_R := if x8 = 0 then (f_L_areGiven_202 x0 x1 x7 x9 (0 : Int32) s0 h) else (f_L_areGiven_202 x0 x1 x7 x9 (1 : Int32) s0 h)
theorem t_L_areGiven_192 (d : Nat) (hd : 12 ≤ d)  (x0 : Option (Nat × Nat)) (x1 : Option (Nat × Nat)) (x7 : Int32) (x8 : Int32) (x9 : Int32) (s0 : Int32) (h : am_H) : Sim m_L_areGiven d 192 [some (.inr (.inr x0)), some (.inr (.inr x1)), none, none, none, none, none, some (.inl x7), some (.inl x8), some (.inl x9)] [.inl s0] h (f_L_areGiven_192  x0 x1 x7 x8 x9 s0 h) := by
  unfold f_L_areGiven_192
  refine sim_iload dL_areGiven_192 rfl ?_
  refine sim_if_eq 201 dL_areGiven_194 (by decide) (fun c => ?_) (fun c => ?_)
  · refine sim_iconst (0) dL_areGiven_201 (by decide +kernel) ?_
    exact sim_lv (am_leS (am_leS (am_leN (am_leN (am_leN (am_leN (am_leN (am_leS (am_leN (am_leS am_leT)))))))))) (t_L_areGiven_202 d (by omega) _ _ _ _ _ _ _)
  · refine sim_iconst (1) dL_areGiven_197 (by decide +kernel) ?_
    refine sim_goto 202 dL_areGiven_198 (by decide) ?_
    exact sim_lv (am_leS (am_leS (am_leN (am_leN (am_leN (am_leN (am_leN (am_leS (am_leN (am_leS am_leT)))))))))) (t_L_areGiven_202 d (by omega) _ _ _ _ _ _ _)
def f_L_areGiven_182  (x0 : Option (Nat × Nat)) (x1 : Option (Nat × Nat)) (x7 : Int32) (x8 : Int32) (x9 : Int32) (h : am_H) : am_R := if x9 ≤ 0 then (f_L_areGiven_192 x0 x1 x7 x8 x9 (0 : Int32) h) else (f_L_areGiven_192 x0 x1 x7 x8 x9 (1 : Int32) h)
theorem t_L_areGiven_182 (d : Nat) (hd : 12 ≤ d)  (x0 : Option (Nat × Nat)) (x1 : Option (Nat × Nat)) (x7 : Int32) (x8 : Int32) (x9 : Int32) (h : am_H) : Sim m_L_areGiven d 182 [some (.inr (.inr x0)), some (.inr (.inr x1)), none, none, none, none, none, some (.inl x7), some (.inl x8), some (.inl x9)] [] h (f_L_areGiven_182  x0 x1 x7 x8 x9 h) := by
  unfold f_L_areGiven_182
  refine sim_iload dL_areGiven_182 rfl ?_
  refine sim_if_le 191 dL_areGiven_184 (by decide) (fun c => ?_) (fun c => ?_)
  · refine sim_iconst (0) dL_areGiven_191 (by decide +kernel) ?_
    exact sim_lv (am_leS (am_leS (am_leN (am_leN (am_leN (am_leN (am_leN (am_leS (am_leS (am_leS am_leT)))))))))) (t_L_areGiven_192 d (by omega) _ _ _ _ _ _ _)
  · refine sim_iconst (1) dL_areGiven_187 (by decide +kernel) ?_
    refine sim_goto 192 dL_areGiven_188 (by decide) ?_
    exact sim_lv (am_leS (am_leS (am_leN (am_leN (am_leN (am_leN (am_leN (am_leS (am_leS (am_leS am_leT)))))))))) (t_L_areGiven_192 d (by omega) _ _ _ _ _ _ _)
def f_L_areGiven_138  (x0 : Option (Nat × Nat)) (x1 : Option (Nat × Nat)) (x2 : Int32) (x3 : Int32) (x4 : Int32) (x5 : Int32) (x6 : Int32) (h : am_H) : am_R := m_bI (f_L_low x2 (12 : Int32) h) fun h8 v9 => m_ao x0 10 fun a12 => m_bI (f_X10_news a12 v9 h8) fun h10 v11 => m_ao x0 10 fun a15 => m_bI (f_X10_digest a15 v9 h10) fun h13 v14 => if x6 = 0 then (f_L_areGiven_238 h13) else (if x3 = 0 then (f_L_areGiven_182 x0 x1 v9 v11 v14 h13) else (if x4 = (((1 : Int32) <<< (x5 &&& 31)) - (1 : Int32)) then (f_L_areGiven_182 x0 x1 v9 v11 v14 h13) else (f_L_areGiven_238 h13)))
theorem t_L_areGiven_138 (d : Nat) (hd : 12 ≤ d)  (x0 : Option (Nat × Nat)) (x1 : Option (Nat × Nat)) (x2 : Int32) (x3 : Int32) (x4 : Int32) (x5 : Int32) (x6 : Int32) (h : am_H) : Sim m_L_areGiven d 138 [some (.inr (.inr x0)), some (.inr (.inr x1)), some (.inl x2), some (.inl x3), some (.inl x4), some (.inl x5), some (.inl x6), none, none, none] [] h (f_L_areGiven_138  x0 x1 x2 x3 x4 x5 x6 h) := by
  unfold f_L_areGiven_138
  refine sim_iload_n dL_areGiven_138 rfl ?_
  refine sim_bipush (12) dL_areGiven_139 (by decide +kernel) ?_
  refine sim_static (d - 1) dL_areGiven_141 (k_L_low (d - 1) (by omega) _ _ _) q_L_low wm_RL_155 rfl rfl (by omega) (Nat.le_of_ble_eq_true rfl) am_nI (am_rI fun h8 v9 => ?_) am_eI
  refine sim_istore dL_areGiven_144 (Nat.le_of_ble_eq_true rfl) ?_
  refine sim_aload_n dL_areGiven_146 rfl ?_
  refine sim_iload dL_areGiven_147 rfl ?_
  refine sim_ao1 (fun a12 e => ?_)
  refine sim_virt (d - 1) e dL_areGiven_149 (k_X10_news (d - 1) (by omega) _ _ _) q_X10_news rfl rfl wm_RL_51 rfl rfl (by omega) (Nat.le_of_ble_eq_true rfl) am_nI (am_rI fun h10 v11 => ?_) am_eI
  refine sim_istore dL_areGiven_152 (Nat.le_of_ble_eq_true rfl) ?_
  refine sim_aload_n dL_areGiven_154 rfl ?_
  refine sim_iload dL_areGiven_155 rfl ?_
  refine sim_ao1 (fun a15 e => ?_)
  refine sim_virt (d - 1) e dL_areGiven_157 (k_X10_digest (d - 1) (by omega) _ _ _) q_X10_digest rfl rfl wm_RL_54 rfl rfl (by omega) (Nat.le_of_ble_eq_true rfl) am_nI (am_rI fun h13 v14 => ?_) am_eI
  refine sim_istore dL_areGiven_160 (Nat.le_of_ble_eq_true rfl) ?_
  refine sim_iload dL_areGiven_162 rfl ?_
  refine sim_if_eq 238 dL_areGiven_164 (by decide) (fun c => ?_) (fun c => ?_)
  · exact sim_lv (am_leN (am_leN (am_leN (am_leN (am_leN (am_leN (am_leN (am_leN (am_leN (am_leN am_leT)))))))))) (t_L_areGiven_238 d (by omega) _)
  · refine sim_iload_n dL_areGiven_167 rfl ?_
    refine sim_if_eq 182 dL_areGiven_168 (by decide) (fun c => ?_) (fun c => ?_)
    · exact sim_lv (am_leS (am_leS (am_leN (am_leN (am_leN (am_leN (am_leN (am_leS (am_leS (am_leS am_leT)))))))))) (t_L_areGiven_182 d (by omega) _ _ _ _ _ _)
    · refine sim_iload dL_areGiven_171 rfl ?_
      refine sim_iconst (1) dL_areGiven_173 (by decide +kernel) ?_
      refine sim_iload dL_areGiven_174 rfl ?_
      refine sim_ishl dL_areGiven_176 ?_
      refine sim_iconst (1) dL_areGiven_177 (by decide +kernel) ?_
      refine sim_isub dL_areGiven_178 ?_
      refine sim_ic_ne 238 dL_areGiven_179 (by decide) (fun c => ?_) (fun c => ?_)
      · exact sim_lv (am_leN (am_leN (am_leN (am_leN (am_leN (am_leN (am_leN (am_leN (am_leN (am_leN am_leT)))))))))) (t_L_areGiven_238 d (by omega) _)
      · exact sim_lv (am_leS (am_leS (am_leN (am_leN (am_leN (am_leN (am_leN (am_leS (am_leS (am_leS am_leT)))))))))) (t_L_areGiven_182 d (by omega) _ _ _ _ _ _)
def f_L_areGiven_116 (rc34 : Option (Nat × Nat) → Option (Nat × Nat) → Int32 → Int32 → Int32 → Int32 → Int32 → Int32 → am_H → am_R) (x0 : Option (Nat × Nat)) (x1 : Option (Nat × Nat)) (x2 : Int32) (x3 : Int32) (x5 : Int32) (x6 : Int32) (s0 : Int32) (s1 : Int32) (h : am_H) : am_R := m_bI (f_L_does x0 (25 : Int32) (x5 + 1) (0 : Int32) (0 : Int32) (0 : Int32) h) fun h6 v7 => rc34 x0 x1 x2 x3 (s1 ||| s0) (x5 + 1) x6 v7 h6
theorem t_L_areGiven_116 (d : Nat) (hd : 12 ≤ d) (rc34 : Option (Nat × Nat) → Option (Nat × Nat) → Int32 → Int32 → Int32 → Int32 → Int32 → Int32 → am_H → am_R) (hrc34 : ∀ x0 x1 x2 x3 x4 x5 x6 x7 h, Sim m_L_areGiven d 34 [some (.inr (.inr x0)), some (.inr (.inr x1)), some (.inl x2), some (.inl x3), some (.inl x4), some (.inl x5), some (.inl x6), some (.inl x7), none, none] [] h (rc34 x0 x1 x2 x3 x4 x5 x6 x7 h)) (x0 : Option (Nat × Nat)) (x1 : Option (Nat × Nat)) (x2 : Int32) (x3 : Int32) (x5 : Int32) (x6 : Int32) (s0 : Int32) (s1 : Int32) (h : am_H) : Sim m_L_areGiven d 116 [some (.inr (.inr x0)), some (.inr (.inr x1)), some (.inl x2), some (.inl x3), none, some (.inl x5), some (.inl x6), none, none, none] [.inl s0, .inl s1] h (f_L_areGiven_116 rc34 x0 x1 x2 x3 x5 x6 s0 s1 h) := by
  unfold f_L_areGiven_116
  refine sim_ior dL_areGiven_116 ?_
  refine sim_istore dL_areGiven_117 (Nat.le_of_ble_eq_true rfl) ?_
  refine sim_iinc (1) dL_areGiven_119 rfl (by decide +kernel) (Nat.le_of_ble_eq_true rfl) ?_
  refine sim_aload_n dL_areGiven_122 rfl ?_
  refine sim_bipush (25) dL_areGiven_123 (by decide +kernel) ?_
  refine sim_iload dL_areGiven_125 rfl ?_
  refine sim_iconst (0) dL_areGiven_127 (by decide +kernel) ?_
  refine sim_iconst (0) dL_areGiven_128 (by decide +kernel) ?_
  refine sim_iconst (0) dL_areGiven_129 (by decide +kernel) ?_
  refine sim_staticX (d - 1) dL_areGiven_130 (k_L_does (d - 1) (by omega) _ _ _ _ _ _ _) q_L_does wm_RL_152 rfl rfl (by omega) (Nat.le_of_ble_eq_true rfl) am_nI (am_rI fun h6 v7 => ?_) am_eI
  refine sim_istore dL_areGiven_133 (Nat.le_of_ble_eq_true rfl) ?_
  refine sim_goto 34 dL_areGiven_135 (by decide) ?_
  exact sim_lv (am_leS (am_leS (am_leS (am_leS (am_leS (am_leS (am_leS (am_leS (am_leN (am_leN am_leT)))))))))) (hrc34 _ _ _ _ _ _ _ _ _)
def f_L_areGiven_99 (rc34 : Option (Nat × Nat) → Option (Nat × Nat) → Int32 → Int32 → Int32 → Int32 → Int32 → Int32 → am_H → am_R) (x0 : Option (Nat × Nat)) (x1 : Option (Nat × Nat)) (x2 : Int32) (x3 : Int32) (x4 : Int32) (x5 : Int32) (x7 : Int32) (s0 : Int32) (h : am_H) : am_R := if 0 ≤ x7 then (f_L_areGiven_116 rc34 x0 x1 x2 x3 x5 s0 ((1 : Int32) <<< (x7 &&& 31)) x4 h) else (f_L_areGiven_116 rc34 x0 x1 x2 x3 x5 s0 (0 : Int32) x4 h)
theorem t_L_areGiven_99 (d : Nat) (hd : 12 ≤ d) (rc34 : Option (Nat × Nat) → Option (Nat × Nat) → Int32 → Int32 → Int32 → Int32 → Int32 → Int32 → am_H → am_R) (hrc34 : ∀ x0 x1 x2 x3 x4 x5 x6 x7 h, Sim m_L_areGiven d 34 [some (.inr (.inr x0)), some (.inr (.inr x1)), some (.inl x2), some (.inl x3), some (.inl x4), some (.inl x5), some (.inl x6), some (.inl x7), none, none] [] h (rc34 x0 x1 x2 x3 x4 x5 x6 x7 h)) (x0 : Option (Nat × Nat)) (x1 : Option (Nat × Nat)) (x2 : Int32) (x3 : Int32) (x4 : Int32) (x5 : Int32) (x7 : Int32) (s0 : Int32) (h : am_H) : Sim m_L_areGiven d 99 [some (.inr (.inr x0)), some (.inr (.inr x1)), some (.inl x2), some (.inl x3), some (.inl x4), some (.inl x5), none, some (.inl x7), none, none] [.inl s0] h (f_L_areGiven_99 rc34 x0 x1 x2 x3 x4 x5 x7 s0 h) := by
  unfold f_L_areGiven_99
  refine sim_istore dL_areGiven_99 (Nat.le_of_ble_eq_true rfl) ?_
  refine sim_iload dL_areGiven_101 rfl ?_
  refine sim_iload dL_areGiven_103 rfl ?_
  refine sim_if_ge 112 dL_areGiven_105 (by decide) (fun c => ?_) (fun c => ?_)
  · refine sim_iconst (1) dL_areGiven_112 (by decide +kernel) ?_
    refine sim_iload dL_areGiven_113 rfl ?_
    refine sim_ishl dL_areGiven_115 ?_
    exact sim_lv (am_leS (am_leS (am_leS (am_leS (am_leN (am_leS (am_leS (am_leN (am_leN (am_leN am_leT)))))))))) (t_L_areGiven_116 d (by omega) _ hrc34 _ _ _ _ _ _ _ _ _)
  · refine sim_iconst (0) dL_areGiven_108 (by decide +kernel) ?_
    refine sim_goto 116 dL_areGiven_109 (by decide) ?_
    exact sim_lv (am_leS (am_leS (am_leS (am_leS (am_leN (am_leS (am_leS (am_leN (am_leN (am_leN am_leT)))))))))) (t_L_areGiven_116 d (by omega) _ hrc34 _ _ _ _ _ _ _ _ _)
def f_L_areGiven_98 (rc34 : Option (Nat × Nat) → Option (Nat × Nat) → Int32 → Int32 → Int32 → Int32 → Int32 → Int32 → am_H → am_R) (x0 : Option (Nat × Nat)) (x1 : Option (Nat × Nat)) (x2 : Int32) (x3 : Int32) (x4 : Int32) (x5 : Int32) (x7 : Int32) (h : am_H) : am_R := f_L_areGiven_99 rc34 x0 x1 x2 x3 x4 x5 x7 (0 : Int32) h
theorem t_L_areGiven_98 (d : Nat) (hd : 12 ≤ d) (rc34 : Option (Nat × Nat) → Option (Nat × Nat) → Int32 → Int32 → Int32 → Int32 → Int32 → Int32 → am_H → am_R) (hrc34 : ∀ x0 x1 x2 x3 x4 x5 x6 x7 h, Sim m_L_areGiven d 34 [some (.inr (.inr x0)), some (.inr (.inr x1)), some (.inl x2), some (.inl x3), some (.inl x4), some (.inl x5), some (.inl x6), some (.inl x7), none, none] [] h (rc34 x0 x1 x2 x3 x4 x5 x6 x7 h)) (x0 : Option (Nat × Nat)) (x1 : Option (Nat × Nat)) (x2 : Int32) (x3 : Int32) (x4 : Int32) (x5 : Int32) (x7 : Int32) (h : am_H) : Sim m_L_areGiven d 98 [some (.inr (.inr x0)), some (.inr (.inr x1)), some (.inl x2), some (.inl x3), some (.inl x4), some (.inl x5), none, some (.inl x7), none, none] [] h (f_L_areGiven_98 rc34 x0 x1 x2 x3 x4 x5 x7 h) := by
  unfold f_L_areGiven_98
  refine sim_iconst (0) dL_areGiven_98 (by decide +kernel) ?_
  exact sim_lv (am_leS (am_leS (am_leS (am_leS (am_leS (am_leS (am_leN (am_leS (am_leN (am_leN am_leT)))))))))) (t_L_areGiven_99 d (by omega) _ hrc34 _ _ _ _ _ _ _ _ _)
def f_L_areGiven_94 (rc34 : Option (Nat × Nat) → Option (Nat × Nat) → Int32 → Int32 → Int32 → Int32 → Int32 → Int32 → am_H → am_R) (x0 : Option (Nat × Nat)) (x1 : Option (Nat × Nat)) (x2 : Int32) (x3 : Int32) (x4 : Int32) (x5 : Int32) (x7 : Int32) (h : am_H) : am_R := f_L_areGiven_99 rc34 x0 x1 x2 x3 x4 x5 x7 (1 : Int32) h
theorem t_L_areGiven_94 (d : Nat) (hd : 12 ≤ d) (rc34 : Option (Nat × Nat) → Option (Nat × Nat) → Int32 → Int32 → Int32 → Int32 → Int32 → Int32 → am_H → am_R) (hrc34 : ∀ x0 x1 x2 x3 x4 x5 x6 x7 h, Sim m_L_areGiven d 34 [some (.inr (.inr x0)), some (.inr (.inr x1)), some (.inl x2), some (.inl x3), some (.inl x4), some (.inl x5), some (.inl x6), some (.inl x7), none, none] [] h (rc34 x0 x1 x2 x3 x4 x5 x6 x7 h)) (x0 : Option (Nat × Nat)) (x1 : Option (Nat × Nat)) (x2 : Int32) (x3 : Int32) (x4 : Int32) (x5 : Int32) (x7 : Int32) (h : am_H) : Sim m_L_areGiven d 94 [some (.inr (.inr x0)), some (.inr (.inr x1)), some (.inl x2), some (.inl x3), some (.inl x4), some (.inl x5), none, some (.inl x7), none, none] [] h (f_L_areGiven_94 rc34 x0 x1 x2 x3 x4 x5 x7 h) := by
  unfold f_L_areGiven_94
  refine sim_iconst (1) dL_areGiven_94 (by decide +kernel) ?_
  refine sim_goto 99 dL_areGiven_95 (by decide) ?_
  exact sim_lv (am_leS (am_leS (am_leS (am_leS (am_leS (am_leS (am_leN (am_leS (am_leN (am_leN am_leT)))))))))) (t_L_areGiven_99 d (by omega) _ hrc34 _ _ _ _ _ _ _ _ _)
def f_L_areGiven_69 (rc34 : Option (Nat × Nat) → Option (Nat × Nat) → Int32 → Int32 → Int32 → Int32 → Int32 → Int32 → am_H → am_R) (x0 : Option (Nat × Nat)) (x1 : Option (Nat × Nat)) (x2 : Int32) (x3 : Int32) (x4 : Int32) (x5 : Int32) (x7 : Int32) (x8 : Int32) (s0 : Int32) (s1 : Int32) (h : am_H) : am_R := if s1 = s0 then (if x7 = x8 then (f_L_areGiven_98 rc34 x0 x1 x2 x3 x4 x5 x7 h) else (if x7 < 0 then (f_L_areGiven_94 rc34 x0 x1 x2 x3 x4 x5 x7 h) else (if ((x4 >>> (x7 &&& 31)) &&& (1 : Int32)) = 0 then (f_L_areGiven_94 rc34 x0 x1 x2 x3 x4 x5 x7 h) else (f_L_areGiven_98 rc34 x0 x1 x2 x3 x4 x5 x7 h)))) else (f_L_areGiven_98 rc34 x0 x1 x2 x3 x4 x5 x7 h)
theorem t_L_areGiven_69 (d : Nat) (hd : 12 ≤ d) (rc34 : Option (Nat × Nat) → Option (Nat × Nat) → Int32 → Int32 → Int32 → Int32 → Int32 → Int32 → am_H → am_R) (hrc34 : ∀ x0 x1 x2 x3 x4 x5 x6 x7 h, Sim m_L_areGiven d 34 [some (.inr (.inr x0)), some (.inr (.inr x1)), some (.inl x2), some (.inl x3), some (.inl x4), some (.inl x5), some (.inl x6), some (.inl x7), none, none] [] h (rc34 x0 x1 x2 x3 x4 x5 x6 x7 h)) (x0 : Option (Nat × Nat)) (x1 : Option (Nat × Nat)) (x2 : Int32) (x3 : Int32) (x4 : Int32) (x5 : Int32) (x7 : Int32) (x8 : Int32) (s0 : Int32) (s1 : Int32) (h : am_H) : Sim m_L_areGiven d 69 [some (.inr (.inr x0)), some (.inr (.inr x1)), some (.inl x2), some (.inl x3), some (.inl x4), some (.inl x5), none, some (.inl x7), some (.inl x8), none] [.inl s0, .inl s1] h (f_L_areGiven_69 rc34 x0 x1 x2 x3 x4 x5 x7 x8 s0 s1 h) := by
  unfold f_L_areGiven_69
  refine sim_ic_ne 98 dL_areGiven_69 (by decide) (fun c => ?_) (fun c => ?_)
  · exact sim_lv (am_leS (am_leS (am_leS (am_leS (am_leS (am_leS (am_leN (am_leS (am_leN (am_leN am_leT)))))))))) (t_L_areGiven_98 d (by omega) _ hrc34 _ _ _ _ _ _ _ _)
  · refine sim_iload dL_areGiven_72 rfl ?_
    refine sim_iload dL_areGiven_74 rfl ?_
    refine sim_ic_eq 98 dL_areGiven_76 (by decide) (fun c => ?_) (fun c => ?_)
    · exact sim_lv (am_leS (am_leS (am_leS (am_leS (am_leS (am_leS (am_leN (am_leS (am_leN (am_leN am_leT)))))))))) (t_L_areGiven_98 d (by omega) _ hrc34 _ _ _ _ _ _ _ _)
    · refine sim_iload dL_areGiven_79 rfl ?_
      refine sim_if_lt 94 dL_areGiven_81 (by decide) (fun c => ?_) (fun c => ?_)
      · exact sim_lv (am_leS (am_leS (am_leS (am_leS (am_leS (am_leS (am_leN (am_leS (am_leN (am_leN am_leT)))))))))) (t_L_areGiven_94 d (by omega) _ hrc34 _ _ _ _ _ _ _ _)
      · refine sim_iload dL_areGiven_84 rfl ?_
        refine sim_iload dL_areGiven_86 rfl ?_
        refine sim_ishr dL_areGiven_88 ?_
        refine sim_iconst (1) dL_areGiven_89 (by decide +kernel) ?_
        refine sim_iand dL_areGiven_90 ?_
        refine sim_if_ne 98 dL_areGiven_91 (by decide) (fun c => ?_) (fun c => ?_)
        · exact sim_lv (am_leS (am_leS (am_leS (am_leS (am_leS (am_leS (am_leN (am_leS (am_leN (am_leN am_leT)))))))))) (t_L_areGiven_98 d (by omega) _ hrc34 _ _ _ _ _ _ _ _)
        · exact sim_lv (am_leS (am_leS (am_leS (am_leS (am_leS (am_leS (am_leN (am_leS (am_leN (am_leN am_leT)))))))))) (t_L_areGiven_94 d (by omega) _ hrc34 _ _ _ _ _ _ _ _)
def f_L_areGiven_60 (rc34 : Option (Nat × Nat) → Option (Nat × Nat) → Int32 → Int32 → Int32 → Int32 → Int32 → Int32 → am_H → am_R) (x0 : Option (Nat × Nat)) (x1 : Option (Nat × Nat)) (x2 : Int32) (x3 : Int32) (x4 : Int32) (x5 : Int32) (x7 : Int32) (x8 : Int32) (s0 : Int32) (h : am_H) : am_R := if x3 ≤ 0 then (f_L_areGiven_69 rc34 x0 x1 x2 x3 x4 x5 x7 x8 (0 : Int32) s0 h) else (f_L_areGiven_69 rc34 x0 x1 x2 x3 x4 x5 x7 x8 (1 : Int32) s0 h)
theorem t_L_areGiven_60 (d : Nat) (hd : 12 ≤ d) (rc34 : Option (Nat × Nat) → Option (Nat × Nat) → Int32 → Int32 → Int32 → Int32 → Int32 → Int32 → am_H → am_R) (hrc34 : ∀ x0 x1 x2 x3 x4 x5 x6 x7 h, Sim m_L_areGiven d 34 [some (.inr (.inr x0)), some (.inr (.inr x1)), some (.inl x2), some (.inl x3), some (.inl x4), some (.inl x5), some (.inl x6), some (.inl x7), none, none] [] h (rc34 x0 x1 x2 x3 x4 x5 x6 x7 h)) (x0 : Option (Nat × Nat)) (x1 : Option (Nat × Nat)) (x2 : Int32) (x3 : Int32) (x4 : Int32) (x5 : Int32) (x7 : Int32) (x8 : Int32) (s0 : Int32) (h : am_H) : Sim m_L_areGiven d 60 [some (.inr (.inr x0)), some (.inr (.inr x1)), some (.inl x2), some (.inl x3), some (.inl x4), some (.inl x5), none, some (.inl x7), some (.inl x8), none] [.inl s0] h (f_L_areGiven_60 rc34 x0 x1 x2 x3 x4 x5 x7 x8 s0 h) := by
  unfold f_L_areGiven_60
  refine sim_iload_n dL_areGiven_60 rfl ?_
  refine sim_if_le 68 dL_areGiven_61 (by decide) (fun c => ?_) (fun c => ?_)
  · refine sim_iconst (0) dL_areGiven_68 (by decide +kernel) ?_
    exact sim_lv (am_leS (am_leS (am_leS (am_leS (am_leS (am_leS (am_leN (am_leS (am_leS (am_leN am_leT)))))))))) (t_L_areGiven_69 d (by omega) _ hrc34 _ _ _ _ _ _ _ _ _ _ _)
  · refine sim_iconst (1) dL_areGiven_64 (by decide +kernel) ?_
    refine sim_goto 69 dL_areGiven_65 (by decide) ?_
    exact sim_lv (am_leS (am_leS (am_leS (am_leS (am_leS (am_leS (am_leN (am_leS (am_leS (am_leN am_leT)))))))))) (t_L_areGiven_69 d (by omega) _ hrc34 _ _ _ _ _ _ _ _ _ _ _)
def f_L_areGiven_34  : Nat → Option (Nat × Nat) → Option (Nat × Nat) → Int32 → Int32 → Int32 → Int32 → Int32 → Int32 → am_H → am_R
  | 0, _, _, _, _, _, _, _, _, _ => none
  | n + 1, x0, x1, x2, x3, x4, x5, x6, x7, h => if x7 ≤ (-2100000000 : Int32) then (f_L_areGiven_138 x0 x1 x2 x3 x4 x5 x6 h) else (if x6 = 0 then (f_L_areGiven_138 x0 x1 x2 x3 x4 x5 x6 h) else (if x7 < 0 then (f_L_areGiven_60 (f_L_areGiven_34  n) x0 x1 x2 x3 x4 x5 x7 x5 (0 : Int32) h) else (f_L_areGiven_60 (f_L_areGiven_34  n) x0 x1 x2 x3 x4 x5 x7 x5 (1 : Int32) h)))
theorem t_L_areGiven_34 (d : Nat) (hd : 12 ≤ d)  : ∀ (n : Nat) (x0 : Option (Nat × Nat)) (x1 : Option (Nat × Nat)) (x2 : Int32) (x3 : Int32) (x4 : Int32) (x5 : Int32) (x6 : Int32) (x7 : Int32) (h : am_H), Sim m_L_areGiven d 34 [some (.inr (.inr x0)), some (.inr (.inr x1)), some (.inl x2), some (.inl x3), some (.inl x4), some (.inl x5), some (.inl x6), some (.inl x7), none, none] [] h (f_L_areGiven_34  n x0 x1 x2 x3 x4 x5 x6 x7 h) := by
  intro n
  induction n with
  | zero => intros; exact sim_none
  | succ n hrc34 =>
    intro x0 x1 x2 x3 x4 x5 x6 x7 h
    rw [f_L_areGiven_34]
    refine sim_iload dL_areGiven_34 rfl ?_
    refine sim_ldc (-2100000000) dL_areGiven_36 wk_RL_59 ?_
    refine sim_ic_le 138 dL_areGiven_38 (by decide) (fun c => ?_) (fun c => ?_)
    · exact sim_lv (am_leS (am_leS (am_leS (am_leS (am_leS (am_leS (am_leS (am_leN (am_leN (am_leN am_leT)))))))))) (t_L_areGiven_138 d (by omega) _ _ _ _ _ _ _ _)
    · refine sim_iload dL_areGiven_41 rfl ?_
      refine sim_if_eq 138 dL_areGiven_43 (by decide) (fun c => ?_) (fun c => ?_)
      · exact sim_lv (am_leS (am_leS (am_leS (am_leS (am_leS (am_leS (am_leS (am_leN (am_leN (am_leN am_leT)))))))))) (t_L_areGiven_138 d (by omega) _ _ _ _ _ _ _ _)
      · refine sim_iload dL_areGiven_46 rfl ?_
        refine sim_istore dL_areGiven_48 (Nat.le_of_ble_eq_true rfl) ?_
        refine sim_iload dL_areGiven_50 rfl ?_
        refine sim_if_lt 59 dL_areGiven_52 (by decide) (fun c => ?_) (fun c => ?_)
        · refine sim_iconst (0) dL_areGiven_59 (by decide +kernel) ?_
          exact sim_lv (am_leS (am_leS (am_leS (am_leS (am_leS (am_leS (am_leN (am_leS (am_leS (am_leN am_leT)))))))))) (t_L_areGiven_60 d (by omega) _ hrc34 _ _ _ _ _ _ _ _ _ _)
        · refine sim_iconst (1) dL_areGiven_55 (by decide +kernel) ?_
          refine sim_goto 60 dL_areGiven_56 (by decide) ?_
          exact sim_lv (am_leS (am_leS (am_leS (am_leS (am_leS (am_leS (am_leN (am_leS (am_leS (am_leN am_leT)))))))))) (t_L_areGiven_60 d (by omega) _ hrc34 _ _ _ _ _ _ _ _ _ _)
def f_L_areGiven_20  (x0 : Option (Nat × Nat)) (x1 : Option (Nat × Nat)) (x2 : Int32) (x3 : Int32) (x4 : Int32) (x5 : Int32) (s0 : Int32) (h : am_H) : am_R := m_bI (f_L_does x0 (25 : Int32) (0 : Int32) (0 : Int32) (0 : Int32) (0 : Int32) h) fun h4 v5 => f_L_areGiven_34 5000 x0 x1 x2 x3 x4 x5 s0 v5 h4
theorem t_L_areGiven_20 (d : Nat) (hd : 12 ≤ d)  (x0 : Option (Nat × Nat)) (x1 : Option (Nat × Nat)) (x2 : Int32) (x3 : Int32) (x4 : Int32) (x5 : Int32) (s0 : Int32) (h : am_H) : Sim m_L_areGiven d 20 [some (.inr (.inr x0)), some (.inr (.inr x1)), some (.inl x2), some (.inl x3), some (.inl x4), some (.inl x5), none, none, none, none] [.inl s0] h (f_L_areGiven_20  x0 x1 x2 x3 x4 x5 s0 h) := by
  unfold f_L_areGiven_20
  refine sim_istore dL_areGiven_20 (Nat.le_of_ble_eq_true rfl) ?_
  refine sim_aload_n dL_areGiven_22 rfl ?_
  refine sim_bipush (25) dL_areGiven_23 (by decide +kernel) ?_
  refine sim_iconst (0) dL_areGiven_25 (by decide +kernel) ?_
  refine sim_iconst (0) dL_areGiven_26 (by decide +kernel) ?_
  refine sim_iconst (0) dL_areGiven_27 (by decide +kernel) ?_
  refine sim_iconst (0) dL_areGiven_28 (by decide +kernel) ?_
  refine sim_staticX (d - 1) dL_areGiven_29 (k_L_does (d - 1) (by omega) _ _ _ _ _ _ _) q_L_does wm_RL_152 rfl rfl (by omega) (Nat.le_of_ble_eq_true rfl) am_nI (am_rI fun h4 v5 => ?_) am_eI
  refine sim_istore dL_areGiven_32 (Nat.le_of_ble_eq_true rfl) ?_
  exact sim_lv (am_leS (am_leS (am_leS (am_leS (am_leS (am_leS (am_leS (am_leS (am_leN (am_leN am_leT)))))))))) (t_L_areGiven_34 d (by omega) _ _ _ _ _ _ _ _ _ _)
def f_L_areGiven (x0 : Option (Nat × Nat)) (x1 : Option (Nat × Nat)) (x2 : Int32) (h : am_H) : am_R := m_ao x0 10 fun a3 => m_bI (f_X10_matches a3 h) fun h1 v2 => if v2 < 0 then (f_L_areGiven_20 x0 x1 x2 v2 (0 : Int32) (0 : Int32) (0 : Int32) h1) else (f_L_areGiven_20 x0 x1 x2 v2 (0 : Int32) (0 : Int32) (1 : Int32) h1)
theorem k_L_areGiven (d : Nat) (hd : 12 ≤ d) (x0 : Option (Nat × Nat)) (x1 : Option (Nat × Nat)) (x2 : Int32) (h : am_H) : am_Con m_L_areGiven d [.inr (.inr x0), .inr (.inr x1), .inl x2] h (f_L_areGiven x0 x1 x2 h) := am_con (by decide +kernel) (Nat.le_of_ble_eq_true rfl) (by
  unfold f_L_areGiven
  refine sim_aload_n dL_areGiven_0 rfl ?_
  refine sim_ao0 (fun a3 e => ?_)
  refine sim_virt (d - 1) e dL_areGiven_1 (k_X10_matches (d - 1) (by omega) _  _) q_X10_matches rfl rfl wm_RL_175 rfl rfl (by omega) (Nat.le_of_ble_eq_true rfl) am_nI (am_rI fun h1 v2 => ?_) am_eI
  refine sim_istore_n dL_areGiven_4 (Nat.le_of_ble_eq_true rfl) ?_
  refine sim_iconst (0) dL_areGiven_5 (by decide +kernel) ?_
  refine sim_istore dL_areGiven_6 (Nat.le_of_ble_eq_true rfl) ?_
  refine sim_iconst (0) dL_areGiven_8 (by decide +kernel) ?_
  refine sim_istore dL_areGiven_9 (Nat.le_of_ble_eq_true rfl) ?_
  refine sim_iload_n dL_areGiven_11 rfl ?_
  refine sim_if_lt 19 dL_areGiven_12 (by decide) (fun c => ?_) (fun c => ?_)
  · refine sim_iconst (0) dL_areGiven_19 (by decide +kernel) ?_
    exact sim_lv (am_leS (am_leS (am_leS (am_leS (am_leS (am_leS (am_leN (am_leN (am_leN (am_leN am_leT)))))))))) (t_L_areGiven_20 d (by omega) _ _ _ _ _ _ _ _)
  · refine sim_iconst (1) dL_areGiven_15 (by decide +kernel) ?_
    refine sim_goto 20 dL_areGiven_16 (by decide) ?_
    exact sim_lv (am_leS (am_leS (am_leS (am_leS (am_leS (am_leS (am_leN (am_leN (am_leN (am_leN am_leT)))))))))) (t_L_areGiven_20 d (by omega) _ _ _ _ _ _ _ _))
theorem q_L_areGiven : am_Cal m_L_areGiven 3 0 := ⟨am_mem 1007 (w := Cond.code yL_areGiven cL_areGiven 10 (some .boolean)) (by decide +kernel) rfl, am_mem 29 (w := Cond.initialized RL) (by decide +kernel) rfl, fun _ => am_mem 1006 (w := Cond.static yL_areGiven) (by decide +kernel) rfl, fun z => absurd rfl z, fun z => absurd z (by decide), fun z => absurd z (by decide), by decide +kernel, by decide +kernel, Nat.le_of_ble_eq_true rfl⟩
