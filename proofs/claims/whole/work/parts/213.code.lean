abbrev m_X11_liked : am_M := (yX11_liked, cX11_liked, 2, some .int, [])
def f_X11_liked_32  (s0 : Int32) (h : am_H) : am_R := m_ri h s0
theorem t_X11_liked_32 (d : Nat) (hd : 2 ≤ d)  (s0 : Int32) (h : am_H) : Sim m_X11_liked d 32 [none, none] [.inl s0] h (f_X11_liked_32  s0 h) := by
  unfold f_X11_liked_32
  exact sim_iret dX11_liked_32 rfl
def f_X11_liked_14  (a0 : Nat × Nat) (x1 : Int32) (s0 : Int32) (s1 : Option (Nat × Nat)) (h : am_H) : am_R := m_ao s1 11 fun a6 => m_bI (f_X11_holds a6 s0 h) fun h4 v5 => if v5 = 0 then (f_X11_liked_32 (0 : Int32) h4) else (m_ao (some a0) 11 fun a9 => m_bI (f_X11_gave a9 x1 h4) fun h7 v8 => m_bI (f_X11_bits v8 h7) fun h10 v11 => f_X11_liked_32 v11 h10)
theorem t_X11_liked_14 (d : Nat) (hd : 2 ≤ d)  (a0 : Nat × Nat) (x1 : Int32) (s0 : Int32) (s1 : Option (Nat × Nat)) (h : am_H) : Sim m_X11_liked d 14 [some (.inr (.inr (some a0))), some (.inl x1)] [.inl s0, .inr (.inr s1)] h (f_X11_liked_14  a0 x1 s0 s1 h) := by
  unfold f_X11_liked_14
  refine sim_ao1 (fun a6 e => ?_)
  refine sim_virt (d - 1) e dX11_liked_14 (k_X11_holds (d - 1) (by omega) _ _ _) q_X11_holds rfl rfl wm_RX11_142 rfl rfl (by omega) (Nat.le_of_ble_eq_true rfl) am_nI (am_rI fun h4 v5 => ?_) am_eI
  refine sim_if_eq 31 dX11_liked_17 (by decide) (fun c => ?_) (fun c => ?_)
  · refine sim_iconst (0) dX11_liked_31 (by decide +kernel) ?_
    exact sim_lv (am_leN (am_leN am_leT)) (t_X11_liked_32 d (by omega) _ _)
  · refine sim_aload_n dX11_liked_20 rfl ?_
    refine sim_iload_n dX11_liked_21 rfl ?_
    refine sim_ao1 (fun a9 e => ?_)
    refine sim_virt (d - 1) e dX11_liked_22 (k_X11_gave (d - 1) (by omega) _ _ _) q_X11_gave rfl rfl wm_RX11_260 rfl rfl (by omega) (Nat.le_of_ble_eq_true rfl) am_nI (am_rI fun h7 v8 => ?_) am_eI
    refine sim_static (d - 1) dX11_liked_25 (k_X11_bits (d - 1) (by omega) _ _) q_X11_bits wm_RX11_159 rfl rfl (by omega) (Nat.le_of_ble_eq_true rfl) am_nI (am_rI fun h10 v11 => ?_) am_eI
    refine sim_goto 32 dX11_liked_28 (by decide) ?_
    exact sim_lv (am_leN (am_leN am_leT)) (t_X11_liked_32 d (by omega) _ _)
def f_X11_liked (a0 : Nat × Nat) (x1 : Int32) (h : am_H) : am_R := m_ao (some a0) 11 fun a3 => m_bI (f_X11_isWork a3 x1 h) fun h1 v2 => if v2 = 0 then (f_X11_liked_14 a0 x1 (1 : Int32) (some a0) h1) else (f_X11_liked_14 a0 x1 (0 : Int32) (some a0) h1)
theorem k_X11_liked (d : Nat) (hd : 2 ≤ d) (a0 : Nat × Nat) (x1 : Int32) (h : am_H) : am_Con m_X11_liked d [.inr (.inr (some a0)), .inl x1] h (f_X11_liked a0 x1 h) := am_con (by decide +kernel) (Nat.le_of_ble_eq_true rfl) (by
  unfold f_X11_liked
  refine sim_aload_n dX11_liked_0 rfl ?_
  refine sim_aload_n dX11_liked_1 rfl ?_
  refine sim_iload_n dX11_liked_2 rfl ?_
  refine sim_ao1 (fun a3 e => ?_)
  refine sim_virt (d - 1) e dX11_liked_3 (k_X11_isWork (d - 1) (by omega) _ _ _) q_X11_isWork rfl rfl wm_RX11_152 rfl rfl (by omega) (Nat.le_of_ble_eq_true rfl) am_nI (am_rI fun h1 v2 => ?_) am_eI
  refine sim_if_eq 13 dX11_liked_6 (by decide) (fun c => ?_) (fun c => ?_)
  · refine sim_iconst (1) dX11_liked_13 (by decide +kernel) ?_
    exact sim_lv (am_leS (am_leS am_leT)) (t_X11_liked_14 d (by omega) _ _ _ _ _)
  · refine sim_iconst (0) dX11_liked_9 (by decide +kernel) ?_
    refine sim_goto 14 dX11_liked_10 (by decide) ?_
    exact sim_lv (am_leS (am_leS am_leT)) (t_X11_liked_14 d (by omega) _ _ _ _ _))
theorem q_X11_liked : am_Cal m_X11_liked 1 2 := ⟨am_mem 1516 (w := Cond.code yX11_liked cX11_liked 2 (some .int)) (by decide +kernel) rfl, am_mem 64 (w := Cond.initialized RX11) (by decide +kernel) rfl, fun z => absurd z (by decide), fun _ => am_mem 1514 (w := Cond.instanceMethod yX11_liked) (by decide +kernel) rfl, fun z => absurd z (by decide), fun _ => am_mem 1515 (w := Cond.selects RX11 yX11_liked yX11_liked) (by decide +kernel) rfl, by decide +kernel, by decide +kernel, Nat.le_of_ble_eq_true rfl⟩
abbrev m_X11_lock : am_M := (yX11_lock, cX11_lock, 4, some .boolean, [])
def f_X11_lock_14  (a0 : Nat × Nat) (x1 : Int32) (x2 : Int32) (s0 : Int32) (s1 : Option (Nat × Nat)) (h : am_H) : am_R := m_ao s1 11 fun a6 => m_bI (f_X11_holds a6 s0 h) fun h4 v5 => if v5 = 0 then (m_rz h4 (0 : Int32)) else (m_gR (some a0) 11 10 h4 fun o7 => m_aI o7 1 x1 h4 fun v8 => m_gR (some a0) 11 10 h4 fun o9 => m_sZ o9 x1 x2 h4 fun h10 => m_rz h10 v8)
theorem t_X11_lock_14 (d : Nat) (hd : 2 ≤ d)  (a0 : Nat × Nat) (x1 : Int32) (x2 : Int32) (s0 : Int32) (s1 : Option (Nat × Nat)) (h : am_H) : Sim m_X11_lock d 14 [some (.inr (.inr (some a0))), some (.inl x1), some (.inl x2), none] [.inl s0, .inr (.inr s1)] h (f_X11_lock_14  a0 x1 x2 s0 s1 h) := by
  unfold f_X11_lock_14
  refine sim_ao1 (fun a6 e => ?_)
  refine sim_virt (d - 1) e dX11_lock_14 (k_X11_holds (d - 1) (by omega) _ _ _) q_X11_holds rfl rfl wm_RX11_142 rfl rfl (by omega) (Nat.le_of_ble_eq_true rfl) am_nI (am_rI fun h4 v5 => ?_) am_eI
  refine sim_if_ne 22 dX11_lock_17 (by decide) (fun c => ?_) (fun c => ?_)
  · refine sim_aload_n dX11_lock_22 rfl ?_
    refine sim_gR 11 10 dX11_lock_23 rfl wf_RX11_32 (Nat.le_of_ble_eq_true rfl) rfl (fun o7 => ?_)
    refine sim_iload_n dX11_lock_26 rfl ?_
    refine sim_aZ dX11_lock_27 (fun v8 => ?_)
    refine sim_istore_n dX11_lock_28 (Nat.le_of_ble_eq_true rfl) ?_
    refine sim_aload_n dX11_lock_29 rfl ?_
    refine sim_gR 11 10 dX11_lock_30 rfl wf_RX11_32 (Nat.le_of_ble_eq_true rfl) rfl (fun o9 => ?_)
    refine sim_iload_n dX11_lock_33 rfl ?_
    refine sim_iload_n dX11_lock_34 rfl ?_
    refine sim_sZ dX11_lock_35 (fun h10 => ?_)
    refine sim_iload_n dX11_lock_36 rfl ?_
    exact sim_zret dX11_lock_37 rfl
  · refine sim_iconst (0) dX11_lock_20 (by decide +kernel) ?_
    exact sim_zret dX11_lock_21 rfl
def f_X11_lock (a0 : Nat × Nat) (x1 : Int32) (x2 : Int32) (h : am_H) : am_R := m_ao (some a0) 11 fun a3 => m_bI (f_X11_isWork a3 x1 h) fun h1 v2 => if v2 = 0 then (f_X11_lock_14 a0 x1 x2 (1 : Int32) (some a0) h1) else (f_X11_lock_14 a0 x1 x2 (0 : Int32) (some a0) h1)
theorem k_X11_lock (d : Nat) (hd : 2 ≤ d) (a0 : Nat × Nat) (x1 : Int32) (x2 : Int32) (h : am_H) : am_Con m_X11_lock d [.inr (.inr (some a0)), .inl x1, .inl x2] h (f_X11_lock a0 x1 x2 h) := am_con (by decide +kernel) (Nat.le_of_ble_eq_true rfl) (by
  unfold f_X11_lock
  refine sim_aload_n dX11_lock_0 rfl ?_
  refine sim_aload_n dX11_lock_1 rfl ?_
  refine sim_iload_n dX11_lock_2 rfl ?_
  refine sim_ao1 (fun a3 e => ?_)
  refine sim_virt (d - 1) e dX11_lock_3 (k_X11_isWork (d - 1) (by omega) _ _ _) q_X11_isWork rfl rfl wm_RX11_152 rfl rfl (by omega) (Nat.le_of_ble_eq_true rfl) am_nI (am_rI fun h1 v2 => ?_) am_eI
  refine sim_if_eq 13 dX11_lock_6 (by decide) (fun c => ?_) (fun c => ?_)
  · refine sim_iconst (1) dX11_lock_13 (by decide +kernel) ?_
    exact sim_lv (am_leS (am_leS (am_leS (am_leN am_leT)))) (t_X11_lock_14 d (by omega) _ _ _ _ _ _)
  · refine sim_iconst (0) dX11_lock_9 (by decide +kernel) ?_
    refine sim_goto 14 dX11_lock_10 (by decide) ?_
    exact sim_lv (am_leS (am_leS (am_leS (am_leN am_leT)))) (t_X11_lock_14 d (by omega) _ _ _ _ _ _))
theorem q_X11_lock : am_Cal m_X11_lock 2 2 := ⟨am_mem 1306 (w := Cond.code yX11_lock cX11_lock 4 (some .boolean)) (by decide +kernel) rfl, am_mem 64 (w := Cond.initialized RX11) (by decide +kernel) rfl, fun z => absurd z (by decide), fun _ => am_mem 1304 (w := Cond.instanceMethod yX11_lock) (by decide +kernel) rfl, fun z => absurd z (by decide), fun _ => am_mem 1305 (w := Cond.selects RX11 yX11_lock yX11_lock) (by decide +kernel) rfl, by decide +kernel, by decide +kernel, Nat.le_of_ble_eq_true rfl⟩
abbrev m_X11_isTag : am_M := (yX11_isTag, cX11_isTag, 2, some .boolean, [])
def f_X11_isTag (a0 : Nat × Nat) (x1 : Int32) (h : am_H) : am_R := m_gI (some a0) 11 20 h fun v1 => m_bI (f_X11_in x1 (0 : Int32) (v1 - (1 : Int32)) h) fun h2 v3 => m_rz h2 v3
theorem k_X11_isTag (d : Nat) (hd : 1 ≤ d) (a0 : Nat × Nat) (x1 : Int32) (h : am_H) : am_Con m_X11_isTag d [.inr (.inr (some a0)), .inl x1] h (f_X11_isTag a0 x1 h) := am_con (by decide +kernel) (Nat.le_of_ble_eq_true rfl) (by
  unfold f_X11_isTag
  refine sim_iload_n dX11_isTag_0 rfl ?_
  refine sim_iconst (0) dX11_isTag_1 (by decide +kernel) ?_
  refine sim_aload_n dX11_isTag_2 rfl ?_
  refine sim_gI 11 20 dX11_isTag_3 rfl wf_RX11_136 (Nat.le_of_ble_eq_true rfl) rfl (fun v1 => ?_)
  refine sim_iconst (1) dX11_isTag_6 (by decide +kernel) ?_
  refine sim_isub dX11_isTag_7 ?_
  refine sim_static (d - 1) dX11_isTag_8 (k_X11_in (d - 1) (by omega) _ _ _ _) q_X11_in wm_RX11_129 rfl rfl (by omega) (Nat.le_of_ble_eq_true rfl) am_nI (am_rI fun h2 v3 => ?_) am_eI
  exact sim_zret dX11_isTag_11 rfl)
theorem q_X11_isTag : am_Cal m_X11_isTag 1 2 := ⟨am_mem 1346 (w := Cond.code yX11_isTag cX11_isTag 2 (some .boolean)) (by decide +kernel) rfl, am_mem 64 (w := Cond.initialized RX11) (by decide +kernel) rfl, fun z => absurd z (by decide), fun _ => am_mem 1345 (w := Cond.instanceMethod yX11_isTag) (by decide +kernel) rfl, fun z => absurd z (by decide), fun _ => am_mem 34 (w := Cond.selects RX11 yX11_isTag yX11_isTag) (by decide +kernel) rfl, by decide +kernel, by decide +kernel, Nat.le_of_ble_eq_true rfl⟩
abbrev m_X11_letsWait : am_M := (yX11_letsWait, cX11_letsWait, 2, none, [])
def f_X11_letsWait_38 (rc2 : Nat × Nat → Int32 → am_H → am_R) (a0 : Nat × Nat) (x1 : Int32) (s0 : Int32) (s1 : Int32) (s2 : Option (Nat × Nat)) (h : am_H) : am_R := m_sZ s2 s1 s0 h fun h7 => rc2 a0 (x1 + 1) h7
theorem t_X11_letsWait_38 (d : Nat) (hd : 0 ≤ d) (rc2 : Nat × Nat → Int32 → am_H → am_R) (hrc2 : ∀ a0 x1 h, Sim m_X11_letsWait d 2 [some (.inr (.inr (some a0))), some (.inl x1)] [] h (rc2 a0 x1 h)) (a0 : Nat × Nat) (x1 : Int32) (s0 : Int32) (s1 : Int32) (s2 : Option (Nat × Nat)) (h : am_H) : Sim m_X11_letsWait d 38 [some (.inr (.inr (some a0))), some (.inl x1)] [.inl s0, .inl s1, .inr (.inr s2)] h (f_X11_letsWait_38 rc2 a0 x1 s0 s1 s2 h) := by
  unfold f_X11_letsWait_38
  refine sim_sZ dX11_letsWait_38 (fun h7 => ?_)
  refine sim_iinc (1) dX11_letsWait_39 rfl (by decide +kernel) (Nat.le_of_ble_eq_true rfl) ?_
  refine sim_goto 2 dX11_letsWait_42 (by decide) ?_
  exact sim_lv (am_leS (am_leS am_leT)) (hrc2 _ _ _)
def f_X11_letsWait_33 (rc2 : Nat × Nat → Int32 → am_H → am_R) (a0 : Nat × Nat) (x1 : Int32) (s0 : Int32) (s1 : Option (Nat × Nat)) (h : am_H) : am_R := f_X11_letsWait_38 rc2 a0 x1 (1 : Int32) s0 s1 h
theorem t_X11_letsWait_33 (d : Nat) (hd : 0 ≤ d) (rc2 : Nat × Nat → Int32 → am_H → am_R) (hrc2 : ∀ a0 x1 h, Sim m_X11_letsWait d 2 [some (.inr (.inr (some a0))), some (.inl x1)] [] h (rc2 a0 x1 h)) (a0 : Nat × Nat) (x1 : Int32) (s0 : Int32) (s1 : Option (Nat × Nat)) (h : am_H) : Sim m_X11_letsWait d 33 [some (.inr (.inr (some a0))), some (.inl x1)] [.inl s0, .inr (.inr s1)] h (f_X11_letsWait_33 rc2 a0 x1 s0 s1 h) := by
  unfold f_X11_letsWait_33
  refine sim_iconst (1) dX11_letsWait_33 (by decide +kernel) ?_
  refine sim_goto 38 dX11_letsWait_34 (by decide) ?_
  exact sim_lv (am_leS (am_leS am_leT)) (t_X11_letsWait_38 d (by omega) _ hrc2 _ _ _ _ _ _)
def f_X11_letsWait_2  : Nat → Nat × Nat → Int32 → am_H → am_R
  | 0, _, _, _ => none
  | n + 1, a0, x1, h => m_gI (some a0) 11 4 h fun v1 => if v1 ≤ x1 then (m_rt h none) else (m_gR (some a0) 11 14 h fun o2 => m_gR (some a0) 11 14 h fun o3 => m_aI o3 1 x1 h fun v4 => if v4 = 0 then (m_gR (some a0) 11 12 h fun o5 => m_aI o5 0 x1 h fun v6 => if v6 = 0 then (f_X11_letsWait_38 (f_X11_letsWait_2  n) a0 x1 (0 : Int32) x1 o2 h) else (f_X11_letsWait_33 (f_X11_letsWait_2  n) a0 x1 x1 o2 h)) else (f_X11_letsWait_33 (f_X11_letsWait_2  n) a0 x1 x1 o2 h))
theorem t_X11_letsWait_2 (d : Nat) (hd : 0 ≤ d)  : ∀ (n : Nat) (a0 : Nat × Nat) (x1 : Int32) (h : am_H), Sim m_X11_letsWait d 2 [some (.inr (.inr (some a0))), some (.inl x1)] [] h (f_X11_letsWait_2  n a0 x1 h) := by
  intro n
  induction n with
  | zero => intros; exact sim_none
  | succ n hrc2 =>
    intro a0 x1 h
    rw [f_X11_letsWait_2]
    refine sim_iload_n dX11_letsWait_2 rfl ?_
    refine sim_aload_n dX11_letsWait_3 rfl ?_
    refine sim_gI 11 4 dX11_letsWait_4 rfl wf_RX11_133 (Nat.le_of_ble_eq_true rfl) rfl (fun v1 => ?_)
    refine sim_ic_ge 45 dX11_letsWait_7 (by decide) (fun c => ?_) (fun c => ?_)
    · exact sim_vret dX11_letsWait_45 rfl
    · refine sim_aload_n dX11_letsWait_10 rfl ?_
      refine sim_gR 11 14 dX11_letsWait_11 rfl wf_RX11_44 (Nat.le_of_ble_eq_true rfl) rfl (fun o2 => ?_)
      refine sim_iload_n dX11_letsWait_14 rfl ?_
      refine sim_aload_n dX11_letsWait_15 rfl ?_
      refine sim_gR 11 14 dX11_letsWait_16 rfl wf_RX11_44 (Nat.le_of_ble_eq_true rfl) rfl (fun o3 => ?_)
      refine sim_iload_n dX11_letsWait_19 rfl ?_
      refine sim_aZ dX11_letsWait_20 (fun v4 => ?_)
      refine sim_if_ne 33 dX11_letsWait_21 (by decide) (fun c => ?_) (fun c => ?_)
      · exact sim_lv (am_leS (am_leS am_leT)) (t_X11_letsWait_33 d (by omega) _ hrc2 _ _ _ _ _)
      · refine sim_aload_n dX11_letsWait_24 rfl ?_
        refine sim_gR 11 12 dX11_letsWait_25 rfl wf_RX11_38 (Nat.le_of_ble_eq_true rfl) rfl (fun o5 => ?_)
        refine sim_iload_n dX11_letsWait_28 rfl ?_
        refine sim_aI dX11_letsWait_29 (fun v6 => ?_)
        refine sim_if_eq 37 dX11_letsWait_30 (by decide) (fun c => ?_) (fun c => ?_)
        · refine sim_iconst (0) dX11_letsWait_37 (by decide +kernel) ?_
          exact sim_lv (am_leS (am_leS am_leT)) (t_X11_letsWait_38 d (by omega) _ hrc2 _ _ _ _ _ _)
        · exact sim_lv (am_leS (am_leS am_leT)) (t_X11_letsWait_33 d (by omega) _ hrc2 _ _ _ _ _)
def f_X11_letsWait (a0 : Nat × Nat) (h : am_H) : am_R := f_X11_letsWait_2 5000 a0 (0 : Int32) h
theorem k_X11_letsWait (d : Nat) (hd : 0 ≤ d) (a0 : Nat × Nat) (h : am_H) : am_Con m_X11_letsWait d [.inr (.inr (some a0))] h (f_X11_letsWait a0 h) := am_con (by decide +kernel) (Nat.le_of_ble_eq_true rfl) (by
  unfold f_X11_letsWait
  refine sim_iconst (0) dX11_letsWait_0 (by decide +kernel) ?_
  refine sim_istore_n dX11_letsWait_1 (Nat.le_of_ble_eq_true rfl) ?_
  exact sim_lv (am_leS (am_leS am_leT)) (t_X11_letsWait_2 d (by omega) _ _ _ _))
theorem q_X11_letsWait : am_Cal m_X11_letsWait 0 2 := ⟨am_mem 1350 (w := Cond.code yX11_letsWait cX11_letsWait 2 none) (by decide +kernel) rfl, am_mem 64 (w := Cond.initialized RX11) (by decide +kernel) rfl, fun z => absurd z (by decide), fun _ => am_mem 1349 (w := Cond.instanceMethod yX11_letsWait) (by decide +kernel) rfl, fun z => absurd z (by decide), fun _ => am_mem 35 (w := Cond.selects RX11 yX11_letsWait yX11_letsWait) (by decide +kernel) rfl, by decide +kernel, by decide +kernel, Nat.le_of_ble_eq_true rfl⟩
abbrev m_X11_make : am_M := (yX11_make, cX11_make, 4, some .int, [])
def f_X11_make_30  (a0 : Nat × Nat) (x1 : Int32) (s0 : Int32) (s1 : Option (Nat × Nat)) (h : am_H) : am_R := m_ao s1 11 fun a8 => m_bI (f_X11_holds a8 s0 h) fun h6 v7 => if v7 = 0 then (m_ri h6 (0 : Int32)) else (m_gR (some a0) 11 21 h6 fun o9 => m_aI o9 0 x1 h6 fun v10 => m_gR (some a0) 11 21 h6 fun o11 => m_sI o11 x1 (1 : Int32) h6 fun h12 => m_gR (some a0) 11 23 h12 fun o13 => m_sI o13 x1 (0 : Int32) h12 fun h14 => m_ao (some a0) 11 fun a17 => m_bV (f_X11_letsWait a17 h14) fun h15 => m_ri h15 v10)
theorem t_X11_make_30 (d : Nat) (hd : 2 ≤ d)  (a0 : Nat × Nat) (x1 : Int32) (s0 : Int32) (s1 : Option (Nat × Nat)) (h : am_H) : Sim m_X11_make d 30 [some (.inr (.inr (some a0))), some (.inl x1), none, none] [.inl s0, .inr (.inr s1)] h (f_X11_make_30  a0 x1 s0 s1 h) := by
  unfold f_X11_make_30
  refine sim_ao1 (fun a8 e => ?_)
  refine sim_virt (d - 1) e dX11_make_30 (k_X11_holds (d - 1) (by omega) _ _ _) q_X11_holds rfl rfl wm_RX11_142 rfl rfl (by omega) (Nat.le_of_ble_eq_true rfl) am_nI (am_rI fun h6 v7 => ?_) am_eI
  refine sim_if_ne 38 dX11_make_33 (by decide) (fun c => ?_) (fun c => ?_)
  · refine sim_aload_n dX11_make_38 rfl ?_
    refine sim_gR 11 21 dX11_make_39 rfl wf_RX11_59 (Nat.le_of_ble_eq_true rfl) rfl (fun o9 => ?_)
    refine sim_iload_n dX11_make_42 rfl ?_
    refine sim_aI dX11_make_43 (fun v10 => ?_)
    refine sim_istore_n dX11_make_44 (Nat.le_of_ble_eq_true rfl) ?_
    refine sim_aload_n dX11_make_45 rfl ?_
    refine sim_gR 11 21 dX11_make_46 rfl wf_RX11_59 (Nat.le_of_ble_eq_true rfl) rfl (fun o11 => ?_)
    refine sim_iload_n dX11_make_49 rfl ?_
    refine sim_iconst (1) dX11_make_50 (by decide +kernel) ?_
    refine sim_sI dX11_make_51 (fun h12 => ?_)
    refine sim_aload_n dX11_make_52 rfl ?_
    refine sim_gR 11 23 dX11_make_53 rfl wf_RX11_65 (Nat.le_of_ble_eq_true rfl) rfl (fun o13 => ?_)
    refine sim_iload_n dX11_make_56 rfl ?_
    refine sim_iconst (0) dX11_make_57 (by decide +kernel) ?_
    refine sim_sI dX11_make_58 (fun h14 => ?_)
    refine sim_aload_n dX11_make_59 rfl ?_
    refine sim_ao0 (fun a17 e => ?_)
    refine sim_virt (d - 1) e dX11_make_60 (k_X11_letsWait (d - 1) (by omega) _  _) q_X11_letsWait rfl rfl wm_RX11_187 rfl rfl (by omega) (Nat.le_of_ble_eq_true rfl) am_nV (am_rV fun h15 => ?_) am_eV
    refine sim_iload_n dX11_make_63 rfl ?_
    exact sim_iret dX11_make_64 rfl
  · refine sim_iconst (0) dX11_make_36 (by decide +kernel) ?_
    exact sim_iret dX11_make_37 rfl
def f_X11_make (a0 : Nat × Nat) (x1 : Int32) (h : am_H) : am_R := m_ao (some a0) 11 fun a3 => m_bI (f_X11_isTag a3 x1 h) fun h1 v2 => if v2 = 0 then (f_X11_make_30 a0 x1 (1 : Int32) (some a0) h1) else (m_gR (some a0) 11 21 h1 fun o4 => m_aI o4 0 x1 h1 fun v5 => if v5 = (1 : Int32) then (f_X11_make_30 a0 x1 (2 : Int32) (some a0) h1) else (f_X11_make_30 a0 x1 (0 : Int32) (some a0) h1))
theorem k_X11_make (d : Nat) (hd : 2 ≤ d) (a0 : Nat × Nat) (x1 : Int32) (h : am_H) : am_Con m_X11_make d [.inr (.inr (some a0)), .inl x1] h (f_X11_make a0 x1 h) := am_con (by decide +kernel) (Nat.le_of_ble_eq_true rfl) (by
  unfold f_X11_make
  refine sim_aload_n dX11_make_0 rfl ?_
  refine sim_iload_n dX11_make_1 rfl ?_
  refine sim_ao1 (fun a3 e => ?_)
  refine sim_virt (d - 1) e dX11_make_2 (k_X11_isTag (d - 1) (by omega) _ _ _) q_X11_isTag rfl rfl wm_RX11_184 rfl rfl (by omega) (Nat.le_of_ble_eq_true rfl) am_nI (am_rI fun h1 v2 => ?_) am_eI
  refine sim_istore_n dX11_make_5 (Nat.le_of_ble_eq_true rfl) ?_
  refine sim_aload_n dX11_make_6 rfl ?_
  refine sim_iload_n dX11_make_7 rfl ?_
  refine sim_if_ne 15 dX11_make_8 (by decide) (fun c => ?_) (fun c => ?_)
  · refine sim_aload_n dX11_make_15 rfl ?_
    refine sim_gR 11 21 dX11_make_16 rfl wf_RX11_59 (Nat.le_of_ble_eq_true rfl) rfl (fun o4 => ?_)
    refine sim_iload_n dX11_make_19 rfl ?_
    refine sim_aI dX11_make_20 (fun v5 => ?_)
    refine sim_iconst (1) dX11_make_21 (by decide +kernel) ?_
    refine sim_ic_ne 29 dX11_make_22 (by decide) (fun c => ?_) (fun c => ?_)
    · refine sim_iconst (0) dX11_make_29 (by decide +kernel) ?_
      exact sim_lv (am_leS (am_leS (am_leN (am_leN am_leT)))) (t_X11_make_30 d (by omega) _ _ _ _ _)
    · refine sim_iconst (2) dX11_make_25 (by decide +kernel) ?_
      refine sim_goto 30 dX11_make_26 (by decide) ?_
      exact sim_lv (am_leS (am_leS (am_leN (am_leN am_leT)))) (t_X11_make_30 d (by omega) _ _ _ _ _)
  · refine sim_iconst (1) dX11_make_11 (by decide +kernel) ?_
    refine sim_goto 30 dX11_make_12 (by decide) ?_
    exact sim_lv (am_leS (am_leS (am_leN (am_leN am_leT)))) (t_X11_make_30 d (by omega) _ _ _ _ _))
theorem q_X11_make : am_Cal m_X11_make 1 2 := ⟨am_mem 1342 (w := Cond.code yX11_make cX11_make 4 (some .int)) (by decide +kernel) rfl, am_mem 64 (w := Cond.initialized RX11) (by decide +kernel) rfl, fun z => absurd z (by decide), fun _ => am_mem 1340 (w := Cond.instanceMethod yX11_make) (by decide +kernel) rfl, fun z => absurd z (by decide), fun _ => am_mem 1341 (w := Cond.selects RX11 yX11_make yX11_make) (by decide +kernel) rfl, by decide +kernel, by decide +kernel, Nat.le_of_ble_eq_true rfl⟩
abbrev m_X11_aboveOf : am_M := (yX11_aboveOf, cX11_aboveOf, 5, some .int, [])
def f_X11_aboveOf_49 (rc9 : Nat × Nat → Int32 → Int32 → am_H → am_R) (rc19 : Nat × Nat → Int32 → Int32 → Int32 → am_H → am_R) (a0 : Nat × Nat) (x3 : Int32) (x4 : Int32) (s0 : Int32) (s1 : Int32) (h : am_H) : am_R := rc19 a0 (s1 ||| s0) x3 (x4 + 1) h
theorem t_X11_aboveOf_49 (d : Nat) (hd : 1 ≤ d) (rc9 : Nat × Nat → Int32 → Int32 → am_H → am_R) (hrc9 : ∀ a0 x2 x3 h, Sim m_X11_aboveOf d 9 [some (.inr (.inr (some a0))), none, some (.inl x2), some (.inl x3), none] [] h (rc9 a0 x2 x3 h)) (rc19 : Nat × Nat → Int32 → Int32 → Int32 → am_H → am_R) (hrc19 : ∀ a0 x2 x3 x4 h, Sim m_X11_aboveOf d 19 [some (.inr (.inr (some a0))), none, some (.inl x2), some (.inl x3), some (.inl x4)] [] h (rc19 a0 x2 x3 x4 h)) (a0 : Nat × Nat) (x3 : Int32) (x4 : Int32) (s0 : Int32) (s1 : Int32) (h : am_H) : Sim m_X11_aboveOf d 49 [some (.inr (.inr (some a0))), none, none, some (.inl x3), some (.inl x4)] [.inl s0, .inl s1] h (f_X11_aboveOf_49 rc9 rc19 a0 x3 x4 s0 s1 h) := by
  unfold f_X11_aboveOf_49
  refine sim_ior dX11_aboveOf_49 ?_
  refine sim_istore_n dX11_aboveOf_50 (Nat.le_of_ble_eq_true rfl) ?_
  refine sim_iinc (1) dX11_aboveOf_51 rfl (by decide +kernel) (Nat.le_of_ble_eq_true rfl) ?_
  refine sim_goto 19 dX11_aboveOf_54 (by decide) ?_
  exact sim_lv (am_leS (am_leN (am_leS (am_leS (am_leS am_leT))))) (hrc19 _ _ _ _ _)
def f_X11_aboveOf_19 (rc9 : Nat × Nat → Int32 → Int32 → am_H → am_R) : Nat → Nat × Nat → Int32 → Int32 → Int32 → am_H → am_R
  | 0, _, _, _, _, _ => none
  | n + 1, a0, x2, x3, x4, h => m_gI (some a0) 11 20 h fun v3 => if v3 ≤ x4 then (rc9 a0 x2 x3 h) else (m_bI (f_X11_has x3 x4 h) fun h4 v5 => if v5 = 0 then (f_X11_aboveOf_49 rc9 (f_X11_aboveOf_19 rc9 n) a0 x3 x4 (0 : Int32) x2 h4) else (m_gR (some a0) 11 23 h4 fun o6 => m_aI o6 0 x4 h4 fun v7 => f_X11_aboveOf_49 rc9 (f_X11_aboveOf_19 rc9 n) a0 x3 x4 v7 x2 h4))
theorem t_X11_aboveOf_19 (d : Nat) (hd : 1 ≤ d) (rc9 : Nat × Nat → Int32 → Int32 → am_H → am_R) (hrc9 : ∀ a0 x2 x3 h, Sim m_X11_aboveOf d 9 [some (.inr (.inr (some a0))), none, some (.inl x2), some (.inl x3), none] [] h (rc9 a0 x2 x3 h)) : ∀ (n : Nat) (a0 : Nat × Nat) (x2 : Int32) (x3 : Int32) (x4 : Int32) (h : am_H), Sim m_X11_aboveOf d 19 [some (.inr (.inr (some a0))), none, some (.inl x2), some (.inl x3), some (.inl x4)] [] h (f_X11_aboveOf_19 rc9 n a0 x2 x3 x4 h) := by
  intro n
  induction n with
  | zero => intros; exact sim_none
  | succ n hrc19 =>
    intro a0 x2 x3 x4 h
    rw [f_X11_aboveOf_19]
    refine sim_iload dX11_aboveOf_19 rfl ?_
    refine sim_aload_n dX11_aboveOf_21 rfl ?_
    refine sim_gI 11 20 dX11_aboveOf_22 rfl wf_RX11_136 (Nat.le_of_ble_eq_true rfl) rfl (fun v3 => ?_)
    refine sim_ic_ge 57 dX11_aboveOf_25 (by decide) (fun c => ?_) (fun c => ?_)
    · refine sim_goto 9 dX11_aboveOf_57 (by decide) ?_
      exact sim_lv (am_leS (am_leN (am_leS (am_leS (am_leN am_leT))))) (hrc9 _ _ _ _)
    · refine sim_iload_n dX11_aboveOf_28 rfl ?_
      refine sim_iload_n dX11_aboveOf_29 rfl ?_
      refine sim_iload dX11_aboveOf_30 rfl ?_
      refine sim_static (d - 1) dX11_aboveOf_32 (k_X11_has (d - 1) (by omega) _ _ _) q_X11_has wm_RX11_155 rfl rfl (by omega) (Nat.le_of_ble_eq_true rfl) am_nI (am_rI fun h4 v5 => ?_) am_eI
      refine sim_if_eq 48 dX11_aboveOf_35 (by decide) (fun c => ?_) (fun c => ?_)
      · refine sim_iconst (0) dX11_aboveOf_48 (by decide +kernel) ?_
        exact sim_lv (am_leS (am_leN (am_leN (am_leS (am_leS am_leT))))) (t_X11_aboveOf_49 d (by omega) _ hrc9 _ hrc19 _ _ _ _ _ _)
      · refine sim_aload_n dX11_aboveOf_38 rfl ?_
        refine sim_gR 11 23 dX11_aboveOf_39 rfl wf_RX11_65 (Nat.le_of_ble_eq_true rfl) rfl (fun o6 => ?_)
        refine sim_iload dX11_aboveOf_42 rfl ?_
        refine sim_aI dX11_aboveOf_44 (fun v7 => ?_)
        refine sim_goto 49 dX11_aboveOf_45 (by decide) ?_
        exact sim_lv (am_leS (am_leN (am_leN (am_leS (am_leS am_leT))))) (t_X11_aboveOf_49 d (by omega) _ hrc9 _ hrc19 _ _ _ _ _ _)
def f_X11_aboveOf_9  : Nat → Nat × Nat → Int32 → Int32 → am_H → am_R
  | 0, _, _, _, _ => none
  | n + 1, a0, x2, x3, h => if x2 = x3 then (m_ri h x2) else (f_X11_aboveOf_19 (f_X11_aboveOf_9  n) 5000 a0 x2 x2 (0 : Int32) h)
theorem t_X11_aboveOf_9 (d : Nat) (hd : 1 ≤ d)  : ∀ (n : Nat) (a0 : Nat × Nat) (x2 : Int32) (x3 : Int32) (h : am_H), Sim m_X11_aboveOf d 9 [some (.inr (.inr (some a0))), none, some (.inl x2), some (.inl x3), none] [] h (f_X11_aboveOf_9  n a0 x2 x3 h) := by
  intro n
  induction n with
  | zero => intros; exact sim_none
  | succ n hrc9 =>
    intro a0 x2 x3 h
    rw [f_X11_aboveOf_9]
    refine sim_iload_n dX11_aboveOf_9 rfl ?_
    refine sim_iload_n dX11_aboveOf_10 rfl ?_
    refine sim_ic_eq 60 dX11_aboveOf_11 (by decide) (fun c => ?_) (fun c => ?_)
    · refine sim_iload_n dX11_aboveOf_60 rfl ?_
      exact sim_iret dX11_aboveOf_61 rfl
    · refine sim_iload_n dX11_aboveOf_14 rfl ?_
      refine sim_istore_n dX11_aboveOf_15 (Nat.le_of_ble_eq_true rfl) ?_
      refine sim_iconst (0) dX11_aboveOf_16 (by decide +kernel) ?_
      refine sim_istore dX11_aboveOf_17 (Nat.le_of_ble_eq_true rfl) ?_
      exact sim_lv (am_leS (am_leN (am_leS (am_leS (am_leS am_leT))))) (t_X11_aboveOf_19 d (by omega) _ hrc9 _ _ _ _ _ _)
def f_X11_aboveOf (a0 : Nat × Nat) (x1 : Int32) (h : am_H) : am_R := m_gR (some a0) 11 23 h fun o1 => m_aI o1 0 x1 h fun v2 => f_X11_aboveOf_9 5000 a0 v2 (-1 : Int32) h
theorem k_X11_aboveOf (d : Nat) (hd : 1 ≤ d) (a0 : Nat × Nat) (x1 : Int32) (h : am_H) : am_Con m_X11_aboveOf d [.inr (.inr (some a0)), .inl x1] h (f_X11_aboveOf a0 x1 h) := am_con (by decide +kernel) (Nat.le_of_ble_eq_true rfl) (by
  unfold f_X11_aboveOf
  refine sim_aload_n dX11_aboveOf_0 rfl ?_
  refine sim_gR 11 23 dX11_aboveOf_1 rfl wf_RX11_65 (Nat.le_of_ble_eq_true rfl) rfl (fun o1 => ?_)
  refine sim_iload_n dX11_aboveOf_4 rfl ?_
  refine sim_aI dX11_aboveOf_5 (fun v2 => ?_)
  refine sim_istore_n dX11_aboveOf_6 (Nat.le_of_ble_eq_true rfl) ?_
  refine sim_iconst (-1) dX11_aboveOf_7 (by decide +kernel) ?_
  refine sim_istore_n dX11_aboveOf_8 (Nat.le_of_ble_eq_true rfl) ?_
  exact sim_lv (am_leS (am_leN (am_leS (am_leS (am_leN am_leT))))) (t_X11_aboveOf_9 d (by omega) _ _ _ _ _))
theorem q_X11_aboveOf : am_Cal m_X11_aboveOf 1 2 := ⟨am_mem 1358 (w := Cond.code yX11_aboveOf cX11_aboveOf 5 (some .int)) (by decide +kernel) rfl, am_mem 64 (w := Cond.initialized RX11) (by decide +kernel) rfl, fun z => absurd z (by decide), fun _ => am_mem 1357 (w := Cond.instanceMethod yX11_aboveOf) (by decide +kernel) rfl, fun z => absurd z (by decide), fun _ => am_mem 36 (w := Cond.selects RX11 yX11_aboveOf yX11_aboveOf) (by decide +kernel) rfl, by decide +kernel, by decide +kernel, Nat.le_of_ble_eq_true rfl⟩
abbrev m_X11_meaning : am_M := (yX11_meaning, cX11_meaning, 2, some .int, [])
def f_X11_meaning_34  (s0 : Int32) (h : am_H) : am_R := m_ri h s0
theorem t_X11_meaning_34 (d : Nat) (hd : 0 ≤ d)  (s0 : Int32) (h : am_H) : Sim m_X11_meaning d 34 [none, none] [.inl s0] h (f_X11_meaning_34  s0 h) := by
  unfold f_X11_meaning_34
  exact sim_iret dX11_meaning_34 rfl
def f_X11_meaning (a0 : Nat × Nat) (x1 : Int32) (h : am_H) : am_R := m_gR (some a0) 11 21 h fun o1 => m_aI o1 0 x1 h fun v2 => if v2 = (1 : Int32) then (f_X11_meaning_34 x1 h) else (m_gR (some a0) 11 21 h fun o3 => m_aI o3 0 x1 h fun v4 => if v4 = (2 : Int32) then (m_gR (some a0) 11 22 h fun o5 => m_aI o5 0 x1 h fun v6 => f_X11_meaning_34 v6 h) else (f_X11_meaning_34 (-1 : Int32) h))
theorem k_X11_meaning (d : Nat) (hd : 0 ≤ d) (a0 : Nat × Nat) (x1 : Int32) (h : am_H) : am_Con m_X11_meaning d [.inr (.inr (some a0)), .inl x1] h (f_X11_meaning a0 x1 h) := am_con (by decide +kernel) (Nat.le_of_ble_eq_true rfl) (by
  unfold f_X11_meaning
  refine sim_aload_n dX11_meaning_0 rfl ?_
  refine sim_gR 11 21 dX11_meaning_1 rfl wf_RX11_59 (Nat.le_of_ble_eq_true rfl) rfl (fun o1 => ?_)
  refine sim_iload_n dX11_meaning_4 rfl ?_
  refine sim_aI dX11_meaning_5 (fun v2 => ?_)
  refine sim_iconst (1) dX11_meaning_6 (by decide +kernel) ?_
  refine sim_ic_ne 14 dX11_meaning_7 (by decide) (fun c => ?_) (fun c => ?_)
  · refine sim_aload_n dX11_meaning_14 rfl ?_
    refine sim_gR 11 21 dX11_meaning_15 rfl wf_RX11_59 (Nat.le_of_ble_eq_true rfl) rfl (fun o3 => ?_)
    refine sim_iload_n dX11_meaning_18 rfl ?_
    refine sim_aI dX11_meaning_19 (fun v4 => ?_)
    refine sim_iconst (2) dX11_meaning_20 (by decide +kernel) ?_
    refine sim_ic_ne 33 dX11_meaning_21 (by decide) (fun c => ?_) (fun c => ?_)
    · refine sim_iconst (-1) dX11_meaning_33 (by decide +kernel) ?_
      exact sim_lv (am_leN (am_leN am_leT)) (t_X11_meaning_34 d (by omega) _ _)
    · refine sim_aload_n dX11_meaning_24 rfl ?_
      refine sim_gR 11 22 dX11_meaning_25 rfl wf_RX11_62 (Nat.le_of_ble_eq_true rfl) rfl (fun o5 => ?_)
      refine sim_iload_n dX11_meaning_28 rfl ?_
      refine sim_aI dX11_meaning_29 (fun v6 => ?_)
      refine sim_goto 34 dX11_meaning_30 (by decide) ?_
      exact sim_lv (am_leN (am_leN am_leT)) (t_X11_meaning_34 d (by omega) _ _)
  · refine sim_iload_n dX11_meaning_10 rfl ?_
    refine sim_goto 34 dX11_meaning_11 (by decide) ?_
    exact sim_lv (am_leN (am_leN am_leT)) (t_X11_meaning_34 d (by omega) _ _))
theorem q_X11_meaning : am_Cal m_X11_meaning 1 2 := ⟨am_mem 1370 (w := Cond.code yX11_meaning cX11_meaning 2 (some .int)) (by decide +kernel) rfl, am_mem 64 (w := Cond.initialized RX11) (by decide +kernel) rfl, fun z => absurd z (by decide), fun _ => am_mem 1369 (w := Cond.instanceMethod yX11_meaning) (by decide +kernel) rfl, fun z => absurd z (by decide), fun _ => am_mem 37 (w := Cond.selects RX11 yX11_meaning yX11_meaning) (by decide +kernel) rfl, by decide +kernel, by decide +kernel, Nat.le_of_ble_eq_true rfl⟩
abbrev m_X11_suits : am_M := (yX11_suits, cX11_suits, 7, some .boolean, [])
def f_X11_suits_157  (s0 : Int32) (h : am_H) : am_R := m_rz h s0
theorem t_X11_suits_157 (d : Nat) (hd : 2 ≤ d)  (s0 : Int32) (h : am_H) : Sim m_X11_suits d 157 [none, none, none, none, none, none, none] [.inl s0] h (f_X11_suits_157  s0 h) := by
  unfold f_X11_suits_157
  exact sim_zret dX11_suits_157 rfl
def f_X11_suits_136 (rc51 : Nat × Nat → Int32 → Int32 → Int32 → Int32 → Int32 → am_H → am_R) (a0 : Nat × Nat) (x1 : Int32) (x2 : Int32) (x3 : Int32) (x5 : Int32) (s0 : Int32) (s1 : Int32) (h : am_H) : am_R := rc51 a0 x1 x2 x3 (s1 ||| s0) (x5 + 1) h
theorem t_X11_suits_136 (d : Nat) (hd : 2 ≤ d) (rc51 : Nat × Nat → Int32 → Int32 → Int32 → Int32 → Int32 → am_H → am_R) (hrc51 : ∀ a0 x1 x2 x3 x4 x5 h, Sim m_X11_suits d 51 [some (.inr (.inr (some a0))), some (.inl x1), some (.inl x2), some (.inl x3), some (.inl x4), some (.inl x5), none] [] h (rc51 a0 x1 x2 x3 x4 x5 h)) (a0 : Nat × Nat) (x1 : Int32) (x2 : Int32) (x3 : Int32) (x5 : Int32) (s0 : Int32) (s1 : Int32) (h : am_H) : Sim m_X11_suits d 136 [some (.inr (.inr (some a0))), some (.inl x1), some (.inl x2), some (.inl x3), none, some (.inl x5), none] [.inl s0, .inl s1] h (f_X11_suits_136 rc51 a0 x1 x2 x3 x5 s0 s1 h) := by
  unfold f_X11_suits_136
  refine sim_ior dX11_suits_136 ?_
  refine sim_istore dX11_suits_137 (Nat.le_of_ble_eq_true rfl) ?_
  refine sim_iinc (1) dX11_suits_139 rfl (by decide +kernel) (Nat.le_of_ble_eq_true rfl) ?_
  refine sim_goto 51 dX11_suits_142 (by decide) ?_
  exact sim_lv (am_leS (am_leS (am_leS (am_leS (am_leS (am_leS (am_leN am_leT))))))) (hrc51 _ _ _ _ _ _ _)
def f_X11_suits_135 (rc51 : Nat × Nat → Int32 → Int32 → Int32 → Int32 → Int32 → am_H → am_R) (a0 : Nat × Nat) (x1 : Int32) (x2 : Int32) (x3 : Int32) (x5 : Int32) (s0 : Int32) (h : am_H) : am_R := f_X11_suits_136 rc51 a0 x1 x2 x3 x5 (0 : Int32) s0 h
theorem t_X11_suits_135 (d : Nat) (hd : 2 ≤ d) (rc51 : Nat × Nat → Int32 → Int32 → Int32 → Int32 → Int32 → am_H → am_R) (hrc51 : ∀ a0 x1 x2 x3 x4 x5 h, Sim m_X11_suits d 51 [some (.inr (.inr (some a0))), some (.inl x1), some (.inl x2), some (.inl x3), some (.inl x4), some (.inl x5), none] [] h (rc51 a0 x1 x2 x3 x4 x5 h)) (a0 : Nat × Nat) (x1 : Int32) (x2 : Int32) (x3 : Int32) (x5 : Int32) (s0 : Int32) (h : am_H) : Sim m_X11_suits d 135 [some (.inr (.inr (some a0))), some (.inl x1), some (.inl x2), some (.inl x3), none, some (.inl x5), none] [.inl s0] h (f_X11_suits_135 rc51 a0 x1 x2 x3 x5 s0 h) := by
  unfold f_X11_suits_135
  refine sim_iconst (0) dX11_suits_135 (by decide +kernel) ?_
  exact sim_lv (am_leS (am_leS (am_leS (am_leS (am_leN (am_leS (am_leN am_leT))))))) (t_X11_suits_136 d (by omega) _ hrc51 _ _ _ _ _ _ _ _)
def f_X11_suits_97 (rc51 : Nat × Nat → Int32 → Int32 → Int32 → Int32 → Int32 → am_H → am_R) (a0 : Nat × Nat) (x1 : Int32) (x2 : Int32) (x4 : Int32) (x5 : Int32) (x6 : Int32) (s0 : Int32) (s1 : Int32) (h : am_H) : am_R := m_gR (some a0) 11 33 h fun o21 => m_aI o21 0 x1 h fun v22 => m_bI (f_X11_has v22 x5 h) fun h23 v24 => if v24 = 0 then (f_X11_suits_135 rc51 a0 x1 x2 (s1 ||| s0) x5 x4 h23) else (if x6 = (-1 : Int32) then (f_X11_suits_135 rc51 a0 x1 x2 (s1 ||| s0) x5 x4 h23) else (m_ao (some a0) 11 fun a27 => m_bI (f_X11_aboveOf a27 x6 h23) fun h25 v26 => f_X11_suits_136 rc51 a0 x1 x2 (s1 ||| s0) x5 (((1 : Int32) <<< (x6 &&& 31)) ||| v26) x4 h25))
theorem t_X11_suits_97 (d : Nat) (hd : 2 ≤ d) (rc51 : Nat × Nat → Int32 → Int32 → Int32 → Int32 → Int32 → am_H → am_R) (hrc51 : ∀ a0 x1 x2 x3 x4 x5 h, Sim m_X11_suits d 51 [some (.inr (.inr (some a0))), some (.inl x1), some (.inl x2), some (.inl x3), some (.inl x4), some (.inl x5), none] [] h (rc51 a0 x1 x2 x3 x4 x5 h)) (a0 : Nat × Nat) (x1 : Int32) (x2 : Int32) (x4 : Int32) (x5 : Int32) (x6 : Int32) (s0 : Int32) (s1 : Int32) (h : am_H) : Sim m_X11_suits d 97 [some (.inr (.inr (some a0))), some (.inl x1), some (.inl x2), none, some (.inl x4), some (.inl x5), some (.inl x6)] [.inl s0, .inl s1] h (f_X11_suits_97 rc51 a0 x1 x2 x4 x5 x6 s0 s1 h) := by
  unfold f_X11_suits_97
  refine sim_ior dX11_suits_97 ?_
  refine sim_istore_n dX11_suits_98 (Nat.le_of_ble_eq_true rfl) ?_
  refine sim_iload dX11_suits_99 rfl ?_
  refine sim_aload_n dX11_suits_101 rfl ?_
  refine sim_gR 11 33 dX11_suits_102 rfl wf_RX11_86 (Nat.le_of_ble_eq_true rfl) rfl (fun o21 => ?_)
  refine sim_iload_n dX11_suits_105 rfl ?_
  refine sim_aI dX11_suits_106 (fun v22 => ?_)
  refine sim_iload dX11_suits_107 rfl ?_
  refine sim_static (d - 1) dX11_suits_109 (k_X11_has (d - 1) (by omega) _ _ _) q_X11_has wm_RX11_155 rfl rfl (by omega) (Nat.le_of_ble_eq_true rfl) am_nI (am_rI fun h23 v24 => ?_) am_eI
  refine sim_if_eq 135 dX11_suits_112 (by decide) (fun c => ?_) (fun c => ?_)
  · exact sim_lv (am_leS (am_leS (am_leS (am_leS (am_leN (am_leS (am_leN am_leT))))))) (t_X11_suits_135 d (by omega) _ hrc51 _ _ _ _ _ _ _)
  · refine sim_iload dX11_suits_115 rfl ?_
    refine sim_iconst (-1) dX11_suits_117 (by decide +kernel) ?_
    refine sim_ic_eq 135 dX11_suits_118 (by decide) (fun c => ?_) (fun c => ?_)
    · exact sim_lv (am_leS (am_leS (am_leS (am_leS (am_leN (am_leS (am_leN am_leT))))))) (t_X11_suits_135 d (by omega) _ hrc51 _ _ _ _ _ _ _)
    · refine sim_iconst (1) dX11_suits_121 (by decide +kernel) ?_
      refine sim_iload dX11_suits_122 rfl ?_
      refine sim_ishl dX11_suits_124 ?_
      refine sim_aload_n dX11_suits_125 rfl ?_
      refine sim_iload dX11_suits_126 rfl ?_
      refine sim_ao1 (fun a27 e => ?_)
      refine sim_virt (d - 1) e dX11_suits_128 (k_X11_aboveOf (d - 1) (by omega) _ _ _) q_X11_aboveOf rfl rfl wm_RX11_178 rfl rfl (by omega) (Nat.le_of_ble_eq_true rfl) am_nI (am_rI fun h25 v26 => ?_) am_eI
      refine sim_ior dX11_suits_131 ?_
      refine sim_goto 136 dX11_suits_132 (by decide) ?_
      exact sim_lv (am_leS (am_leS (am_leS (am_leS (am_leN (am_leS (am_leN am_leT))))))) (t_X11_suits_136 d (by omega) _ hrc51 _ _ _ _ _ _ _ _)
def f_X11_suits_96 (rc51 : Nat × Nat → Int32 → Int32 → Int32 → Int32 → Int32 → am_H → am_R) (a0 : Nat × Nat) (x1 : Int32) (x2 : Int32) (x4 : Int32) (x5 : Int32) (x6 : Int32) (s0 : Int32) (h : am_H) : am_R := f_X11_suits_97 rc51 a0 x1 x2 x4 x5 x6 (0 : Int32) s0 h
theorem t_X11_suits_96 (d : Nat) (hd : 2 ≤ d) (rc51 : Nat × Nat → Int32 → Int32 → Int32 → Int32 → Int32 → am_H → am_R) (hrc51 : ∀ a0 x1 x2 x3 x4 x5 h, Sim m_X11_suits d 51 [some (.inr (.inr (some a0))), some (.inl x1), some (.inl x2), some (.inl x3), some (.inl x4), some (.inl x5), none] [] h (rc51 a0 x1 x2 x3 x4 x5 h)) (a0 : Nat × Nat) (x1 : Int32) (x2 : Int32) (x4 : Int32) (x5 : Int32) (x6 : Int32) (s0 : Int32) (h : am_H) : Sim m_X11_suits d 96 [some (.inr (.inr (some a0))), some (.inl x1), some (.inl x2), none, some (.inl x4), some (.inl x5), some (.inl x6)] [.inl s0] h (f_X11_suits_96 rc51 a0 x1 x2 x4 x5 x6 s0 h) := by
  unfold f_X11_suits_96
  refine sim_iconst (0) dX11_suits_96 (by decide +kernel) ?_
  exact sim_lv (am_leS (am_leS (am_leS (am_leN (am_leS (am_leS (am_leS am_leT))))))) (t_X11_suits_97 d (by omega) _ hrc51 _ _ _ _ _ _ _ _ _)
def f_X11_suits_51  : Nat → Nat × Nat → Int32 → Int32 → Int32 → Int32 → Int32 → am_H → am_R
  | 0, _, _, _, _, _, _, _ => none
  | n + 1, a0, x1, x2, x3, x4, x5, h => m_gI (some a0) 11 20 h fun v13 => if v13 ≤ x5 then (if (x3 &&& x4) = 0 then (f_X11_suits_157 (0 : Int32) h) else (f_X11_suits_157 (1 : Int32) h)) else (m_ao (some a0) 11 fun a16 => m_bI (f_X11_meaning a16 x5 h) fun h14 v15 => m_gR (some a0) 11 32 h14 fun o17 => m_aI o17 0 x2 h14 fun v18 => m_bI (f_X11_has v18 x5 h14) fun h19 v20 => if v20 = 0 then (f_X11_suits_96 (f_X11_suits_51  n) a0 x1 x2 x4 x5 v15 x3 h19) else (if v15 = (-1 : Int32) then (f_X11_suits_96 (f_X11_suits_51  n) a0 x1 x2 x4 x5 v15 x3 h19) else (f_X11_suits_97 (f_X11_suits_51  n) a0 x1 x2 x4 x5 v15 ((1 : Int32) <<< (v15 &&& 31)) x3 h19)))
theorem t_X11_suits_51 (d : Nat) (hd : 2 ≤ d)  : ∀ (n : Nat) (a0 : Nat × Nat) (x1 : Int32) (x2 : Int32) (x3 : Int32) (x4 : Int32) (x5 : Int32) (h : am_H), Sim m_X11_suits d 51 [some (.inr (.inr (some a0))), some (.inl x1), some (.inl x2), some (.inl x3), some (.inl x4), some (.inl x5), none] [] h (f_X11_suits_51  n a0 x1 x2 x3 x4 x5 h) := by
  intro n
  induction n with
  | zero => intros; exact sim_none
  | succ n hrc51 =>
    intro a0 x1 x2 x3 x4 x5 h
    rw [f_X11_suits_51]
    refine sim_iload dX11_suits_51 rfl ?_
    refine sim_aload_n dX11_suits_53 rfl ?_
    refine sim_gI 11 20 dX11_suits_54 rfl wf_RX11_136 (Nat.le_of_ble_eq_true rfl) rfl (fun v13 => ?_)
    refine sim_ic_ge 145 dX11_suits_57 (by decide) (fun c => ?_) (fun c => ?_)
    · refine sim_iload_n dX11_suits_145 rfl ?_
      refine sim_iload dX11_suits_146 rfl ?_
      refine sim_iand dX11_suits_148 ?_
      refine sim_if_eq 156 dX11_suits_149 (by decide) (fun c => ?_) (fun c => ?_)
      · refine sim_iconst (0) dX11_suits_156 (by decide +kernel) ?_
        exact sim_lv (am_leN (am_leN (am_leN (am_leN (am_leN (am_leN (am_leN am_leT))))))) (t_X11_suits_157 d (by omega) _ _)
      · refine sim_iconst (1) dX11_suits_152 (by decide +kernel) ?_
        refine sim_goto 157 dX11_suits_153 (by decide) ?_
        exact sim_lv (am_leN (am_leN (am_leN (am_leN (am_leN (am_leN (am_leN am_leT))))))) (t_X11_suits_157 d (by omega) _ _)
    · refine sim_aload_n dX11_suits_60 rfl ?_
      refine sim_iload dX11_suits_61 rfl ?_
      refine sim_ao1 (fun a16 e => ?_)
      refine sim_virt (d - 1) e dX11_suits_63 (k_X11_meaning (d - 1) (by omega) _ _ _) q_X11_meaning rfl rfl wm_RX11_175 rfl rfl (by omega) (Nat.le_of_ble_eq_true rfl) am_nI (am_rI fun h14 v15 => ?_) am_eI
      refine sim_istore dX11_suits_66 (Nat.le_of_ble_eq_true rfl) ?_
      refine sim_iload_n dX11_suits_68 rfl ?_
      refine sim_aload_n dX11_suits_69 rfl ?_
      refine sim_gR 11 32 dX11_suits_70 rfl wf_RX11_83 (Nat.le_of_ble_eq_true rfl) rfl (fun o17 => ?_)
      refine sim_iload_n dX11_suits_73 rfl ?_
      refine sim_aI dX11_suits_74 (fun v18 => ?_)
      refine sim_iload dX11_suits_75 rfl ?_
      refine sim_static (d - 1) dX11_suits_77 (k_X11_has (d - 1) (by omega) _ _ _) q_X11_has wm_RX11_155 rfl rfl (by omega) (Nat.le_of_ble_eq_true rfl) am_nI (am_rI fun h19 v20 => ?_) am_eI
      refine sim_if_eq 96 dX11_suits_80 (by decide) (fun c => ?_) (fun c => ?_)
      · exact sim_lv (am_leS (am_leS (am_leS (am_leN (am_leS (am_leS (am_leS am_leT))))))) (t_X11_suits_96 d (by omega) _ hrc51 _ _ _ _ _ _ _ _)
      · refine sim_iload dX11_suits_83 rfl ?_
        refine sim_iconst (-1) dX11_suits_85 (by decide +kernel) ?_
        refine sim_ic_eq 96 dX11_suits_86 (by decide) (fun c => ?_) (fun c => ?_)
        · exact sim_lv (am_leS (am_leS (am_leS (am_leN (am_leS (am_leS (am_leS am_leT))))))) (t_X11_suits_96 d (by omega) _ hrc51 _ _ _ _ _ _ _ _)
        · refine sim_iconst (1) dX11_suits_89 (by decide +kernel) ?_
          refine sim_iload dX11_suits_90 rfl ?_
          refine sim_ishl dX11_suits_92 ?_
          refine sim_goto 97 dX11_suits_93 (by decide) ?_
          exact sim_lv (am_leS (am_leS (am_leS (am_leN (am_leS (am_leS (am_leS am_leT))))))) (t_X11_suits_97 d (by omega) _ hrc51 _ _ _ _ _ _ _ _ _)
def f_X11_suits_41   (h : am_H) : am_R := m_rz h (0 : Int32)
theorem t_X11_suits_41 (d : Nat) (hd : 2 ≤ d)   (h : am_H) : Sim m_X11_suits d 41 [none, none, none, none, none, none, none] [] h (f_X11_suits_41   h) := by
  unfold f_X11_suits_41
  refine sim_iconst (0) dX11_suits_41 (by decide +kernel) ?_
  exact sim_zret dX11_suits_42 rfl
def f_X11_suits (a0 : Nat × Nat) (x1 : Int32) (x2 : Int32) (h : am_H) : am_R := if x1 = x2 then (f_X11_suits_41 h) else (m_gR (some a0) 11 34 h fun o1 => m_aI o1 0 x1 h fun v2 => m_gR (some a0) 11 31 h fun o3 => m_aI o3 0 x2 h fun v4 => m_bI (f_X11_has v2 v4 h) fun h5 v6 => if v6 = 0 then (m_gR (some a0) 11 34 h5 fun o7 => m_aI o7 0 x2 h5 fun v8 => m_gR (some a0) 11 31 h5 fun o9 => m_aI o9 0 x1 h5 fun v10 => m_bI (f_X11_has v8 v10 h5) fun h11 v12 => if v12 = 0 then (f_X11_suits_51 5000 a0 x1 x2 (0 : Int32) (0 : Int32) (0 : Int32) h11) else (f_X11_suits_41 h11)) else (f_X11_suits_41 h5))
theorem k_X11_suits (d : Nat) (hd : 2 ≤ d) (a0 : Nat × Nat) (x1 : Int32) (x2 : Int32) (h : am_H) : am_Con m_X11_suits d [.inr (.inr (some a0)), .inl x1, .inl x2] h (f_X11_suits a0 x1 x2 h) := am_con (by decide +kernel) (Nat.le_of_ble_eq_true rfl) (by
  unfold f_X11_suits
  refine sim_iload_n dX11_suits_0 rfl ?_
  refine sim_iload_n dX11_suits_1 rfl ?_
  refine sim_ic_eq 41 dX11_suits_2 (by decide) (fun c => ?_) (fun c => ?_)
  · exact sim_lv (am_leN (am_leN (am_leN (am_leN (am_leN (am_leN (am_leN am_leT))))))) (t_X11_suits_41 d (by omega) _)
  · refine sim_aload_n dX11_suits_5 rfl ?_
    refine sim_gR 11 34 dX11_suits_6 rfl wf_RX11_89 (Nat.le_of_ble_eq_true rfl) rfl (fun o1 => ?_)
    refine sim_iload_n dX11_suits_9 rfl ?_
    refine sim_aI dX11_suits_10 (fun v2 => ?_)
    refine sim_aload_n dX11_suits_11 rfl ?_
    refine sim_gR 11 31 dX11_suits_12 rfl wf_RX11_80 (Nat.le_of_ble_eq_true rfl) rfl (fun o3 => ?_)
    refine sim_iload_n dX11_suits_15 rfl ?_
    refine sim_aI dX11_suits_16 (fun v4 => ?_)
    refine sim_static (d - 1) dX11_suits_17 (k_X11_has (d - 1) (by omega) _ _ _) q_X11_has wm_RX11_155 rfl rfl (by omega) (Nat.le_of_ble_eq_true rfl) am_nI (am_rI fun h5 v6 => ?_) am_eI
    refine sim_if_ne 41 dX11_suits_20 (by decide) (fun c => ?_) (fun c => ?_)
    · exact sim_lv (am_leN (am_leN (am_leN (am_leN (am_leN (am_leN (am_leN am_leT))))))) (t_X11_suits_41 d (by omega) _)
    · refine sim_aload_n dX11_suits_23 rfl ?_
      refine sim_gR 11 34 dX11_suits_24 rfl wf_RX11_89 (Nat.le_of_ble_eq_true rfl) rfl (fun o7 => ?_)
      refine sim_iload_n dX11_suits_27 rfl ?_
      refine sim_aI dX11_suits_28 (fun v8 => ?_)
      refine sim_aload_n dX11_suits_29 rfl ?_
      refine sim_gR 11 31 dX11_suits_30 rfl wf_RX11_80 (Nat.le_of_ble_eq_true rfl) rfl (fun o9 => ?_)
      refine sim_iload_n dX11_suits_33 rfl ?_
      refine sim_aI dX11_suits_34 (fun v10 => ?_)
      refine sim_static (d - 1) dX11_suits_35 (k_X11_has (d - 1) (by omega) _ _ _) q_X11_has wm_RX11_155 rfl rfl (by omega) (Nat.le_of_ble_eq_true rfl) am_nI (am_rI fun h11 v12 => ?_) am_eI
      refine sim_if_eq 43 dX11_suits_38 (by decide) (fun c => ?_) (fun c => ?_)
      · refine sim_iconst (0) dX11_suits_43 (by decide +kernel) ?_
        refine sim_istore_n dX11_suits_44 (Nat.le_of_ble_eq_true rfl) ?_
        refine sim_iconst (0) dX11_suits_45 (by decide +kernel) ?_
        refine sim_istore dX11_suits_46 (Nat.le_of_ble_eq_true rfl) ?_
        refine sim_iconst (0) dX11_suits_48 (by decide +kernel) ?_
        refine sim_istore dX11_suits_49 (Nat.le_of_ble_eq_true rfl) ?_
        exact sim_lv (am_leS (am_leS (am_leS (am_leS (am_leS (am_leS (am_leN am_leT))))))) (t_X11_suits_51 d (by omega) _ _ _ _ _ _ _ _)
      · exact sim_lv (am_leN (am_leN (am_leN (am_leN (am_leN (am_leN (am_leN am_leT))))))) (t_X11_suits_41 d (by omega) _))
theorem q_X11_suits : am_Cal m_X11_suits 2 2 := ⟨am_mem 1472 (w := Cond.code yX11_suits cX11_suits 7 (some .boolean)) (by decide +kernel) rfl, am_mem 64 (w := Cond.initialized RX11) (by decide +kernel) rfl, fun z => absurd z (by decide), fun _ => am_mem 1471 (w := Cond.instanceMethod yX11_suits) (by decide +kernel) rfl, fun z => absurd z (by decide), fun _ => am_mem 49 (w := Cond.selects RX11 yX11_suits yX11_suits) (by decide +kernel) rfl, by decide +kernel, by decide +kernel, Nat.le_of_ble_eq_true rfl⟩
abbrev m_X11_counts : am_M := (yX11_counts, cX11_counts, 4, none, [])
def f_X11_counts_149 (rc82 : Nat × Nat → Int32 → am_H → am_R) (rc95 : Nat × Nat → Int32 → Int32 → am_H → am_R) (a0 : Nat × Nat) (x2 : Int32) (x3 : Int32) (s0 : Int32) (s1 : Int32) (s2 : Int32) (s3 : Option (Nat × Nat)) (h : am_H) : am_R := m_sI s3 s2 (s1 + s0) h fun h24 => rc95 a0 x2 (x3 + 1) h24
theorem t_X11_counts_149 (d : Nat) (hd : 3 ≤ d) (rc82 : Nat × Nat → Int32 → am_H → am_R) (hrc82 : ∀ a0 x2 h, Sim m_X11_counts d 82 [some (.inr (.inr (some a0))), none, some (.inl x2), none] [] h (rc82 a0 x2 h)) (rc95 : Nat × Nat → Int32 → Int32 → am_H → am_R) (hrc95 : ∀ a0 x2 x3 h, Sim m_X11_counts d 95 [some (.inr (.inr (some a0))), none, some (.inl x2), some (.inl x3)] [] h (rc95 a0 x2 x3 h)) (a0 : Nat × Nat) (x2 : Int32) (x3 : Int32) (s0 : Int32) (s1 : Int32) (s2 : Int32) (s3 : Option (Nat × Nat)) (h : am_H) : Sim m_X11_counts d 149 [some (.inr (.inr (some a0))), none, some (.inl x2), some (.inl x3)] [.inl s0, .inl s1, .inl s2, .inr (.inr s3)] h (f_X11_counts_149 rc82 rc95 a0 x2 x3 s0 s1 s2 s3 h) := by
  unfold f_X11_counts_149
  refine sim_iadd dX11_counts_149 ?_
  refine sim_sI dX11_counts_150 (fun h24 => ?_)
  refine sim_iinc (1) dX11_counts_151 rfl (by decide +kernel) (Nat.le_of_ble_eq_true rfl) ?_
  refine sim_goto 95 dX11_counts_154 (by decide) ?_
  exact sim_lv (am_leS (am_leN (am_leS (am_leS am_leT)))) (hrc95 _ _ _ _)
def f_X11_counts_148 (rc82 : Nat × Nat → Int32 → am_H → am_R) (rc95 : Nat × Nat → Int32 → Int32 → am_H → am_R) (a0 : Nat × Nat) (x2 : Int32) (x3 : Int32) (s0 : Int32) (s1 : Int32) (s2 : Option (Nat × Nat)) (h : am_H) : am_R := f_X11_counts_149 rc82 rc95 a0 x2 x3 (0 : Int32) s0 s1 s2 h
theorem t_X11_counts_148 (d : Nat) (hd : 3 ≤ d) (rc82 : Nat × Nat → Int32 → am_H → am_R) (hrc82 : ∀ a0 x2 h, Sim m_X11_counts d 82 [some (.inr (.inr (some a0))), none, some (.inl x2), none] [] h (rc82 a0 x2 h)) (rc95 : Nat × Nat → Int32 → Int32 → am_H → am_R) (hrc95 : ∀ a0 x2 x3 h, Sim m_X11_counts d 95 [some (.inr (.inr (some a0))), none, some (.inl x2), some (.inl x3)] [] h (rc95 a0 x2 x3 h)) (a0 : Nat × Nat) (x2 : Int32) (x3 : Int32) (s0 : Int32) (s1 : Int32) (s2 : Option (Nat × Nat)) (h : am_H) : Sim m_X11_counts d 148 [some (.inr (.inr (some a0))), none, some (.inl x2), some (.inl x3)] [.inl s0, .inl s1, .inr (.inr s2)] h (f_X11_counts_148 rc82 rc95 a0 x2 x3 s0 s1 s2 h) := by
  unfold f_X11_counts_148
  refine sim_iconst (0) dX11_counts_148 (by decide +kernel) ?_
  exact sim_lv (am_leS (am_leN (am_leS (am_leS am_leT)))) (t_X11_counts_149 d (by omega) _ hrc82 _ hrc95 _ _ _ _ _ _ _ _)
def f_X11_counts_95 (rc82 : Nat × Nat → Int32 → am_H → am_R) : Nat → Nat × Nat → Int32 → Int32 → am_H → am_R
  | 0, _, _, _, _ => none
  | n + 1, a0, x2, x3, h => m_gI (some a0) 11 30 h fun v13 => if v13 ≤ x3 then (rc82 a0 (x2 + (-1)) h) else (m_gR (some a0) 11 36 h fun o14 => m_aI o14 0 x2 h fun v15 => m_bI (f_X11_has x2 x3 h) fun h16 v17 => if v17 = 0 then (m_gR (some a0) 11 35 h16 fun o18 => m_bI (f_X11_bits x2 h16) fun h19 v20 => m_aI o18 1 (((8 : Int32) * v20) + x3) h19 fun v21 => if v21 = 0 then (f_X11_counts_148 rc82 (f_X11_counts_95 rc82 n) a0 x2 x3 v15 x2 o14 h19) else (m_gR (some a0) 11 36 h19 fun o22 => m_aI o22 0 (x2 ||| ((1 : Int32) <<< (x3 &&& 31))) h19 fun v23 => f_X11_counts_149 rc82 (f_X11_counts_95 rc82 n) a0 x2 x3 v23 v15 x2 o14 h19)) else (f_X11_counts_148 rc82 (f_X11_counts_95 rc82 n) a0 x2 x3 v15 x2 o14 h16))
theorem t_X11_counts_95 (d : Nat) (hd : 3 ≤ d) (rc82 : Nat × Nat → Int32 → am_H → am_R) (hrc82 : ∀ a0 x2 h, Sim m_X11_counts d 82 [some (.inr (.inr (some a0))), none, some (.inl x2), none] [] h (rc82 a0 x2 h)) : ∀ (n : Nat) (a0 : Nat × Nat) (x2 : Int32) (x3 : Int32) (h : am_H), Sim m_X11_counts d 95 [some (.inr (.inr (some a0))), none, some (.inl x2), some (.inl x3)] [] h (f_X11_counts_95 rc82 n a0 x2 x3 h) := by
  intro n
  induction n with
  | zero => intros; exact sim_none
  | succ n hrc95 =>
    intro a0 x2 x3 h
    rw [f_X11_counts_95]
    refine sim_iload_n dX11_counts_95 rfl ?_
    refine sim_aload_n dX11_counts_96 rfl ?_
    refine sim_gI 11 30 dX11_counts_97 rfl wf_RX11_239 (Nat.le_of_ble_eq_true rfl) rfl (fun v13 => ?_)
    refine sim_ic_ge 157 dX11_counts_100 (by decide) (fun c => ?_) (fun c => ?_)
    · refine sim_iinc (-1) dX11_counts_157 rfl (by decide +kernel) (Nat.le_of_ble_eq_true rfl) ?_
      refine sim_goto 82 dX11_counts_160 (by decide) ?_
      exact sim_lv (am_leS (am_leN (am_leS (am_leN am_leT)))) (hrc82 _ _ _)
    · refine sim_aload_n dX11_counts_103 rfl ?_
      refine sim_gR 11 36 dX11_counts_104 rfl wf_RX11_95 (Nat.le_of_ble_eq_true rfl) rfl (fun o14 => ?_)
      refine sim_iload_n dX11_counts_107 rfl ?_
      refine sim_dup2 dX11_counts_108 ?_
      refine sim_aI dX11_counts_109 (fun v15 => ?_)
      refine sim_iload_n dX11_counts_110 rfl ?_
      refine sim_iload_n dX11_counts_111 rfl ?_
      refine sim_static (d - 1) dX11_counts_112 (k_X11_has (d - 1) (by omega) _ _ _) q_X11_has wm_RX11_155 rfl rfl (by omega) (Nat.le_of_ble_eq_true rfl) am_nI (am_rI fun h16 v17 => ?_) am_eI
      refine sim_if_ne 148 dX11_counts_115 (by decide) (fun c => ?_) (fun c => ?_)
      · exact sim_lv (am_leS (am_leN (am_leS (am_leS am_leT)))) (t_X11_counts_148 d (by omega) _ hrc82 _ hrc95 _ _ _ _ _ _ _)
      · refine sim_aload_n dX11_counts_118 rfl ?_
        refine sim_gR 11 35 dX11_counts_119 rfl wf_RX11_92 (Nat.le_of_ble_eq_true rfl) rfl (fun o18 => ?_)
        refine sim_bipush (8) dX11_counts_122 (by decide +kernel) ?_
        refine sim_iload_n dX11_counts_124 rfl ?_
        refine sim_static (d - 1) dX11_counts_125 (k_X11_bits (d - 1) (by omega) _ _) q_X11_bits wm_RX11_159 rfl rfl (by omega) (Nat.le_of_ble_eq_true rfl) am_nI (am_rI fun h19 v20 => ?_) am_eI
        refine sim_imul dX11_counts_128 ?_
        refine sim_iload_n dX11_counts_129 rfl ?_
        refine sim_iadd dX11_counts_130 ?_
        refine sim_aZ dX11_counts_131 (fun v21 => ?_)
        refine sim_if_eq 148 dX11_counts_132 (by decide) (fun c => ?_) (fun c => ?_)
        · exact sim_lv (am_leS (am_leN (am_leS (am_leS am_leT)))) (t_X11_counts_148 d (by omega) _ hrc82 _ hrc95 _ _ _ _ _ _ _)
        · refine sim_aload_n dX11_counts_135 rfl ?_
          refine sim_gR 11 36 dX11_counts_136 rfl wf_RX11_95 (Nat.le_of_ble_eq_true rfl) rfl (fun o22 => ?_)
          refine sim_iload_n dX11_counts_139 rfl ?_
          refine sim_iconst (1) dX11_counts_140 (by decide +kernel) ?_
          refine sim_iload_n dX11_counts_141 rfl ?_
          refine sim_ishl dX11_counts_142 ?_
          refine sim_ior dX11_counts_143 ?_
          refine sim_aI dX11_counts_144 (fun v23 => ?_)
          refine sim_goto 149 dX11_counts_145 (by decide) ?_
          exact sim_lv (am_leS (am_leN (am_leS (am_leS am_leT)))) (t_X11_counts_149 d (by omega) _ hrc82 _ hrc95 _ _ _ _ _ _ _ _)
def f_X11_counts_82  : Nat → Nat × Nat → Int32 → am_H → am_R
  | 0, _, _, _ => none
  | n + 1, a0, x2, h => if x2 < 0 then (m_rt h none) else (m_gR (some a0) 11 36 h fun o11 => m_sI o11 x2 (0 : Int32) h fun h12 => f_X11_counts_95 (f_X11_counts_82  n) 5000 a0 x2 (0 : Int32) h12)
theorem t_X11_counts_82 (d : Nat) (hd : 3 ≤ d)  : ∀ (n : Nat) (a0 : Nat × Nat) (x2 : Int32) (h : am_H), Sim m_X11_counts d 82 [some (.inr (.inr (some a0))), none, some (.inl x2), none] [] h (f_X11_counts_82  n a0 x2 h) := by
  intro n
  induction n with
  | zero => intros; exact sim_none
  | succ n hrc82 =>
    intro a0 x2 h
    rw [f_X11_counts_82]
    refine sim_iload_n dX11_counts_82 rfl ?_
    refine sim_if_lt 163 dX11_counts_83 (by decide) (fun c => ?_) (fun c => ?_)
    · exact sim_vret dX11_counts_163 rfl
    · refine sim_aload_n dX11_counts_86 rfl ?_
      refine sim_gR 11 36 dX11_counts_87 rfl wf_RX11_95 (Nat.le_of_ble_eq_true rfl) rfl (fun o11 => ?_)
      refine sim_iload_n dX11_counts_90 rfl ?_
      refine sim_iconst (0) dX11_counts_91 (by decide +kernel) ?_
      refine sim_sI dX11_counts_92 (fun h12 => ?_)
      refine sim_iconst (0) dX11_counts_93 (by decide +kernel) ?_
      refine sim_istore_n dX11_counts_94 (Nat.le_of_ble_eq_true rfl) ?_
      exact sim_lv (am_leS (am_leN (am_leS (am_leS am_leT)))) (t_X11_counts_95 d (by omega) _ hrc82 _ _ _ _ _)
def f_X11_counts_55 (rc2 : Nat × Nat → Int32 → am_H → am_R) (a0 : Nat × Nat) (x1 : Int32) (s0 : Int32) (s1 : Int32) (s2 : Option (Nat × Nat)) (h : am_H) : am_R := m_sZ s2 s1 s0 h fun h10 => rc2 a0 (x1 + 1) h10
theorem t_X11_counts_55 (d : Nat) (hd : 3 ≤ d) (rc2 : Nat × Nat → Int32 → am_H → am_R) (hrc2 : ∀ a0 x1 h, Sim m_X11_counts d 2 [some (.inr (.inr (some a0))), some (.inl x1), none, none] [] h (rc2 a0 x1 h)) (a0 : Nat × Nat) (x1 : Int32) (s0 : Int32) (s1 : Int32) (s2 : Option (Nat × Nat)) (h : am_H) : Sim m_X11_counts d 55 [some (.inr (.inr (some a0))), some (.inl x1), none, none] [.inl s0, .inl s1, .inr (.inr s2)] h (f_X11_counts_55 rc2 a0 x1 s0 s1 s2 h) := by
  unfold f_X11_counts_55
  refine sim_sZ dX11_counts_55 (fun h10 => ?_)
  refine sim_iinc (1) dX11_counts_56 rfl (by decide +kernel) (Nat.le_of_ble_eq_true rfl) ?_
  refine sim_goto 2 dX11_counts_59 (by decide) ?_
  exact sim_lv (am_leS (am_leS (am_leN (am_leN am_leT)))) (hrc2 _ _ _)
def f_X11_counts_54 (rc2 : Nat × Nat → Int32 → am_H → am_R) (a0 : Nat × Nat) (x1 : Int32) (s0 : Int32) (s1 : Option (Nat × Nat)) (h : am_H) : am_R := f_X11_counts_55 rc2 a0 x1 (0 : Int32) s0 s1 h
theorem t_X11_counts_54 (d : Nat) (hd : 3 ≤ d) (rc2 : Nat × Nat → Int32 → am_H → am_R) (hrc2 : ∀ a0 x1 h, Sim m_X11_counts d 2 [some (.inr (.inr (some a0))), some (.inl x1), none, none] [] h (rc2 a0 x1 h)) (a0 : Nat × Nat) (x1 : Int32) (s0 : Int32) (s1 : Option (Nat × Nat)) (h : am_H) : Sim m_X11_counts d 54 [some (.inr (.inr (some a0))), some (.inl x1), none, none] [.inl s0, .inr (.inr s1)] h (f_X11_counts_54 rc2 a0 x1 s0 s1 h) := by
  unfold f_X11_counts_54
  refine sim_iconst (0) dX11_counts_54 (by decide +kernel) ?_
  exact sim_lv (am_leS (am_leS (am_leN (am_leN am_leT)))) (t_X11_counts_55 d (by omega) _ hrc2 _ _ _ _ _ _)
def f_X11_counts_2  : Nat → Nat × Nat → Int32 → am_H → am_R
  | 0, _, _, _ => none
  | n + 1, a0, x1, h => if (64 : Int32) ≤ x1 then (m_gI (some a0) 11 30 h fun v1 => m_gR (some a0) 11 36 h fun o2 => m_sI o2 (((1 : Int32) <<< (v1 &&& 31)) - (1 : Int32)) (1 : Int32) h fun h3 => f_X11_counts_82 5000 a0 ((((1 : Int32) <<< (v1 &&& 31)) - (1 : Int32)) - (1 : Int32)) h3) else (m_gR (some a0) 11 35 h fun o4 => m_dv (8 : Int32) <| m_gI (some a0) 11 30 h fun v5 => if v5 ≤ (x1 / (8 : Int32)) then (f_X11_counts_54 (f_X11_counts_2  n) a0 x1 x1 o4 h) else (m_dv (8 : Int32) <| m_gI (some a0) 11 30 h fun v6 => if v6 ≤ (x1 - x1 / (8 : Int32) * (8 : Int32)) then (f_X11_counts_54 (f_X11_counts_2  n) a0 x1 x1 o4 h) else (m_dv (8 : Int32) <| m_dv (8 : Int32) <| m_ao (some a0) 11 fun a9 => m_bI (f_X11_suits a9 (x1 / (8 : Int32)) (x1 - x1 / (8 : Int32) * (8 : Int32)) h) fun h7 v8 => if v8 = 0 then (f_X11_counts_54 (f_X11_counts_2  n) a0 x1 x1 o4 h7) else (f_X11_counts_55 (f_X11_counts_2  n) a0 x1 (1 : Int32) x1 o4 h7))))
theorem t_X11_counts_2 (d : Nat) (hd : 3 ≤ d)  : ∀ (n : Nat) (a0 : Nat × Nat) (x1 : Int32) (h : am_H), Sim m_X11_counts d 2 [some (.inr (.inr (some a0))), some (.inl x1), none, none] [] h (f_X11_counts_2  n a0 x1 h) := by
  intro n
  induction n with
  | zero => intros; exact sim_none
  | succ n hrc2 =>
    intro a0 x1 h
    rw [f_X11_counts_2]
    refine sim_iload_n dX11_counts_2 rfl ?_
    refine sim_bipush (64) dX11_counts_3 (by decide +kernel) ?_
    refine sim_ic_ge 62 dX11_counts_5 (by decide) (fun c => ?_) (fun c => ?_)
    · refine sim_iconst (1) dX11_counts_62 (by decide +kernel) ?_
      refine sim_aload_n dX11_counts_63 rfl ?_
      refine sim_gI 11 30 dX11_counts_64 rfl wf_RX11_239 (Nat.le_of_ble_eq_true rfl) rfl (fun v1 => ?_)
      refine sim_ishl dX11_counts_67 ?_
      refine sim_iconst (1) dX11_counts_68 (by decide +kernel) ?_
      refine sim_isub dX11_counts_69 ?_
      refine sim_istore_n dX11_counts_70 (Nat.le_of_ble_eq_true rfl) ?_
      refine sim_aload_n dX11_counts_71 rfl ?_
      refine sim_gR 11 36 dX11_counts_72 rfl wf_RX11_95 (Nat.le_of_ble_eq_true rfl) rfl (fun o2 => ?_)
      refine sim_iload_n dX11_counts_75 rfl ?_
      refine sim_iconst (1) dX11_counts_76 (by decide +kernel) ?_
      refine sim_sI dX11_counts_77 (fun h3 => ?_)
      refine sim_iload_n dX11_counts_78 rfl ?_
      refine sim_iconst (1) dX11_counts_79 (by decide +kernel) ?_
      refine sim_isub dX11_counts_80 ?_
      refine sim_istore_n dX11_counts_81 (Nat.le_of_ble_eq_true rfl) ?_
      exact sim_lv (am_leS (am_leN (am_leS (am_leN am_leT)))) (t_X11_counts_82 d (by omega) _ _ _ _)
    · refine sim_aload_n dX11_counts_8 rfl ?_
      refine sim_gR 11 35 dX11_counts_9 rfl wf_RX11_92 (Nat.le_of_ble_eq_true rfl) rfl (fun o4 => ?_)
      refine sim_iload_n dX11_counts_12 rfl ?_
      refine sim_iload_n dX11_counts_13 rfl ?_
      refine sim_bipush (8) dX11_counts_14 (by decide +kernel) ?_
      refine sim_dv dX11_counts_16 ?_
      refine sim_aload_n dX11_counts_17 rfl ?_
      refine sim_gI 11 30 dX11_counts_18 rfl wf_RX11_239 (Nat.le_of_ble_eq_true rfl) rfl (fun v5 => ?_)
      refine sim_ic_ge 54 dX11_counts_21 (by decide) (fun c => ?_) (fun c => ?_)
      · exact sim_lv (am_leS (am_leS (am_leN (am_leN am_leT)))) (t_X11_counts_54 d (by omega) _ hrc2 _ _ _ _ _)
      · refine sim_iload_n dX11_counts_24 rfl ?_
        refine sim_bipush (8) dX11_counts_25 (by decide +kernel) ?_
        refine sim_rm dX11_counts_27 ?_
        refine sim_aload_n dX11_counts_28 rfl ?_
        refine sim_gI 11 30 dX11_counts_29 rfl wf_RX11_239 (Nat.le_of_ble_eq_true rfl) rfl (fun v6 => ?_)
        refine sim_ic_ge 54 dX11_counts_32 (by decide) (fun c => ?_) (fun c => ?_)
        · exact sim_lv (am_leS (am_leS (am_leN (am_leN am_leT)))) (t_X11_counts_54 d (by omega) _ hrc2 _ _ _ _ _)
        · refine sim_aload_n dX11_counts_35 rfl ?_
          refine sim_iload_n dX11_counts_36 rfl ?_
          refine sim_bipush (8) dX11_counts_37 (by decide +kernel) ?_
          refine sim_dv dX11_counts_39 ?_
          refine sim_iload_n dX11_counts_40 rfl ?_
          refine sim_bipush (8) dX11_counts_41 (by decide +kernel) ?_
          refine sim_rm dX11_counts_43 ?_
          refine sim_ao2 (fun a9 e => ?_)
          refine sim_virt (d - 1) e dX11_counts_44 (k_X11_suits (d - 1) (by omega) _ _ _ _) q_X11_suits rfl rfl wm_RX11_242 rfl rfl (by omega) (Nat.le_of_ble_eq_true rfl) am_nI (am_rI fun h7 v8 => ?_) am_eI
          refine sim_if_eq 54 dX11_counts_47 (by decide) (fun c => ?_) (fun c => ?_)
          · exact sim_lv (am_leS (am_leS (am_leN (am_leN am_leT)))) (t_X11_counts_54 d (by omega) _ hrc2 _ _ _ _ _)
          · refine sim_iconst (1) dX11_counts_50 (by decide +kernel) ?_
            refine sim_goto 55 dX11_counts_51 (by decide) ?_
            exact sim_lv (am_leS (am_leS (am_leN (am_leN am_leT)))) (t_X11_counts_55 d (by omega) _ hrc2 _ _ _ _ _ _)
def f_X11_counts (a0 : Nat × Nat) (h : am_H) : am_R := f_X11_counts_2 5000 a0 (0 : Int32) h
theorem k_X11_counts (d : Nat) (hd : 3 ≤ d) (a0 : Nat × Nat) (h : am_H) : am_Con m_X11_counts d [.inr (.inr (some a0))] h (f_X11_counts a0 h) := am_con (by decide +kernel) (Nat.le_of_ble_eq_true rfl) (by
  unfold f_X11_counts
  refine sim_iconst (0) dX11_counts_0 (by decide +kernel) ?_
  refine sim_istore_n dX11_counts_1 (Nat.le_of_ble_eq_true rfl) ?_
  exact sim_lv (am_leS (am_leS (am_leN (am_leN am_leT)))) (t_X11_counts_2 d (by omega) _ _ _ _))
theorem q_X11_counts : am_Cal m_X11_counts 0 2 := ⟨am_mem 1468 (w := Cond.code yX11_counts cX11_counts 4 none) (by decide +kernel) rfl, am_mem 64 (w := Cond.initialized RX11) (by decide +kernel) rfl, fun z => absurd z (by decide), fun _ => am_mem 1467 (w := Cond.instanceMethod yX11_counts) (by decide +kernel) rfl, fun z => absurd z (by decide), fun _ => am_mem 48 (w := Cond.selects RX11 yX11_counts yX11_counts) (by decide +kernel) rfl, by decide +kernel, by decide +kernel, Nat.le_of_ble_eq_true rfl⟩
